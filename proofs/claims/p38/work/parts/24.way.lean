theorem dX11_way_0 : decode cX11_way 0 = .ok (.aload_n 0, 1) := by decide +kernel
theorem dX11_way_1 : decode cX11_way 1 = .ok (.iload_n 1, 1) := by decide +kernel
theorem dX11_way_2 : decode cX11_way 2 = .ok (.iload_n 2, 1) := by decide +kernel
theorem dX11_way_3 : decode cX11_way 3 = .ok (.invokevirtual 202, 3) := by decide +kernel
theorem dX11_way_6 : decode cX11_way 6 = .ok (.ifCond .eq 5, 3) := by decide +kernel
theorem dX11_way_9 : decode cX11_way 9 = .ok (.iconst 0, 1) := by decide +kernel
theorem dX11_way_10 : decode cX11_way 10 = .ok (.ireturn, 1) := by decide +kernel
theorem dX11_way_11 : decode cX11_way 11 = .ok (.aload_n 0, 1) := by decide +kernel
theorem dX11_way_12 : decode cX11_way 12 = .ok (.iload_n 1, 1) := by decide +kernel
theorem dX11_way_13 : decode cX11_way 13 = .ok (.iconst 3, 1) := by decide +kernel
theorem dX11_way_14 : decode cX11_way 14 = .ok (.invokevirtual 89, 3) := by decide +kernel
theorem dX11_way_17 : decode cX11_way 17 = .ok (.lconst 1, 1) := by decide +kernel
theorem dX11_way_18 : decode cX11_way 18 = .ok (.ladd, 1) := by decide +kernel
theorem dX11_way_19 : decode cX11_way 19 = .ok (.aload_n 0, 1) := by decide +kernel
theorem dX11_way_20 : decode cX11_way 20 = .ok (.iload_n 1, 1) := by decide +kernel
theorem dX11_way_21 : decode cX11_way 21 = .ok (.iconst 2, 1) := by decide +kernel
theorem dX11_way_22 : decode cX11_way 22 = .ok (.invokevirtual 89, 3) := by decide +kernel
theorem dX11_way_25 : decode cX11_way 25 = .ok (.lcmp, 1) := by decide +kernel
theorem dX11_way_26 : decode cX11_way 26 = .ok (.ifCond .le 5, 3) := by decide +kernel
theorem dX11_way_29 : decode cX11_way 29 = .ok (.iconst 4, 1) := by decide +kernel
theorem dX11_way_30 : decode cX11_way 30 = .ok (.ireturn, 1) := by decide +kernel
theorem dX11_way_31 : decode cX11_way 31 = .ok (.aload_n 0, 1) := by decide +kernel
theorem dX11_way_32 : decode cX11_way 32 = .ok (.iload_n 1, 1) := by decide +kernel
theorem dX11_way_33 : decode cX11_way 33 = .ok (.iload_n 2, 1) := by decide +kernel
theorem dX11_way_34 : decode cX11_way 34 = .ok (.invokevirtual 155, 3) := by decide +kernel
theorem dX11_way_37 : decode cX11_way 37 = .ok (.istore_n 3, 1) := by decide +kernel
theorem dX11_way_38 : decode cX11_way 38 = .ok (.aload_n 0, 1) := by decide +kernel
theorem dX11_way_39 : decode cX11_way 39 = .ok (.getfield 30, 3) := by decide +kernel
theorem dX11_way_42 : decode cX11_way 42 = .ok (.sipush 2048, 3) := by decide +kernel
theorem dX11_way_45 : decode cX11_way 45 = .ok (.iload_n 1, 1) := by decide +kernel
theorem dX11_way_46 : decode cX11_way 46 = .ok (.imul, 1) := by decide +kernel
theorem dX11_way_47 : decode cX11_way 47 = .ok (.iload_n 3, 1) := by decide +kernel
theorem dX11_way_48 : decode cX11_way 48 = .ok (.iadd, 1) := by decide +kernel
theorem dX11_way_49 : decode cX11_way 49 = .ok (.iaload, 1) := by decide +kernel
theorem dX11_way_50 : decode cX11_way 50 = .ok (.istore 4, 2) := by decide +kernel
theorem dX11_way_52 : decode cX11_way 52 = .ok (.aload_n 0, 1) := by decide +kernel
theorem dX11_way_53 : decode cX11_way 53 = .ok (.getfield 33, 3) := by decide +kernel
theorem dX11_way_56 : decode cX11_way 56 = .ok (.sipush 2048, 3) := by decide +kernel
theorem dX11_way_59 : decode cX11_way 59 = .ok (.iload_n 1, 1) := by decide +kernel
theorem dX11_way_60 : decode cX11_way 60 = .ok (.imul, 1) := by decide +kernel
theorem dX11_way_61 : decode cX11_way 61 = .ok (.iload_n 3, 1) := by decide +kernel
theorem dX11_way_62 : decode cX11_way 62 = .ok (.iadd, 1) := by decide +kernel
theorem dX11_way_63 : decode cX11_way 63 = .ok (.iaload, 1) := by decide +kernel
theorem dX11_way_64 : decode cX11_way 64 = .ok (.iload 4, 2) := by decide +kernel
theorem dX11_way_66 : decode cX11_way 66 = .ok (.if_icmp .ge 25, 3) := by decide +kernel
theorem dX11_way_69 : decode cX11_way 69 = .ok (.aload_n 0, 1) := by decide +kernel
theorem dX11_way_70 : decode cX11_way 70 = .ok (.iload_n 1, 1) := by decide +kernel
theorem dX11_way_71 : decode cX11_way 71 = .ok (.iload_n 3, 1) := by decide +kernel
theorem dX11_way_72 : decode cX11_way 72 = .ok (.aload_n 0, 1) := by decide +kernel
theorem dX11_way_73 : decode cX11_way 73 = .ok (.iload_n 1, 1) := by decide +kernel
theorem dX11_way_74 : decode cX11_way 74 = .ok (.iload_n 3, 1) := by decide +kernel
theorem dX11_way_75 : decode cX11_way 75 = .ok (.iload_n 2, 1) := by decide +kernel
theorem dX11_way_76 : decode cX11_way 76 = .ok (.invokevirtual 148, 3) := by decide +kernel
theorem dX11_way_79 : decode cX11_way 79 = .ok (.invokevirtual 206, 3) := by decide +kernel
theorem dX11_way_82 : decode cX11_way 82 = .ok (.ifCond .eq 7, 3) := by decide +kernel
theorem dX11_way_85 : decode cX11_way 85 = .ok (.iconst 1, 1) := by decide +kernel
theorem dX11_way_86 : decode cX11_way 86 = .ok (.goto 4, 3) := by decide +kernel
theorem dX11_way_89 : decode cX11_way 89 = .ok (.iconst 2, 1) := by decide +kernel
theorem dX11_way_90 : decode cX11_way 90 = .ok (.ireturn, 1) := by decide +kernel
theorem dX11_way_91 : decode cX11_way 91 = .ok (.iload 4, 2) := by decide +kernel
theorem dX11_way_93 : decode cX11_way 93 = .ok (.ifCond .ne 9, 3) := by decide +kernel
theorem dX11_way_96 : decode cX11_way 96 = .ok (.ldc2_w 210, 3) := by decide +kernel
theorem dX11_way_99 : decode cX11_way 99 = .ok (.goto 10, 3) := by decide +kernel
theorem dX11_way_102 : decode cX11_way 102 = .ok (.ldc2_w 210, 3) := by decide +kernel
theorem dX11_way_105 : decode cX11_way 105 = .ok (.iload 4, 2) := by decide +kernel
theorem dX11_way_107 : decode cX11_way 107 = .ok (.i2l, 1) := by decide +kernel
theorem dX11_way_108 : decode cX11_way 108 = .ok (.lmul, 1) := by decide +kernel
theorem dX11_way_109 : decode cX11_way 109 = .ok (.lstore 5, 2) := by decide +kernel
theorem dX11_way_111 : decode cX11_way 111 = .ok (.aload_n 0, 1) := by decide +kernel
theorem dX11_way_112 : decode cX11_way 112 = .ok (.iload_n 1, 1) := by decide +kernel
theorem dX11_way_113 : decode cX11_way 113 = .ok (.iconst 5, 1) := by decide +kernel
theorem dX11_way_114 : decode cX11_way 114 = .ok (.invokevirtual 89, 3) := by decide +kernel
theorem dX11_way_117 : decode cX11_way 117 = .ok (.iload 4, 2) := by decide +kernel
theorem dX11_way_119 : decode cX11_way 119 = .ok (.i2l, 1) := by decide +kernel
theorem dX11_way_120 : decode cX11_way 120 = .ok (.iload 4, 2) := by decide +kernel
theorem dX11_way_122 : decode cX11_way 122 = .ok (.i2l, 1) := by decide +kernel
theorem dX11_way_123 : decode cX11_way 123 = .ok (.lmul, 1) := by decide +kernel
theorem dX11_way_124 : decode cX11_way 124 = .ok (.lsub, 1) := by decide +kernel
theorem dX11_way_125 : decode cX11_way 125 = .ok (.lload 5, 2) := by decide +kernel
theorem dX11_way_127 : decode cX11_way 127 = .ok (.lload 5, 2) := by decide +kernel
theorem dX11_way_129 : decode cX11_way 129 = .ok (.lmul, 1) := by decide +kernel
theorem dX11_way_130 : decode cX11_way 130 = .ok (.ladd, 1) := by decide +kernel
theorem dX11_way_131 : decode cX11_way 131 = .ok (.aload_n 0, 1) := by decide +kernel
theorem dX11_way_132 : decode cX11_way 132 = .ok (.iload_n 1, 1) := by decide +kernel
theorem dX11_way_133 : decode cX11_way 133 = .ok (.bipush 14, 2) := by decide +kernel
theorem dX11_way_135 : decode cX11_way 135 = .ok (.invokevirtual 89, 3) := by decide +kernel
theorem dX11_way_138 : decode cX11_way 138 = .ok (.aload_n 0, 1) := by decide +kernel
theorem dX11_way_139 : decode cX11_way 139 = .ok (.iload_n 1, 1) := by decide +kernel
theorem dX11_way_140 : decode cX11_way 140 = .ok (.iconst 2, 1) := by decide +kernel
theorem dX11_way_141 : decode cX11_way 141 = .ok (.invokevirtual 89, 3) := by decide +kernel
theorem dX11_way_144 : decode cX11_way 144 = .ok (.lmul, 1) := by decide +kernel
theorem dX11_way_145 : decode cX11_way 145 = .ok (.lcmp, 1) := by decide +kernel
theorem dX11_way_146 : decode cX11_way 146 = .ok (.ifCond .gt 7, 3) := by decide +kernel
theorem dX11_way_149 : decode cX11_way 149 = .ok (.iconst 3, 1) := by decide +kernel
theorem dX11_way_150 : decode cX11_way 150 = .ok (.goto 4, 3) := by decide +kernel
theorem dX11_way_153 : decode cX11_way 153 = .ok (.iconst 4, 1) := by decide +kernel
theorem dX11_way_154 : decode cX11_way 154 = .ok (.ireturn, 1) := by decide +kernel
def own_c_way : List Cond := [.methodLink RX11 202 yX11_hasKey, .instanceMethod yX11_hasKey, .selects RX11 yX11_hasKey yX11_hasKey, .initialized RX11, .methodLink RX11 89 yX11_of, .instanceMethod yX11_of, .selects RX11 yX11_of yX11_of, .methodLink RX11 155 yX11_bucketOf, .instanceMethod yX11_bucketOf, .selects RX11 yX11_bucketOf yX11_bucketOf, .fieldLink RX11 30 "ClashFreeModel" "roofs" "[I", .fieldLink RX11 33 "ClashFreeModel" "has" "[I", .constantLong RX11 210 (2), .methodLink RX11 148 yX11_roomOf, .instanceMethod yX11_roomOf, .selects RX11 yX11_roomOf yX11_roomOf, .methodLink RX11 206 yX11_isEmpty, .instanceMethod yX11_isEmpty, .selects RX11 yX11_isEmpty yX11_isEmpty]
def wp_c_way : List Cond := .code yX11_way cX11_way 7 (some .int) :: (own_c_way ++ (wp_c_hasKey ++ (wp_c_of ++ (wp_c_bucketOf ++ (wp_c_roomOf ++ (wp_c_isEmpty ++ (wsX110 ++ ([] : List Cond))))))))
set_option maxRecDepth 20000 in
theorem inown_c_way : ∀ w ∈ own_c_way, w ∈ lw_tbl := mem_places [1477, 1479, 56, 115, 1400, 1402, 41, 1430, 1432, 47, 1224, 1225, 1497, 1450, 1452, 51, 1493, 1495, 60] (by decide +kernel)
set_option maxRecDepth 20000 in
theorem in_c_way : ∀ w ∈ wp_c_way, w ∈ lw_tbl := List.forall_mem_cons.mpr ⟨List.mem_of_getElem? (i := 1492) (by decide +kernel), List.forall_mem_append.mpr ⟨inown_c_way, List.forall_mem_append.mpr ⟨in_c_hasKey, List.forall_mem_append.mpr ⟨in_c_of, List.forall_mem_append.mpr ⟨in_c_bucketOf, List.forall_mem_append.mpr ⟨in_c_roomOf, List.forall_mem_append.mpr ⟨in_c_isEmpty, List.forall_mem_append.mpr ⟨lwb_X11, fun _ h => absurd h List.not_mem_nil⟩⟩⟩⟩⟩⟩⟩⟩
set_option maxRecDepth 20000 in
theorem good_c_way : wp_c_way.all goodWord = true := by decide +kernel
set_option maxRecDepth 20000 in
theorem g_c_way_c_hasKey_202 : GoodIn wp_c_way (wsV RX11 202 RX11 yX11_hasKey wp_c_hasKey) := goodIn_sub (List.forall_mem_append.mpr ⟨List.forall_mem_cons.mpr ⟨(List.mem_of_getElem? (i := 1) rfl), List.forall_mem_cons.mpr ⟨(List.mem_of_getElem? (i := 2) rfl), List.forall_mem_cons.mpr ⟨(List.mem_of_getElem? (i := 3) rfl), List.forall_mem_cons.mpr ⟨(List.mem_of_getElem? (i := 4) rfl), fun _ h => absurd h List.not_mem_nil⟩⟩⟩⟩, (fun _ h => (List.mem_cons_of_mem _ (List.mem_append_right _ (List.mem_append_left _ h))))⟩) (by decide +kernel)
set_option maxRecDepth 20000 in
theorem g_c_way_c_of_89 : GoodIn wp_c_way (wsV RX11 89 RX11 yX11_of wp_c_of) := goodIn_sub (List.forall_mem_append.mpr ⟨List.forall_mem_cons.mpr ⟨(List.mem_of_getElem? (i := 5) rfl), List.forall_mem_cons.mpr ⟨(List.mem_of_getElem? (i := 6) rfl), List.forall_mem_cons.mpr ⟨(List.mem_of_getElem? (i := 7) rfl), List.forall_mem_cons.mpr ⟨(List.mem_of_getElem? (i := 4) rfl), fun _ h => absurd h List.not_mem_nil⟩⟩⟩⟩, (fun _ h => (List.mem_cons_of_mem _ (List.mem_append_right _ (List.mem_append_right _ (List.mem_append_left _ h)))))⟩) (by decide +kernel)
set_option maxRecDepth 20000 in
theorem g_c_way_c_bucketOf_155 : GoodIn wp_c_way (wsV RX11 155 RX11 yX11_bucketOf wp_c_bucketOf) := goodIn_sub (List.forall_mem_append.mpr ⟨List.forall_mem_cons.mpr ⟨(List.mem_of_getElem? (i := 8) rfl), List.forall_mem_cons.mpr ⟨(List.mem_of_getElem? (i := 9) rfl), List.forall_mem_cons.mpr ⟨(List.mem_of_getElem? (i := 10) rfl), List.forall_mem_cons.mpr ⟨(List.mem_of_getElem? (i := 4) rfl), fun _ h => absurd h List.not_mem_nil⟩⟩⟩⟩, (fun _ h => (List.mem_cons_of_mem _ (List.mem_append_right _ (List.mem_append_right _ (List.mem_append_right _ (List.mem_append_left _ h))))))⟩) (by decide +kernel)
set_option maxRecDepth 20000 in
theorem g_c_way_c_roomOf_148 : GoodIn wp_c_way (wsV RX11 148 RX11 yX11_roomOf wp_c_roomOf) := goodIn_sub (List.forall_mem_append.mpr ⟨List.forall_mem_cons.mpr ⟨(List.mem_of_getElem? (i := 14) rfl), List.forall_mem_cons.mpr ⟨(List.mem_of_getElem? (i := 15) rfl), List.forall_mem_cons.mpr ⟨(List.mem_of_getElem? (i := 16) rfl), List.forall_mem_cons.mpr ⟨(List.mem_of_getElem? (i := 4) rfl), fun _ h => absurd h List.not_mem_nil⟩⟩⟩⟩, (fun _ h => (List.mem_cons_of_mem _ (List.mem_append_right _ (List.mem_append_right _ (List.mem_append_right _ (List.mem_append_right _ (List.mem_append_left _ h)))))))⟩) (by decide +kernel)
set_option maxRecDepth 20000 in
theorem g_c_way_c_isEmpty_206 : GoodIn wp_c_way (wsV RX11 206 RX11 yX11_isEmpty wp_c_isEmpty) := goodIn_sub (List.forall_mem_append.mpr ⟨List.forall_mem_cons.mpr ⟨(List.mem_of_getElem? (i := 17) rfl), List.forall_mem_cons.mpr ⟨(List.mem_of_getElem? (i := 18) rfl), List.forall_mem_cons.mpr ⟨(List.mem_of_getElem? (i := 19) rfl), List.forall_mem_cons.mpr ⟨(List.mem_of_getElem? (i := 4) rfl), fun _ h => absurd h List.not_mem_nil⟩⟩⟩⟩, (fun _ h => (List.mem_cons_of_mem _ (List.mem_append_right _ (List.mem_append_right _ (List.mem_append_right _ (List.mem_append_right _ (List.mem_append_right _ (List.mem_append_left _ h))))))))⟩) (by decide +kernel)
set_option maxHeartbeats 4000000 in
set_option maxRecDepth 100000 in
theorem c_way (l : Launch) (D : va_G) (sz : Nat) (h0 : Nat) (a : Nat → Nat) (cm : Nat → ClassId) (i : Nat → Int32) (g : Nat → Int64) (fn : Nat → Int64) (fk : Nat → Int32) (fb : Nat → Int32) (fr : Nat → Int32) (ff : Nat → Int32) (fh : Nat → Int32) (fa : Nat → Int64) (fs : Nat → Int64) (k : Nat) (cn : Nat) (nb : Nat) (K : Nat → Nat) (J : Nat → Nat) (kx : Nat) (ka : Nat) (kb : Nat) (hk : k < 4) (hT : TabS k cn nb K J fn fk fb ff fh) (hkx : kx < 2147483647) (hka : ka < 2147483647) (hkb : kb < 2147483647) (h6 : fn (17 * k + 6) = lN ka) (h7 : fn (17 * k + 7) = lN kb) (hfa : RngL fa) (hfs : RngL fs) : Met l yX11_way wp_c_way ({ frames := 5, cells := 0, slots := 0, locals := 129 }) (PcR D [.ref h0, .int (nI k), .int (nI kx)] sz [(h0, .inr (11, gM a i g)), (a 3, .inl (cm 3, 85, .inr (.inl fn))), (a 4, .inl (cm 4, 800, .inl fk)), (a 6, .inl (cm 6, 800, .inl fb)), (a 7, .inl (cm 7, 800, .inl fr)), (a 8, .inl (cm 8, 10240, .inl ff)), (a 9, .inl (cm 9, 10240, .inl fh)), (a 10, .inl (cm 10, 10240, .inr (.inl fa))), (a 11, .inl (cm 11, 10240, .inr (.inl fs)))] [(cm 3, .long), (cm 4, .int), (cm 6, .int), (cm 7, .int), (cm 8, .int), (cm 9, .int), (cm 10, .long), (cm 11, .long)]) (va_Qi (fun (r : Int32) (u : Unit) => (r = 0 ∧ ∃ q, q < cn ∧ K q = kx) ∨ (r = 1 ∧ (∀ q, q < cn → K q ≠ kx) ∧ (∀ rf, ff (2048 * k + ((ka * kx + kb) % 2147483647 % nb)) = nI rf → rf ≤ 320 → cntJ J cn ((ka * kx + kb) % 2147483647 % nb) < rf)) ∨ (r = 2 ∧ (∀ q, q < cn → K q ≠ kx) ∧ (∀ rf, ff (2048 * k + ((ka * kx + kb) % 2147483647 % nb)) = nI rf → rf ≤ 320 → cntJ J cn ((ka * kx + kb) % 2147483647 % nb) < rf)) ∨ (r = 3 ∧ (∀ q, q < cn → K q ≠ kx) ∧ (∀ rf, ff (2048 * k + ((ka * kx + kb) % 2147483647 % nb)) = nI rf → rf ≤ 320 → rf ≤ cntJ J cn ((ka * kx + kb) % 2147483647 % nb))) ∨ (r = 4 ∧ (∀ q, q < cn → K q ≠ kx))) (fun (_ : Unit) _ => True) (va_A [] sz)) 0 0 (va_A [] sz) := by
  refine Met.ofW (cc := cX11_way) (maxL := 7) (ret := (some .int)) (by decide) rfl ?_
  intro p e s m args below meth c s₁ B hml hv
  obtain ⟨rfl, hsz, hP, hK⟩ := hv
  have hx := B.exec
  have hb := B.bytes
  have hr := B.returns
  have hts := atoms_spec (ws := wp_c_way) B.pre
  have hin_X11 : ∀ w ∈ wsX110, w ∈ wp_c_way := fun _ h => (List.mem_cons_of_mem _ (List.mem_append_right _ (List.mem_append_right _ (List.mem_append_right _ (List.mem_append_right _ (List.mem_append_right _ (List.mem_append_right _ (List.mem_append_left _ h))))))))
  have hown : s.vm.findClass RX11 = some m.cls := findClass_of_methodNamed B.named
  have hlocks := B.notSynchronized
  subst hsz
  generalize hAe : va_A [] s.heap.size = A at ⊢
  have hA : ∀ q : Nat, s.heap.size ≤ q → A q := fun q h => by rw [← hAe]; exact Or.inr h
  have hS : va_S A s.heap s.heap [] := va_S.rf
  have hP : va_P D vwCl [(h0, .inr (11, gM a i g)), (a 3, .inl (cm 3, 85, .inr (.inl fn))), (a 4, .inl (cm 4, 800, .inl fk)), (a 6, .inl (cm 6, 800, .inl fb)), (a 7, .inl (cm 7, 800, .inl fr)), (a 8, .inl (cm 8, 10240, .inl ff)), (a 9, .inl (cm 9, 10240, .inl fh)), (a 10, .inl (cm 10, 10240, .inr (.inl fa))), (a 11, .inl (cm 11, 10240, .inr (.inl fs)))] s.heap := hP
  have hl := lv_entry ([.ref h0, .int (nI k), .int (nI kx)]) (n := 7) (Nat.le_of_ble_eq_true rfl)
  rw [lg_entry_eq]
  generalize (lg_sl ([.ref h0, .int (nI k), .int (nI kx)]) ++ List.replicate (7 - (lg_sl ([.ref h0, .int (nI k), .int (nI kx)])).length) Slot.unset).toArray = ls at hl ⊢
  have hl : lv_has ls 7 [(0, .ref h0), (1, .int (nI k)), (2, .int (nI kx))] := hl
  obtain ⟨h1, hcn, h4, hn1, hn2, -, hKy, hBk, hHs, hSt⟩ := id hT
  have hbl : ((ka * kx + kb) % 2147483647 % nb) < nb := Nat.mod_lt _ (by omega)
  obtain ⟨hq1, rf, hrf, hq2, hq3⟩ := hHs _ hbl
  have hcl := cntJ_le J cn ((ka * kx + kb) % 2147483647 % nb)
  refine lv_aload_n hx hb dX11_way_0 rfl (lv_at hl 0 rfl) ?_
  refine lv_iload_n hx hb dX11_way_1 rfl (lv_at hl 1 rfl) ?_
  refine lv_iload_n hx hb dX11_way_2 rfl (lv_at hl 2 rfl) ?_
  have hPc := hP.sub (ws' := [(h0, .inr (11, gM a i g)), (a 3, .inl (cm 3, 85, .inr (.inl fn))), (a 4, .inl (cm 4, 800, .inl fk))]) [0, 1, 2] rfl
  have hKc := hK.sub (tys' := [(cm 3, .long), (cm 4, .int)]) [0, 1] rfl
  have hFc := va_free0 hS hA
  refine va_calli (va_runV (As := [.int (nI k), .int (nI kx)]) (rest := []) ⟨hx, hb, hml, hown, hts⟩ (c_hasKey l D _ h0 a cm i g fn fk k cn K kx (by first | assumption | omega) h1 (by first | assumption | omega) hKy (by first | assumption | omega)) (cwV 2 hts g_c_way_c_hasKey_202 rfl rfl rfl (by decide +kernel) ⟨(Nat.le_of_ble_eq_true rfl), (Nat.le_of_ble_eq_true rfl)⟩) (PcR_V (q0 := 0) hPc hKc rfl rfl) rfl rfl hl.1 rfl (lv_room (Nat.le_of_ble_eq_true rfl)) dX11_way_3 ⟨(Nat.le_of_ble_eq_true rfl), (Nat.le_of_ble_eq_true rfl)⟩) hS (fun q _ h => hFc q h) hFc (fun r1 uu tt H locs htt hvm hw hB hz1 hk1 hS => ?_)
  have hP := va_keep hP hk1
  try dsimp only at hw
  clear hB hz1 hk1 hFc hPc hKc
  rcases hw with ⟨rfl, hA_r1⟩ | ⟨rfl, hA_r1⟩
  ·
    refine lv_if_eq (tgt := 11) hx hb dX11_way_6 (by decide) (fun hc => absurd hc (by decide)) (fun hc => ?_)
    refine lv_iconst (v := 0) hx hb dX11_way_9 (by decide) ?_
    exact W.iret (v := 0) hx hb hr (fun t ht hW => ⟨⟨0, (), rfl, Or.inl ⟨rfl, hA_r1⟩, trivial⟩, hS.F ht⟩) hS.2.2 dX11_way_10
  ·
    refine lv_if_eq (tgt := 11) hx hb dX11_way_6 (by decide) (fun hc => ?_) (fun hc => absurd (by decide) hc)
    refine lv_aload_n hx hb dX11_way_11 rfl (lv_at hl 0 rfl) ?_
    refine lv_iload_n hx hb dX11_way_12 rfl (lv_at hl 1 rfl) ?_
    refine lv_iconst (v := 3) hx hb dX11_way_13 (by decide) ?_
    have hPc := hP.sub (ws' := [(h0, .inr (11, gM a i g)), (a 3, .inl (cm 3, 85, .inr (.inl fn)))]) [0, 1] rfl
    have hKc := hK.sub (tys' := [(cm 3, .long)]) [0] rfl
    have hFc := va_free0 hS hA
    refine va_calll (va_runV (As := [.int (nI k), .int (nI 3)]) (rest := []) ⟨hx, hb, hml, hown, hts⟩ (c_of l D _ h0 a cm i g fn k 3 (by first | assumption | omega) (by first | assumption | omega)) (cwV 2 hts g_c_way_c_of_89 rfl rfl rfl (by decide +kernel) ⟨(Nat.le_of_ble_eq_true rfl), (Nat.le_of_ble_eq_true rfl)⟩) (PcR_V (q0 := 0) hPc hKc rfl rfl) rfl rfl hl.1 rfl (lv_room (Nat.le_of_ble_eq_true rfl)) dX11_way_14 ⟨(Nat.le_of_ble_eq_true rfl), (Nat.le_of_ble_eq_true rfl)⟩) hS (fun q _ h => hFc q h) hFc (fun r2 uu tt H locs htt hvm hw hB hz1 hk1 hS => ?_)
    have hP := va_keep hP hk1
    try dsimp only at hw
    clear hB hz1 hk1 hFc hPc hKc
    obtain rfl : r2 = fn (17 * k + 3) := hw
    refine lv_lconst (v := 1) hx hb dX11_way_17 (by decide) ?_
    refine lv_ladd hx hb dX11_way_18 ?_
    refine lv_topl (fun v3 ev3 => ?_)
    refine lv_aload_n hx hb dX11_way_19 rfl (lv_at hl 0 rfl) ?_
    refine lv_iload_n hx hb dX11_way_20 rfl (lv_at hl 1 rfl) ?_
    refine lv_iconst (v := 2) hx hb dX11_way_21 (by decide) ?_
    have hPc := hP.sub (ws' := [(h0, .inr (11, gM a i g)), (a 3, .inl (cm 3, 85, .inr (.inl fn)))]) [0, 1] rfl
    have hKc := hK.sub (tys' := [(cm 3, .long)]) [0] rfl
    have hFc := va_free0 hS hA
    refine va_calll (va_runV (As := [.int (nI k), .int (nI 2)]) (rest := [.long v3]) ⟨hx, hb, hml, hown, hts⟩ (c_of l D _ h0 a cm i g fn k 2 (by first | assumption | omega) (by first | assumption | omega)) (cwV 2 hts g_c_way_c_of_89 rfl rfl rfl (by decide +kernel) ⟨(Nat.le_of_ble_eq_true rfl), (Nat.le_of_ble_eq_true rfl)⟩) (PcR_V (q0 := 0) hPc hKc rfl rfl) rfl rfl hl.1 rfl (lv_room (Nat.le_of_ble_eq_true rfl)) dX11_way_22 ⟨(Nat.le_of_ble_eq_true rfl), (Nat.le_of_ble_eq_true rfl)⟩) hS (fun q _ h => hFc q h) hFc (fun r4 uu tt H locs htt hvm hw hB hz1 hk1 hS => ?_)
    have hP := va_keep hP hk1
    try dsimp only at hw
    clear hB hz1 hk1 hFc hPc hKc
    obtain rfl : r4 = fn (17 * k + 2) := hw
    refine W.lcmp hx hb dX11_way_25 ?_
    refine lv_if_le (tgt := 31) hx hb dX11_way_26 (by decide) (fun hc5 => ?_) (fun hc5 => ?_)
    ·
      refine lv_aload_n hx hb dX11_way_31 rfl (lv_at hl 0 rfl) ?_
      refine lv_iload_n hx hb dX11_way_32 rfl (lv_at hl 1 rfl) ?_
      refine lv_iload_n hx hb dX11_way_33 rfl (lv_at hl 2 rfl) ?_
      have hPc := hP.sub (ws' := [(h0, .inr (11, gM a i g)), (a 3, .inl (cm 3, 85, .inr (.inl fn)))]) [0, 1] rfl
      have hKc := hK.sub (tys' := [(cm 3, .long)]) [0] rfl
      have hFc := va_free0 hS hA
      refine va_calli (va_runV (As := [.int (nI k), .int (nI kx)]) (rest := []) ⟨hx, hb, hml, hown, hts⟩ (c_bucketOf l D _ h0 a cm i g fn k kx ka kb nb (by first | assumption | omega) (by first | assumption | omega | exact hKl _ (by omega)) h6 h7 h4 (by first | assumption | omega) (by first | assumption | omega) (by first | assumption | omega) (by first | assumption | omega)) (cwV 2 hts g_c_way_c_bucketOf_155 rfl rfl rfl (by decide +kernel) ⟨(Nat.le_of_ble_eq_true rfl), (Nat.le_of_ble_eq_true rfl)⟩) (PcR_V (q0 := 0) hPc hKc rfl rfl) rfl rfl hl.1 rfl (lv_room (Nat.le_of_ble_eq_true rfl)) dX11_way_34 ⟨(Nat.le_of_ble_eq_true rfl), (Nat.le_of_ble_eq_true rfl)⟩) hS (fun q _ h => hFc q h) hFc (fun r6 uu tt H locs htt hvm hw hB hz1 hk1 hS => ?_)
      have hP := va_keep hP hk1
      try dsimp only at hw
      clear hB hz1 hk1 hFc hPc hKc
      obtain rfl : r6 = nI ((ka * kx + kb) % 2147483647 % nb) := hw
      refine lv_istore_n (lv' := [(3, .int (nI ((ka * kx + kb) % 2147483647 % nb))), (0, .ref h0), (1, .int (nI k)), (2, .int (nI kx))]) hx hb dX11_way_37 rfl hl (by decide) rfl (fun ls hl => ?_)
      refine lv_aload_n hx hb dX11_way_38 rfl (lv_at hl 1 rfl) ?_
      refine va_get (D := D) (ci := 11) (v := .ref (a 8)) (C := RX11) (T := TX11) (N := 47) hx hb hts hin_X11 hown hK hP 0 rfl rfl 8 (by decide) (hts (.fieldLink RX11 30 "ClashFreeModel" "roofs" "[I") (List.mem_of_getElem? (i := 11) rfl)) (fun _ h9 => h9) rfl dX11_way_39 ?_
      refine lv_sipush (v := 2048) hx hb dX11_way_42 (by decide) ?_
      refine lv_iload_n hx hb dX11_way_45 rfl (lv_at hl 2 rfl) ?_
      refine lv_imul hx hb dX11_way_46 ?_
      refine lv_iload_n hx hb dX11_way_47 rfl (lv_at hl 0 rfl) ?_
      refine lv_iadd hx hb dX11_way_48 ?_
      refine lv_topi (fun v7 ev7 => ?_)
      obtain rfl : v7 = nI (2048 * k + ((ka * kx + kb) % 2147483647 % nb)) := ev7.trans (ix2048 k _)
      refine va_iald hx hb hK hP 5 4 rfl rfl (vp_in_nI (by omega) (by decide)) dX11_way_49 ?_
      refine lv_topi (fun v8 ev8 => ?_)
      obtain rfl : v8 = nI rf := ev8.trans (by rw [nI_clamp (by omega)]; exact hrf)
      refine lv_istore (lv' := [(4, .int (nI rf)), (3, .int (nI ((ka * kx + kb) % 2147483647 % nb))), (0, .ref h0), (1, .int (nI k)), (2, .int (nI kx))]) hx hb dX11_way_50 hl (by decide) rfl (fun ls hl => ?_)
      refine lv_aload_n hx hb dX11_way_52 rfl (lv_at hl 2 rfl) ?_
      refine va_get (D := D) (ci := 11) (v := .ref (a 9)) (C := RX11) (T := TX11) (N := 47) hx hb hts hin_X11 hown hK hP 0 rfl rfl 9 (by decide) (hts (.fieldLink RX11 33 "ClashFreeModel" "has" "[I") (List.mem_of_getElem? (i := 12) rfl)) (fun _ h9 => h9) rfl dX11_way_53 ?_
      refine lv_sipush (v := 2048) hx hb dX11_way_56 (by decide) ?_
      refine lv_iload_n hx hb dX11_way_59 rfl (lv_at hl 3 rfl) ?_
      refine lv_imul hx hb dX11_way_60 ?_
      refine lv_iload_n hx hb dX11_way_61 rfl (lv_at hl 1 rfl) ?_
      refine lv_iadd hx hb dX11_way_62 ?_
      refine lv_topi (fun v9 ev9 => ?_)
      obtain rfl : v9 = nI (2048 * k + ((ka * kx + kb) % 2147483647 % nb)) := ev9.trans (ix2048 k _)
      refine va_iald hx hb hK hP 6 5 rfl rfl (vp_in_nI (by omega) (by decide)) dX11_way_63 ?_
      refine lv_topi (fun v10 ev10 => ?_)
      obtain rfl : v10 = nI (cntJ J cn ((ka * kx + kb) % 2147483647 % nb)) := ev10.trans (by rw [nI_clamp (by omega)]; exact hq1)
      refine lv_iload hx hb dX11_way_64 (lv_at hl 0 rfl) ?_
      refine lv_icmp_ge (tgt := 91) hx hb dX11_way_66 (by decide) (fun hc11 => ?_) (fun hc11 => ?_)
      ·
        have hge : rf ≤ cntJ J cn ((ka * kx + kb) % 2147483647 % nb) := (nI_leI (by omega) (by omega)).mp hc11
        refine lv_iload hx hb dX11_way_91 (lv_at hl 0 rfl) ?_
        refine lv_if_ne (tgt := 102) hx hb dX11_way_93 (by decide) (fun hc12 => ?_) (fun hc12 => ?_)
        ·
          refine lv_ldc2 (v := 2) hx hb hown (hts (.constantLong RX11 210 (2)) (List.mem_of_getElem? (i := 13) rfl)) dX11_way_102 ?_
          refine lv_iload hx hb dX11_way_105 (lv_at hl 0 rfl) ?_
          refine lv_i2l hx hb dX11_way_107 rfl ?_
          refine lv_lmul hx hb dX11_way_108 ?_
          refine lv_topl (fun v13 ev13 => ?_)
          refine lv_lstore (lv' := [(5, .long v13), (4, .int (nI rf)), (3, .int (nI ((ka * kx + kb) % 2147483647 % nb))), (0, .ref h0), (1, .int (nI k)), (2, .int (nI kx))]) hx hb dX11_way_109 hl (by decide) rfl (fun ls hl => ?_)
          refine lv_aload_n hx hb dX11_way_111 rfl (lv_at hl 3 rfl) ?_
          refine lv_iload_n hx hb dX11_way_112 rfl (lv_at hl 4 rfl) ?_
          refine lv_iconst (v := 5) hx hb dX11_way_113 (by decide) ?_
          have hPc := hP.sub (ws' := [(h0, .inr (11, gM a i g)), (a 3, .inl (cm 3, 85, .inr (.inl fn)))]) [0, 1] rfl
          have hKc := hK.sub (tys' := [(cm 3, .long)]) [0] rfl
          have hFc := va_free0 hS hA
          refine va_calll (va_runV (As := [.int (nI k), .int (nI 5)]) (rest := []) ⟨hx, hb, hml, hown, hts⟩ (c_of l D _ h0 a cm i g fn k 5 (by first | assumption | omega) (by first | assumption | omega)) (cwV 2 hts g_c_way_c_of_89 rfl rfl rfl (by decide +kernel) ⟨(Nat.le_of_ble_eq_true rfl), (Nat.le_of_ble_eq_true rfl)⟩) (PcR_V (q0 := 0) hPc hKc rfl rfl) rfl rfl hl.1 rfl (lv_room (Nat.le_of_ble_eq_true rfl)) dX11_way_114 ⟨(Nat.le_of_ble_eq_true rfl), (Nat.le_of_ble_eq_true rfl)⟩) hS (fun q _ h => hFc q h) hFc (fun r14 uu tt H locs htt hvm hw hB hz1 hk1 hS => ?_)
          have hP := va_keep hP hk1
          try dsimp only at hw
          clear hB hz1 hk1 hFc hPc hKc
          obtain rfl : r14 = fn (17 * k + 5) := hw
          refine lv_iload hx hb dX11_way_117 (lv_at hl 1 rfl) ?_
          refine lv_i2l hx hb dX11_way_119 rfl ?_
          refine lv_iload hx hb dX11_way_120 (lv_at hl 1 rfl) ?_
          refine lv_i2l hx hb dX11_way_122 rfl ?_
          refine lv_lmul hx hb dX11_way_123 ?_
          refine lv_topl (fun v15 ev15 => ?_)
          refine lv_lsub hx hb dX11_way_124 ?_
          refine lv_topl (fun v16 ev16 => ?_)
          refine lv_lload hx hb dX11_way_125 (lv_at hl 0 rfl) ?_
          refine lv_lload hx hb dX11_way_127 (lv_at hl 0 rfl) ?_
          refine lv_lmul hx hb dX11_way_129 ?_
          refine lv_topl (fun v17 ev17 => ?_)
          refine lv_ladd hx hb dX11_way_130 ?_
          refine lv_topl (fun v18 ev18 => ?_)
          refine lv_aload_n hx hb dX11_way_131 rfl (lv_at hl 3 rfl) ?_
          refine lv_iload_n hx hb dX11_way_132 rfl (lv_at hl 4 rfl) ?_
          refine lv_bipush (v := 14) hx hb dX11_way_133 (by decide) ?_
          have hPc := hP.sub (ws' := [(h0, .inr (11, gM a i g)), (a 3, .inl (cm 3, 85, .inr (.inl fn)))]) [0, 1] rfl
          have hKc := hK.sub (tys' := [(cm 3, .long)]) [0] rfl
          have hFc := va_free0 hS hA
          refine va_calll (va_runV (As := [.int (nI k), .int (nI 14)]) (rest := [.long v18]) ⟨hx, hb, hml, hown, hts⟩ (c_of l D _ h0 a cm i g fn k 14 (by first | assumption | omega) (by first | assumption | omega)) (cwV 2 hts g_c_way_c_of_89 rfl rfl rfl (by decide +kernel) ⟨(Nat.le_of_ble_eq_true rfl), (Nat.le_of_ble_eq_true rfl)⟩) (PcR_V (q0 := 0) hPc hKc rfl rfl) rfl rfl hl.1 rfl (lv_room (Nat.le_of_ble_eq_true rfl)) dX11_way_135 ⟨(Nat.le_of_ble_eq_true rfl), (Nat.le_of_ble_eq_true rfl)⟩) hS (fun q _ h => hFc q h) hFc (fun r19 uu tt H locs htt hvm hw hB hz1 hk1 hS => ?_)
          have hP := va_keep hP hk1
          try dsimp only at hw
          clear hB hz1 hk1 hFc hPc hKc
          obtain rfl : r19 = fn (17 * k + 14) := hw
          refine lv_aload_n hx hb dX11_way_138 rfl (lv_at hl 3 rfl) ?_
          refine lv_iload_n hx hb dX11_way_139 rfl (lv_at hl 4 rfl) ?_
          refine lv_iconst (v := 2) hx hb dX11_way_140 (by decide) ?_
          have hPc := hP.sub (ws' := [(h0, .inr (11, gM a i g)), (a 3, .inl (cm 3, 85, .inr (.inl fn)))]) [0, 1] rfl
          have hKc := hK.sub (tys' := [(cm 3, .long)]) [0] rfl
          have hFc := va_free0 hS hA
          refine va_calll (va_runV (As := [.int (nI k), .int (nI 2)]) (rest := [.long (fn (17 * k + 14)), .long v18]) ⟨hx, hb, hml, hown, hts⟩ (c_of l D _ h0 a cm i g fn k 2 (by first | assumption | omega) (by first | assumption | omega)) (cwV 2 hts g_c_way_c_of_89 rfl rfl rfl (by decide +kernel) ⟨(Nat.le_of_ble_eq_true rfl), (Nat.le_of_ble_eq_true rfl)⟩) (PcR_V (q0 := 0) hPc hKc rfl rfl) rfl rfl hl.1 rfl (lv_room (Nat.le_of_ble_eq_true rfl)) dX11_way_141 ⟨(Nat.le_of_ble_eq_true rfl), (Nat.le_of_ble_eq_true rfl)⟩) hS (fun q _ h => hFc q h) hFc (fun r20 uu tt H locs htt hvm hw hB hz1 hk1 hS => ?_)
          have hP := va_keep hP hk1
          try dsimp only at hw
          clear hB hz1 hk1 hFc hPc hKc
          obtain rfl : r20 = fn (17 * k + 2) := hw
          refine lv_lmul hx hb dX11_way_144 ?_
          refine lv_topl (fun v21 ev21 => ?_)
          refine W.lcmp hx hb dX11_way_145 ?_
          refine lv_if_gt (tgt := 153) hx hb dX11_way_146 (by decide) (fun hc22 => ?_) (fun hc22 => ?_)
          ·
            refine lv_iconst (v := 4) hx hb dX11_way_153 (by decide) ?_
            exact W.iret (v := 4) hx hb hr (fun t ht hW => ⟨⟨4, (), rfl, Or.inr (Or.inr (Or.inr (Or.inr ⟨rfl, hA_r1⟩))), trivial⟩, hS.F ht⟩) hS.2.2 dX11_way_154
          ·
            refine lv_iconst (v := 3) hx hb dX11_way_149 (by decide) ?_
            refine lv_goto (tgt := 154) hx hb dX11_way_150 (by decide) ?_
            exact W.iret (v := 3) hx hb hr (fun t ht hW => ⟨⟨3, (), rfl, Or.inr (Or.inr (Or.inr (Or.inl ⟨rfl, hA_r1, fun r1 e1 e2 => by have := (nI_eq (by omega) (by omega)).mp (hrf.symm.trans e1); omega⟩))), trivial⟩, hS.F ht⟩) hS.2.2 dX11_way_154
        ·
          refine lv_ldc2 (v := 2) hx hb hown (hts (.constantLong RX11 210 (2)) (List.mem_of_getElem? (i := 13) rfl)) dX11_way_96 ?_
          refine lv_goto (tgt := 109) hx hb dX11_way_99 (by decide) ?_
          refine lv_lstore (lv' := [(5, .long 2), (4, .int (nI rf)), (3, .int (nI ((ka * kx + kb) % 2147483647 % nb))), (0, .ref h0), (1, .int (nI k)), (2, .int (nI kx))]) hx hb dX11_way_109 hl (by decide) rfl (fun ls hl => ?_)
          refine lv_aload_n hx hb dX11_way_111 rfl (lv_at hl 3 rfl) ?_
          refine lv_iload_n hx hb dX11_way_112 rfl (lv_at hl 4 rfl) ?_
          refine lv_iconst (v := 5) hx hb dX11_way_113 (by decide) ?_
          have hPc := hP.sub (ws' := [(h0, .inr (11, gM a i g)), (a 3, .inl (cm 3, 85, .inr (.inl fn)))]) [0, 1] rfl
          have hKc := hK.sub (tys' := [(cm 3, .long)]) [0] rfl
          have hFc := va_free0 hS hA
          refine va_calll (va_runV (As := [.int (nI k), .int (nI 5)]) (rest := []) ⟨hx, hb, hml, hown, hts⟩ (c_of l D _ h0 a cm i g fn k 5 (by first | assumption | omega) (by first | assumption | omega)) (cwV 2 hts g_c_way_c_of_89 rfl rfl rfl (by decide +kernel) ⟨(Nat.le_of_ble_eq_true rfl), (Nat.le_of_ble_eq_true rfl)⟩) (PcR_V (q0 := 0) hPc hKc rfl rfl) rfl rfl hl.1 rfl (lv_room (Nat.le_of_ble_eq_true rfl)) dX11_way_114 ⟨(Nat.le_of_ble_eq_true rfl), (Nat.le_of_ble_eq_true rfl)⟩) hS (fun q _ h => hFc q h) hFc (fun r23 uu tt H locs htt hvm hw hB hz1 hk1 hS => ?_)
          have hP := va_keep hP hk1
          try dsimp only at hw
          clear hB hz1 hk1 hFc hPc hKc
          obtain rfl : r23 = fn (17 * k + 5) := hw
          refine lv_iload hx hb dX11_way_117 (lv_at hl 1 rfl) ?_
          refine lv_i2l hx hb dX11_way_119 rfl ?_
          refine lv_iload hx hb dX11_way_120 (lv_at hl 1 rfl) ?_
          refine lv_i2l hx hb dX11_way_122 rfl ?_
          refine lv_lmul hx hb dX11_way_123 ?_
          refine lv_topl (fun v24 ev24 => ?_)
          refine lv_lsub hx hb dX11_way_124 ?_
          refine lv_topl (fun v25 ev25 => ?_)
          refine lv_lload hx hb dX11_way_125 (lv_at hl 0 rfl) ?_
          refine lv_lload hx hb dX11_way_127 (lv_at hl 0 rfl) ?_
          refine lv_lmul hx hb dX11_way_129 ?_
          refine lv_topl (fun v26 ev26 => ?_)
          obtain rfl : v26 = 4 := ev26.trans (by decide)
          refine lv_ladd hx hb dX11_way_130 ?_
          refine lv_topl (fun v27 ev27 => ?_)
          refine lv_aload_n hx hb dX11_way_131 rfl (lv_at hl 3 rfl) ?_
          refine lv_iload_n hx hb dX11_way_132 rfl (lv_at hl 4 rfl) ?_
          refine lv_bipush (v := 14) hx hb dX11_way_133 (by decide) ?_
          have hPc := hP.sub (ws' := [(h0, .inr (11, gM a i g)), (a 3, .inl (cm 3, 85, .inr (.inl fn)))]) [0, 1] rfl
          have hKc := hK.sub (tys' := [(cm 3, .long)]) [0] rfl
          have hFc := va_free0 hS hA
          refine va_calll (va_runV (As := [.int (nI k), .int (nI 14)]) (rest := [.long v27]) ⟨hx, hb, hml, hown, hts⟩ (c_of l D _ h0 a cm i g fn k 14 (by first | assumption | omega) (by first | assumption | omega)) (cwV 2 hts g_c_way_c_of_89 rfl rfl rfl (by decide +kernel) ⟨(Nat.le_of_ble_eq_true rfl), (Nat.le_of_ble_eq_true rfl)⟩) (PcR_V (q0 := 0) hPc hKc rfl rfl) rfl rfl hl.1 rfl (lv_room (Nat.le_of_ble_eq_true rfl)) dX11_way_135 ⟨(Nat.le_of_ble_eq_true rfl), (Nat.le_of_ble_eq_true rfl)⟩) hS (fun q _ h => hFc q h) hFc (fun r28 uu tt H locs htt hvm hw hB hz1 hk1 hS => ?_)
          have hP := va_keep hP hk1
          try dsimp only at hw
          clear hB hz1 hk1 hFc hPc hKc
          obtain rfl : r28 = fn (17 * k + 14) := hw
          refine lv_aload_n hx hb dX11_way_138 rfl (lv_at hl 3 rfl) ?_
          refine lv_iload_n hx hb dX11_way_139 rfl (lv_at hl 4 rfl) ?_
          refine lv_iconst (v := 2) hx hb dX11_way_140 (by decide) ?_
          have hPc := hP.sub (ws' := [(h0, .inr (11, gM a i g)), (a 3, .inl (cm 3, 85, .inr (.inl fn)))]) [0, 1] rfl
          have hKc := hK.sub (tys' := [(cm 3, .long)]) [0] rfl
          have hFc := va_free0 hS hA
          refine va_calll (va_runV (As := [.int (nI k), .int (nI 2)]) (rest := [.long (fn (17 * k + 14)), .long v27]) ⟨hx, hb, hml, hown, hts⟩ (c_of l D _ h0 a cm i g fn k 2 (by first | assumption | omega) (by first | assumption | omega)) (cwV 2 hts g_c_way_c_of_89 rfl rfl rfl (by decide +kernel) ⟨(Nat.le_of_ble_eq_true rfl), (Nat.le_of_ble_eq_true rfl)⟩) (PcR_V (q0 := 0) hPc hKc rfl rfl) rfl rfl hl.1 rfl (lv_room (Nat.le_of_ble_eq_true rfl)) dX11_way_141 ⟨(Nat.le_of_ble_eq_true rfl), (Nat.le_of_ble_eq_true rfl)⟩) hS (fun q _ h => hFc q h) hFc (fun r29 uu tt H locs htt hvm hw hB hz1 hk1 hS => ?_)
          have hP := va_keep hP hk1
          try dsimp only at hw
          clear hB hz1 hk1 hFc hPc hKc
          obtain rfl : r29 = fn (17 * k + 2) := hw
          refine lv_lmul hx hb dX11_way_144 ?_
          refine lv_topl (fun v30 ev30 => ?_)
          refine W.lcmp hx hb dX11_way_145 ?_
          refine lv_if_gt (tgt := 153) hx hb dX11_way_146 (by decide) (fun hc31 => ?_) (fun hc31 => ?_)
          ·
            refine lv_iconst (v := 4) hx hb dX11_way_153 (by decide) ?_
            exact W.iret (v := 4) hx hb hr (fun t ht hW => ⟨⟨4, (), rfl, Or.inr (Or.inr (Or.inr (Or.inr ⟨rfl, hA_r1⟩))), trivial⟩, hS.F ht⟩) hS.2.2 dX11_way_154
          ·
            refine lv_iconst (v := 3) hx hb dX11_way_149 (by decide) ?_
            refine lv_goto (tgt := 154) hx hb dX11_way_150 (by decide) ?_
            exact W.iret (v := 3) hx hb hr (fun t ht hW => ⟨⟨3, (), rfl, Or.inr (Or.inr (Or.inr (Or.inl ⟨rfl, hA_r1, fun r1 e1 e2 => by have := (nI_eq (by omega) (by omega)).mp (hrf.symm.trans e1); omega⟩))), trivial⟩, hS.F ht⟩) hS.2.2 dX11_way_154
      ·
        have hlt : cntJ J cn ((ka * kx + kb) % 2147483647 % nb) < rf := by
          rcases Nat.lt_or_ge (cntJ J cn ((ka * kx + kb) % 2147483647 % nb)) rf with z | z
          · exact z
          · exact absurd (nI_le z (by omega)) hc11
        refine lv_aload_n hx hb dX11_way_69 rfl (lv_at hl 2 rfl) ?_
        refine lv_iload_n hx hb dX11_way_70 rfl (lv_at hl 3 rfl) ?_
        refine lv_iload_n hx hb dX11_way_71 rfl (lv_at hl 1 rfl) ?_
        refine lv_aload_n hx hb dX11_way_72 rfl (lv_at hl 2 rfl) ?_
        refine lv_iload_n hx hb dX11_way_73 rfl (lv_at hl 3 rfl) ?_
        refine lv_iload_n hx hb dX11_way_74 rfl (lv_at hl 1 rfl) ?_
        refine lv_iload_n hx hb dX11_way_75 rfl (lv_at hl 4 rfl) ?_
        have hPc := hP.sub (ws' := [(h0, .inr (11, gM a i g)), (a 8, .inl (cm 8, 10240, .inl ff)), (a 10, .inl (cm 10, 10240, .inr (.inl fa))), (a 11, .inl (cm 11, 10240, .inr (.inl fs)))]) [0, 5, 7, 8] rfl
        have hKc := hK.sub (tys' := [(cm 8, .int), (cm 10, .long), (cm 11, .long)]) [4, 6, 7] rfl
        have hFc := va_free0 hS hA
        refine va_calli (va_runV (As := [.int (nI k), .int (nI ((ka * kx + kb) % 2147483647 % nb)), .int (nI kx)]) (rest := [.int (nI ((ka * kx + kb) % 2147483647 % nb)), .int (nI k), .ref h0]) ⟨hx, hb, hml, hown, hts⟩ (c_roomOf l D _ h0 a cm i g ff fa fs k ((ka * kx + kb) % 2147483647 % nb) kx rf (by first | assumption | omega) (by first | assumption | omega) (by first | assumption | omega | exact hKl _ (by omega)) hrf (by first | assumption | omega) (by first | assumption | omega) (by first | assumption | omega) (by first | assumption | omega)) (cwV 3 hts g_c_way_c_roomOf_148 rfl rfl rfl (by decide +kernel) ⟨(Nat.le_of_ble_eq_true rfl), (Nat.le_of_ble_eq_true rfl)⟩) (PcR_V (q0 := 0) hPc hKc rfl rfl) rfl rfl hl.1 rfl (lv_room (Nat.le_of_ble_eq_true rfl)) dX11_way_76 ⟨(Nat.le_of_ble_eq_true rfl), (Nat.le_of_ble_eq_true rfl)⟩) hS (fun q _ h => hFc q h) hFc (fun r32 uu tt H locs htt hvm hw hB hz1 hk1 hS => ?_)
        have hP := va_keep hP hk1
        try dsimp only at hw
        clear hB hz1 hk1 hFc hPc hKc
        have hPc := hP.sub (ws' := [(h0, .inr (11, gM a i g)), (a 3, .inl (cm 3, 85, .inr (.inl fn))), (a 6, .inl (cm 6, 800, .inl fb)), (a 7, .inl (cm 7, 800, .inl fr))]) [0, 1, 3, 4] rfl
        have hKc := hK.sub (tys' := [(cm 3, .long), (cm 6, .int), (cm 7, .int)]) [0, 2, 3] rfl
        have hFc := va_free0 hS hA
        refine va_calli (va_runV (As := [.int (nI k), .int (nI ((ka * kx + kb) % 2147483647 % nb)), .int r32]) (rest := []) ⟨hx, hb, hml, hown, hts⟩ (c_isEmpty l D _ h0 a cm i g fn fb fr k cn (nI ((ka * kx + kb) % 2147483647 % nb)) r32 (by first | assumption | omega) h1 (by first | assumption | omega)) (cwV 3 hts g_c_way_c_isEmpty_206 rfl rfl rfl (by decide +kernel) ⟨(Nat.le_of_ble_eq_true rfl), (Nat.le_of_ble_eq_true rfl)⟩) (PcR_V (q0 := 0) hPc hKc rfl rfl) rfl rfl hl.1 rfl (lv_room (Nat.le_of_ble_eq_true rfl)) dX11_way_79 ⟨(Nat.le_of_ble_eq_true rfl), (Nat.le_of_ble_eq_true rfl)⟩) hS (fun q _ h => hFc q h) hFc (fun r33 uu tt H locs htt hvm hw hB hz1 hk1 hS => ?_)
        have hP := va_keep hP hk1
        try dsimp only at hw
        clear hB hz1 hk1 hFc hPc hKc
        refine lv_if_eq (tgt := 89) hx hb dX11_way_82 (by decide) (fun hc34 => ?_) (fun hc34 => ?_)
        ·
          refine lv_iconst (v := 2) hx hb dX11_way_89 (by decide) ?_
          exact W.iret (v := 2) hx hb hr (fun t ht hW => ⟨⟨2, (), rfl, Or.inr (Or.inr (Or.inl ⟨rfl, hA_r1, fun r1 e1 e2 => by have := (nI_eq (by omega) (by omega)).mp (hrf.symm.trans e1); omega⟩)), trivial⟩, hS.F ht⟩) hS.2.2 dX11_way_90
        ·
          refine lv_iconst (v := 1) hx hb dX11_way_85 (by decide) ?_
          refine lv_goto (tgt := 90) hx hb dX11_way_86 (by decide) ?_
          exact W.iret (v := 1) hx hb hr (fun t ht hW => ⟨⟨1, (), rfl, Or.inr (Or.inl ⟨rfl, hA_r1, fun r1 e1 e2 => by have := (nI_eq (by omega) (by omega)).mp (hrf.symm.trans e1); omega⟩), trivial⟩, hS.F ht⟩) hS.2.2 dX11_way_90
    ·
      refine lv_iconst (v := 4) hx hb dX11_way_29 (by decide) ?_
      exact W.iret (v := 4) hx hb hr (fun t ht hW => ⟨⟨4, (), rfl, Or.inr (Or.inr (Or.inr (Or.inr ⟨rfl, hA_r1⟩))), trivial⟩, hS.F ht⟩) hS.2.2 dX11_way_30

