theorem dL_law_1625 : decode cL_law 1625 = .ok (.aload_n 1, 1) := by decide +kernel
theorem dL_law_1626 : decode cL_law 1626 = .ok (.aload_n 0, 1) := by decide +kernel
theorem dL_law_1627 : decode cL_law 1627 = .ok (.iload_n 3, 1) := by decide +kernel
theorem dL_law_1628 : decode cL_law 1628 = .ok (.iconst 1, 1) := by decide +kernel
theorem dL_law_1629 : decode cL_law 1629 = .ok (.iadd, 1) := by decide +kernel
theorem dL_law_1630 : decode cL_law 1630 = .ok (.iaload, 1) := by decide +kernel
theorem dL_law_1631 : decode cL_law 1631 = .ok (.invokevirtual 163, 3) := by decide +kernel
theorem dL_law_1634 : decode cL_law 1634 = .ok (.pop, 1) := by decide +kernel
theorem dL_law_1635 : decode cL_law 1635 = .ok (.aload_n 2, 1) := by decide +kernel
theorem dL_law_1636 : decode cL_law 1636 = .ok (.aload_n 0, 1) := by decide +kernel
theorem dL_law_1637 : decode cL_law 1637 = .ok (.iload_n 3, 1) := by decide +kernel
theorem dL_law_1638 : decode cL_law 1638 = .ok (.iconst 1, 1) := by decide +kernel
theorem dL_law_1639 : decode cL_law 1639 = .ok (.iadd, 1) := by decide +kernel
theorem dL_law_1640 : decode cL_law 1640 = .ok (.iaload, 1) := by decide +kernel
theorem dL_law_1641 : decode cL_law 1641 = .ok (.invokevirtual 166, 3) := by decide +kernel
theorem dL_law_1644 : decode cL_law 1644 = .ok (.pop, 1) := by decide +kernel
theorem dL_law_1645 : decode cL_law 1645 = .ok (.goto 82, 3) := by decide +kernel
theorem dL_law_1648 : decode cL_law 1648 = .ok (.aload_n 1, 1) := by decide +kernel
theorem dL_law_1649 : decode cL_law 1649 = .ok (.aload_n 0, 1) := by decide +kernel
theorem dL_law_1650 : decode cL_law 1650 = .ok (.iload_n 3, 1) := by decide +kernel
theorem dL_law_1651 : decode cL_law 1651 = .ok (.iconst 1, 1) := by decide +kernel
theorem dL_law_1652 : decode cL_law 1652 = .ok (.iadd, 1) := by decide +kernel
theorem dL_law_1653 : decode cL_law 1653 = .ok (.iaload, 1) := by decide +kernel
theorem dL_law_1654 : decode cL_law 1654 = .ok (.invokevirtual 167, 3) := by decide +kernel
theorem dL_law_1657 : decode cL_law 1657 = .ok (.pop, 1) := by decide +kernel
theorem dL_law_1658 : decode cL_law 1658 = .ok (.aload_n 2, 1) := by decide +kernel
theorem dL_law_1659 : decode cL_law 1659 = .ok (.aload_n 0, 1) := by decide +kernel
theorem dL_law_1660 : decode cL_law 1660 = .ok (.iload_n 3, 1) := by decide +kernel
theorem dL_law_1661 : decode cL_law 1661 = .ok (.iconst 1, 1) := by decide +kernel
theorem dL_law_1662 : decode cL_law 1662 = .ok (.iadd, 1) := by decide +kernel
theorem dL_law_1663 : decode cL_law 1663 = .ok (.iaload, 1) := by decide +kernel
theorem dL_law_1664 : decode cL_law 1664 = .ok (.invokevirtual 170, 3) := by decide +kernel
theorem dL_law_1667 : decode cL_law 1667 = .ok (.pop, 1) := by decide +kernel
theorem dL_law_1668 : decode cL_law 1668 = .ok (.goto 59, 3) := by decide +kernel
theorem dL_law_1671 : decode cL_law 1671 = .ok (.aload_n 1, 1) := by decide +kernel
theorem dL_law_1672 : decode cL_law 1672 = .ok (.aload_n 0, 1) := by decide +kernel
theorem dL_law_1673 : decode cL_law 1673 = .ok (.iload_n 3, 1) := by decide +kernel
theorem dL_law_1674 : decode cL_law 1674 = .ok (.iconst 1, 1) := by decide +kernel
theorem dL_law_1675 : decode cL_law 1675 = .ok (.iadd, 1) := by decide +kernel
theorem dL_law_1676 : decode cL_law 1676 = .ok (.iaload, 1) := by decide +kernel
theorem dL_law_1677 : decode cL_law 1677 = .ok (.aload_n 0, 1) := by decide +kernel
theorem dL_law_1678 : decode cL_law 1678 = .ok (.iload_n 3, 1) := by decide +kernel
theorem dL_law_1679 : decode cL_law 1679 = .ok (.iconst 2, 1) := by decide +kernel
theorem dL_law_1680 : decode cL_law 1680 = .ok (.iadd, 1) := by decide +kernel
theorem dL_law_1681 : decode cL_law 1681 = .ok (.iaload, 1) := by decide +kernel
theorem dL_law_1682 : decode cL_law 1682 = .ok (.invokevirtual 171, 3) := by decide +kernel
theorem dL_law_1685 : decode cL_law 1685 = .ok (.pop, 1) := by decide +kernel
theorem dL_law_1686 : decode cL_law 1686 = .ok (.aload_n 2, 1) := by decide +kernel
theorem dL_law_1687 : decode cL_law 1687 = .ok (.aload_n 0, 1) := by decide +kernel
theorem dL_law_1688 : decode cL_law 1688 = .ok (.iload_n 3, 1) := by decide +kernel
theorem dL_law_1689 : decode cL_law 1689 = .ok (.iconst 1, 1) := by decide +kernel
theorem dL_law_1690 : decode cL_law 1690 = .ok (.iadd, 1) := by decide +kernel
theorem dL_law_1691 : decode cL_law 1691 = .ok (.iaload, 1) := by decide +kernel
theorem dL_law_1692 : decode cL_law 1692 = .ok (.aload_n 0, 1) := by decide +kernel
theorem dL_law_1693 : decode cL_law 1693 = .ok (.iload_n 3, 1) := by decide +kernel
theorem dL_law_1694 : decode cL_law 1694 = .ok (.iconst 2, 1) := by decide +kernel
theorem dL_law_1695 : decode cL_law 1695 = .ok (.iadd, 1) := by decide +kernel
theorem dL_law_1696 : decode cL_law 1696 = .ok (.iaload, 1) := by decide +kernel
theorem dL_law_1697 : decode cL_law 1697 = .ok (.invokevirtual 174, 3) := by decide +kernel
theorem dL_law_1700 : decode cL_law 1700 = .ok (.pop, 1) := by decide +kernel
theorem dL_law_1701 : decode cL_law 1701 = .ok (.goto 26, 3) := by decide +kernel
theorem dL_law_1704 : decode cL_law 1704 = .ok (.aload_n 1, 1) := by decide +kernel
theorem dL_law_1705 : decode cL_law 1705 = .ok (.aload_n 0, 1) := by decide +kernel
theorem dL_law_1706 : decode cL_law 1706 = .ok (.iload_n 3, 1) := by decide +kernel
theorem dL_law_1707 : decode cL_law 1707 = .ok (.iconst 1, 1) := by decide +kernel
theorem dL_law_1708 : decode cL_law 1708 = .ok (.iadd, 1) := by decide +kernel
theorem dL_law_1709 : decode cL_law 1709 = .ok (.iaload, 1) := by decide +kernel
theorem dL_law_1710 : decode cL_law 1710 = .ok (.invokevirtual 175, 3) := by decide +kernel
theorem dL_law_1713 : decode cL_law 1713 = .ok (.aload_n 2, 1) := by decide +kernel
theorem dL_law_1714 : decode cL_law 1714 = .ok (.aload_n 0, 1) := by decide +kernel
theorem dL_law_1715 : decode cL_law 1715 = .ok (.iload_n 3, 1) := by decide +kernel
theorem dL_law_1716 : decode cL_law 1716 = .ok (.iconst 1, 1) := by decide +kernel
theorem dL_law_1717 : decode cL_law 1717 = .ok (.iadd, 1) := by decide +kernel
theorem dL_law_1718 : decode cL_law 1718 = .ok (.iaload, 1) := by decide +kernel
theorem dL_law_1719 : decode cL_law 1719 = .ok (.invokevirtual 178, 3) := by decide +kernel
theorem dL_law_1722 : decode cL_law 1722 = .ok (.if_icmp .eq 5, 3) := by decide +kernel
set_option maxRecDepth 20000 in
theorem lww_201 : Cond.methodLink RL 163 yX10_octet ∈ lw_tbl := List.mem_of_getElem? (i := 1158) (by decide +kernel)
set_option maxRecDepth 20000 in
theorem lww_202 : Cond.instanceMethod yX10_octet ∈ lw_tbl := List.mem_of_getElem? (i := 1159) (by decide +kernel)
set_option maxRecDepth 20000 in
theorem lww_203 : Cond.selects RX10 yX10_octet yX10_octet ∈ lw_tbl := List.mem_of_getElem? (i := 1160) (by decide +kernel)
set_option maxRecDepth 20000 in
theorem lww_204 : Cond.methodLink RL 166 yX11_octet ∈ lw_tbl := List.mem_of_getElem? (i := 1803) (by decide +kernel)
set_option maxRecDepth 20000 in
theorem lww_205 : Cond.instanceMethod yX11_octet ∈ lw_tbl := List.mem_of_getElem? (i := 1804) (by decide +kernel)
set_option maxRecDepth 20000 in
theorem lww_206 : Cond.selects RX11 yX11_octet yX11_octet ∈ lw_tbl := List.mem_of_getElem? (i := 1805) (by decide +kernel)
set_option maxRecDepth 20000 in
theorem lww_207 : Cond.methodLink RL 167 yX10_back ∈ lw_tbl := List.mem_of_getElem? (i := 1162) (by decide +kernel)
set_option maxRecDepth 20000 in
theorem lww_208 : Cond.instanceMethod yX10_back ∈ lw_tbl := List.mem_of_getElem? (i := 1163) (by decide +kernel)
set_option maxRecDepth 20000 in
theorem lww_209 : Cond.selects RX10 yX10_back yX10_back ∈ lw_tbl := List.mem_of_getElem? (i := 1164) (by decide +kernel)
set_option maxRecDepth 20000 in
theorem lww_210 : Cond.methodLink RL 170 yX11_back ∈ lw_tbl := List.mem_of_getElem? (i := 1807) (by decide +kernel)
set_option maxRecDepth 20000 in
theorem lww_211 : Cond.instanceMethod yX11_back ∈ lw_tbl := List.mem_of_getElem? (i := 1808) (by decide +kernel)
set_option maxRecDepth 20000 in
theorem lww_212 : Cond.selects RX11 yX11_back yX11_back ∈ lw_tbl := List.mem_of_getElem? (i := 1809) (by decide +kernel)
set_option maxRecDepth 20000 in
theorem lww_213 : Cond.methodLink RL 171 yX10_copy ∈ lw_tbl := List.mem_of_getElem? (i := 1181) (by decide +kernel)
set_option maxRecDepth 20000 in
theorem lww_214 : Cond.instanceMethod yX10_copy ∈ lw_tbl := List.mem_of_getElem? (i := 1182) (by decide +kernel)
set_option maxRecDepth 20000 in
theorem lww_215 : Cond.selects RX10 yX10_copy yX10_copy ∈ lw_tbl := List.mem_of_getElem? (i := 1183) (by decide +kernel)
set_option maxRecDepth 20000 in
theorem lww_216 : Cond.methodLink RL 174 yX11_copy ∈ lw_tbl := List.mem_of_getElem? (i := 1819) (by decide +kernel)
set_option maxRecDepth 20000 in
theorem lww_217 : Cond.instanceMethod yX11_copy ∈ lw_tbl := List.mem_of_getElem? (i := 1820) (by decide +kernel)
set_option maxRecDepth 20000 in
theorem lww_218 : Cond.selects RX11 yX11_copy yX11_copy ∈ lw_tbl := List.mem_of_getElem? (i := 1821) (by decide +kernel)
set_option maxRecDepth 20000 in
theorem lww_219 : Cond.methodLink RL 175 yX10_count ∈ lw_tbl := List.mem_of_getElem? (i := 1198) (by decide +kernel)
set_option maxRecDepth 20000 in
theorem lww_220 : Cond.instanceMethod yX10_count ∈ lw_tbl := List.mem_of_getElem? (i := 1199) (by decide +kernel)
set_option maxRecDepth 20000 in
theorem lww_221 : Cond.selects RX10 yX10_count yX10_count ∈ lw_tbl := List.mem_of_getElem? (i := 1200) (by decide +kernel)
set_option maxRecDepth 20000 in
theorem lww_222 : Cond.methodLink RL 178 yX11_count ∈ lw_tbl := List.mem_of_getElem? (i := 1823) (by decide +kernel)
set_option maxRecDepth 20000 in
theorem lww_223 : Cond.instanceMethod yX11_count ∈ lw_tbl := List.mem_of_getElem? (i := 1824) (by decide +kernel)
set_option maxRecDepth 20000 in
theorem lww_224 : Cond.selects RX11 yX11_count yX11_count ∈ lw_tbl := List.mem_of_getElem? (i := 1825) (by decide +kernel)

set_option maxRecDepth 20000 in
theorem g_L_m_octet_163 : GoodIn lw_tbl (wsV RL 163 RX10 yX10_octet wp_m_octet) := goodIn_sub (List.forall_mem_append.mpr ⟨List.forall_mem_cons.mpr ⟨lww_201, List.forall_mem_cons.mpr ⟨lww_202, List.forall_mem_cons.mpr ⟨lww_203, List.forall_mem_cons.mpr ⟨lww_3, fun _ h => absurd h List.not_mem_nil⟩⟩⟩⟩, in_m_octet⟩) (by decide +kernel)
set_option maxRecDepth 20000 in
theorem g_L_c_octetM_166 : GoodIn lw_tbl (wsV RL 166 RX11 yX11_octet wp_c_octetM) := goodIn_sub (List.forall_mem_append.mpr ⟨List.forall_mem_cons.mpr ⟨lww_204, List.forall_mem_cons.mpr ⟨lww_205, List.forall_mem_cons.mpr ⟨lww_206, List.forall_mem_cons.mpr ⟨lww_7, fun _ h => absurd h List.not_mem_nil⟩⟩⟩⟩, in_c_octetM⟩) (by decide +kernel)
set_option maxHeartbeats 4000000 in
set_option maxRecDepth 100000 in
theorem law_case_33 {p : Program} {e : Env} {s : State} {m : MethodId} {below : List Frame} {meth : Method} {c : Code} (l : Launch) {b L : Nat} {xs : Nat → Int32} {D : va_G} {A : Nat → Prop} {adK adV : Nat → Nat} (C0 : lw_At p s m meth c b L xs) (hL : L ≤ 3584) (hN : NC s) (hST : ST adK adV A s s.heap) (hA : ∀ q, s.heap.size ≤ q → A q) (hbA : ¬ A b) {cm : Nat → ClassId} {cI cT : ClassId} (hKm : va_K D vwCl (tyM cm) s) (hKc : va_K D vwCl [(cI, .int), (cT, .object RX9)] s) {x0 m0 i : Nat} (hi : i + 7 ≤ L) (kx : ∀ (cells slots tp : Nat) (bt : Nat → Nat) (ex : Nat → Bool) (Ls : Nat → List (Nat × Int32)) (V U : va_W) (H : Heap) (locs : List Loc) (ls : Array Slot), cells + 14 * cntE ex ≤ 200 → slots + 11072 * cntE ex ≤ 200000 → RWd cm m0 tp bt ex Ls V → CWd cI cT x0 tp bt ex Ls U → va_P D vwCl (V ++ U) H → va_D A (V ++ U) → va_S A s.heap H locs → lv_has ls 4 [(3, .int (nI i)), (2, .ref m0), (1, .ref x0), (0, .ref b)] → W p l e room_1 s m #[Value.ref b] below meth c H locs (cells) (slots) (lw_Z below #[Value.ref b] s) (F0 m 1727 ls [])) : ∀ (cells slots tp : Nat) (bt : Nat → Nat) (ex : Nat → Bool) (Ls : Nat → List (Nat × Int32)) (V U : va_W) (H : Heap) (locs : List Loc) (ls : Array Slot), cells + 14 * cntE ex ≤ 200 → slots + 11072 * cntE ex ≤ 200000 → RWd cm m0 tp bt ex Ls V → CWd cI cT x0 tp bt ex Ls U → va_P D vwCl (V ++ U) H → va_D A (V ++ U) → va_S A s.heap H locs → lv_has ls 4 [(3, .int (nI i)), (2, .ref m0), (1, .ref x0), (0, .ref b)] → W p l e room_1 s m #[Value.ref b] below meth c H locs (cells) (slots) (lw_Z below #[Value.ref b] s) (F0 m 1625 ls []) := by
  intro cells slots tp bt ex Ls V U H locs ls hc9 hs9 hR hC hP hD hS hl
  have hf1 : cells ≤ room_1.cells := Nat.le_trans (show cells ≤ 200 by omega) (by decide +kernel)
  have hf2 : slots ≤ room_1.slots := Nat.le_trans (show slots ≤ 200000 by omega) (by decide +kernel)
  obtain ⟨hx, hb, hr, hml, hown, hts, hX, hbl, hlocks, hgv⟩ := id C0
  have hown : s.vm.findClass RL = some m.cls := hown
  refine lv_aload_n hx hb dL_law_1625 rfl (lv_at hl 2 rfl) ?_
  refine lv_aload_n hx hb dL_law_1626 rfl (lv_at hl 3 rfl) ?_
  refine lv_iload_n hx hb dL_law_1627 rfl (lv_at hl 0 rfl) ?_
  refine lv_iconst (v := 1) hx hb dL_law_1628 (by decide) ?_
  refine lv_iadd hx hb dL_law_1629 ?_
  refine lv_topi (fun v1 ev1 => ?_)
  obtain rfl : v1 = nI (i + 1) := ev1.trans (nI_add _ 1)
  refine va_sld hx hb hX hbl hbA hS (vp_in_nI (by omega) (by omega)) dL_law_1630 ?_
  refine lv_topi (fun v2 ev2 => ?_)
  obtain ⟨q9, fs9, he9⟩ := hC.recv
  have hFc := va_fr hD.rt hS hA
  refine va_calli (va_runV (As := [.int v2]) (rest := []) ⟨hx, hb, hml, hown, hts⟩ (m_octet l D _ adK adV cI cT x0 _ _ _ _ U v2 hC) (cwV 1 hts g_L_m_octet_163 rfl rfl rfl (by decide +kernel) ⟨(Nat.le_of_ble_eq_true rfl), (Nat.le_of_ble_eq_true rfl)⟩) (PcWS_V (q0 := q9) hP.rt hKc hD.rt hN hST hS hFc he9 rfl) rfl rfl hl.1 rfl (lv_room (Nat.le_of_ble_eq_true rfl)) dL_law_1631 ⟨hf1, hf2⟩) hS (fun q _ h => hFc q h) hFc (fun r3 uu tt H locs htt hvm hw hB hz1 hk1 hS => ?_)
  obtain ⟨U4, rfl⟩ : ∃ z, z = uu := ⟨_, rfl⟩
  obtain ⟨hP1, hK1, hD1⟩ := hB
  rw [htt] at hP1
  obtain ⟨hP, hD⟩ := jnC hP hD hk1 hFc hP1 hD1
  have hC := hw
  refine lv_pop hx hb dL_law_1634 rfl ?_
  refine lv_aload_n hx hb dL_law_1635 rfl (lv_at hl 1 rfl) ?_
  refine lv_aload_n hx hb dL_law_1636 rfl (lv_at hl 3 rfl) ?_
  refine lv_iload_n hx hb dL_law_1637 rfl (lv_at hl 0 rfl) ?_
  refine lv_iconst (v := 1) hx hb dL_law_1638 (by decide) ?_
  refine lv_iadd hx hb dL_law_1639 ?_
  refine lv_topi (fun v5 ev5 => ?_)
  obtain rfl : v5 = nI (i + 1) := ev5.trans (nI_add _ 1)
  refine va_sld hx hb hX hbl hbA hS (vp_in_nI (by omega) (by omega)) dL_law_1640 ?_
  refine lv_topi (fun v6 ev6 => ?_)
  obtain ⟨q9, fs9, he9⟩ := hR.recv
  have hFc := va_fr hD.lf hS hA
  refine va_calli (va_runV (As := [.int v6]) (rest := []) ⟨hx, hb, hml, hown, hts⟩ (M_octet l D _ cm m0 _ _ _ _ V v6 hR) (cwV 1 hts g_L_c_octetM_166 rfl rfl rfl (by decide +kernel) ⟨(Nat.le_of_ble_eq_true rfl), (Nat.le_of_ble_eq_true rfl)⟩) (PcW_V (q0 := q9) hP.lf hKm hD.lf he9 rfl) rfl rfl hl.1 rfl (lv_room (Nat.le_of_ble_eq_true rfl)) dL_law_1641 ⟨hf1, hf2⟩) hS (fun q _ h => hFc q h) hFc (fun r7 uu tt H locs htt hvm hw hB hz1 hk1 hS => ?_)
  obtain ⟨V8, rfl⟩ : ∃ z, z = uu := ⟨_, rfl⟩
  obtain ⟨hP1, hK1, hD1⟩ := hB
  rw [htt] at hP1
  obtain ⟨hP, hD⟩ := jnR hP hD hk1 hFc hP1 hD1
  have hR := hw
  refine lv_pop hx hb dL_law_1644 rfl ?_
  refine lv_goto (tgt := 1727) hx hb dL_law_1645 (by decide) ?_
  exact kx cells slots _ _ _ _ V8 U4 H locs ls (by omega) (by omega) hR hC hP hD hS hl

set_option maxRecDepth 20000 in
theorem g_L_m_backW_167 : GoodIn lw_tbl (wsV RL 167 RX10 yX10_back wp_m_backW) := goodIn_sub (List.forall_mem_append.mpr ⟨List.forall_mem_cons.mpr ⟨lww_207, List.forall_mem_cons.mpr ⟨lww_208, List.forall_mem_cons.mpr ⟨lww_209, List.forall_mem_cons.mpr ⟨lww_3, fun _ h => absurd h List.not_mem_nil⟩⟩⟩⟩, in_m_backW⟩) (by decide +kernel)
set_option maxRecDepth 20000 in
theorem g_L_c_backM_170 : GoodIn lw_tbl (wsV RL 170 RX11 yX11_back wp_c_backM) := goodIn_sub (List.forall_mem_append.mpr ⟨List.forall_mem_cons.mpr ⟨lww_210, List.forall_mem_cons.mpr ⟨lww_211, List.forall_mem_cons.mpr ⟨lww_212, List.forall_mem_cons.mpr ⟨lww_7, fun _ h => absurd h List.not_mem_nil⟩⟩⟩⟩, in_c_backM⟩) (by decide +kernel)
set_option maxRecDepth 20000 in
theorem g_L_m_back_167 : GoodIn lw_tbl (wsV RL 167 RX10 yX10_back wp_m_back) := goodIn_sub (List.forall_mem_append.mpr ⟨List.forall_mem_cons.mpr ⟨lww_207, List.forall_mem_cons.mpr ⟨lww_208, List.forall_mem_cons.mpr ⟨lww_209, List.forall_mem_cons.mpr ⟨lww_3, fun _ h => absurd h List.not_mem_nil⟩⟩⟩⟩, in_m_back⟩) (by decide +kernel)
set_option maxHeartbeats 4000000 in
set_option maxRecDepth 100000 in
theorem law_case_34 {p : Program} {e : Env} {s : State} {m : MethodId} {below : List Frame} {meth : Method} {c : Code} (l : Launch) {b L : Nat} {xs : Nat → Int32} {D : va_G} {A : Nat → Prop} {adK adV : Nat → Nat} (C0 : lw_At p s m meth c b L xs) (hL : L ≤ 3584) (hN : NC s) (hST : ST adK adV A s s.heap) (hA : ∀ q, s.heap.size ≤ q → A q) (hbA : ¬ A b) {cm : Nat → ClassId} {cI cT : ClassId} (hKm : va_K D vwCl (tyM cm) s) (hKc : va_K D vwCl [(cI, .int), (cT, .object RX9)] s) {x0 m0 i : Nat} (hi : i + 7 ≤ L) (kx : ∀ (cells slots tp : Nat) (bt : Nat → Nat) (ex : Nat → Bool) (Ls : Nat → List (Nat × Int32)) (V U : va_W) (H : Heap) (locs : List Loc) (ls : Array Slot), cells + 14 * cntE ex ≤ 200 → slots + 11072 * cntE ex ≤ 200000 → RWd cm m0 tp bt ex Ls V → CWd cI cT x0 tp bt ex Ls U → va_P D vwCl (V ++ U) H → va_D A (V ++ U) → va_S A s.heap H locs → lv_has ls 4 [(3, .int (nI i)), (2, .ref m0), (1, .ref x0), (0, .ref b)] → W p l e room_1 s m #[Value.ref b] below meth c H locs (cells) (slots) (lw_Z below #[Value.ref b] s) (F0 m 1727 ls [])) : ∀ (cells slots tp : Nat) (bt : Nat → Nat) (ex : Nat → Bool) (Ls : Nat → List (Nat × Int32)) (V U : va_W) (H : Heap) (locs : List Loc) (ls : Array Slot), cells + 14 * cntE ex ≤ 200 → slots + 11072 * cntE ex ≤ 200000 → RWd cm m0 tp bt ex Ls V → CWd cI cT x0 tp bt ex Ls U → va_P D vwCl (V ++ U) H → va_D A (V ++ U) → va_S A s.heap H locs → lv_has ls 4 [(3, .int (nI i)), (2, .ref m0), (1, .ref x0), (0, .ref b)] → W p l e room_1 s m #[Value.ref b] below meth c H locs (cells) (slots) (lw_Z below #[Value.ref b] s) (F0 m 1648 ls []) := by
  intro cells slots tp bt ex Ls V U H locs ls hc9 hs9 hR hC hP hD hS hl
  have hf1 : cells ≤ room_1.cells := Nat.le_trans (show cells ≤ 200 by omega) (by decide +kernel)
  have hf2 : slots ≤ room_1.slots := Nat.le_trans (show slots ≤ 200000 by omega) (by decide +kernel)
  obtain ⟨hx, hb, hr, hml, hown, hts, hX, hbl, hlocks, hgv⟩ := id C0
  have hown : s.vm.findClass RL = some m.cls := hown
  refine lv_aload_n hx hb dL_law_1648 rfl (lv_at hl 2 rfl) ?_
  refine lv_aload_n hx hb dL_law_1649 rfl (lv_at hl 3 rfl) ?_
  refine lv_iload_n hx hb dL_law_1650 rfl (lv_at hl 0 rfl) ?_
  refine lv_iconst (v := 1) hx hb dL_law_1651 (by decide) ?_
  refine lv_iadd hx hb dL_law_1652 ?_
  refine lv_topi (fun v1 ev1 => ?_)
  obtain rfl : v1 = nI (i + 1) := ev1.trans (nI_add _ 1)
  refine va_sld hx hb hX hbl hbA hS (vp_in_nI (by omega) (by omega)) dL_law_1653 ?_
  refine lv_topi (fun v2 ev2 => ?_)
  by_cases hn9 : bkNew bt tp ex v2
  ·
    have hcn := bk_c1 hn9
    have hg1 : cells + 14 ≤ room_1.cells := Nat.le_trans (show cells + 14 ≤ 200 by omega) (by decide +kernel)
    have hg2 : slots + 11072 ≤ room_1.slots := Nat.le_trans (show slots + 11072 ≤ 200000 by omega) (by decide +kernel)
    obtain ⟨q9, fs9, he9⟩ := hC.recv
    have hFc := va_fr hD.rt hS hA
    refine va_calli (va_runV (As := [.int v2]) (rest := []) ⟨hx, hb, hml, hown, hts⟩ (m_backW l D _ adK adV cI cT x0 _ _ _ _ U v2 hC hn9) (cwV 1 hts g_L_m_backW_167 rfl rfl rfl (by decide +kernel) ⟨(Nat.le_of_ble_eq_true rfl), (Nat.le_of_ble_eq_true rfl)⟩) (PcWS_V (q0 := q9) hP.rt hKc hD.rt hN hST hS hFc he9 rfl) rfl rfl hl.1 rfl (lv_room (Nat.le_of_ble_eq_true rfl)) dL_law_1654 ⟨hg1, hg2⟩) hS (fun q _ h => hFc q h) hFc (fun r3 uu tt H locs htt hvm hw hB hz1 hk1 hS => ?_)
    obtain ⟨U4, rfl⟩ : ∃ z, z = uu := ⟨_, rfl⟩
    obtain ⟨hP1, hK1, hD1⟩ := hB
    rw [htt] at hP1
    obtain ⟨hP, hD⟩ := jnC hP hD hk1 hFc hP1 hD1
    have hC := hw.1
    have emC := hw.2
    refine lv_pop hx hb dL_law_1657 rfl ?_
    refine lv_aload_n hx hb dL_law_1658 rfl (lv_at hl 1 rfl) ?_
    refine lv_aload_n hx hb dL_law_1659 rfl (lv_at hl 3 rfl) ?_
    refine lv_iload_n hx hb dL_law_1660 rfl (lv_at hl 0 rfl) ?_
    refine lv_iconst (v := 1) hx hb dL_law_1661 (by decide) ?_
    refine lv_iadd hx hb dL_law_1662 ?_
    refine lv_topi (fun v5 ev5 => ?_)
    obtain rfl : v5 = nI (i + 1) := ev5.trans (nI_add _ 1)
    refine va_sld hx hb hX hbl hbA hS (vp_in_nI (by omega) (by omega)) dL_law_1663 ?_
    refine lv_topi (fun v6 ev6 => ?_)
    obtain ⟨q9, fs9, he9⟩ := hR.recv
    have hFc := va_fr hD.lf hS hA
    refine va_calli (va_runV (As := [.int v6]) (rest := []) ⟨hx, hb, hml, hown, hts⟩ (M_back l D _ cm m0 _ _ _ _ V v6 hR) (cwV 1 hts g_L_c_backM_170 rfl rfl rfl (by decide +kernel) ⟨(Nat.le_of_ble_eq_true rfl), (Nat.le_of_ble_eq_true rfl)⟩) (PcW_V (q0 := q9) hP.lf hKm hD.lf he9 rfl) rfl rfl hl.1 rfl (lv_room (Nat.le_of_ble_eq_true rfl)) dL_law_1664 ⟨hg1, hg2⟩) hS (fun q _ h => hFc q h) hFc (fun r7 uu tt H locs htt hvm hw hB hz1 hk1 hS => ?_)
    obtain ⟨V8, rfl⟩ : ∃ z, z = uu := ⟨_, rfl⟩
    obtain ⟨hP1, hK1, hD1⟩ := hB
    rw [htt] at hP1
    obtain ⟨hP, hD⟩ := jnR hP hD hk1 hFc hP1 hD1
    have hR := hw.1
    have emR := hw.2
    have e9x : v6 = v2 := ev6.trans ev2.symm
    try rw [e9x] at hR
    try rw [e9x] at emR
    clear e9x
    refine lv_pop hx hb dL_law_1667 rfl ?_
    refine lv_goto (tgt := 1727) hx hb dL_law_1668 (by decide) ?_
    exact kx (cells + 14) (slots + 11072) _ _ _ _ V8 U4 H locs ls (by omega) (by omega) hR hC hP hD hS hl
  ·
    have hcn := bk_c0 hn9
    obtain ⟨q9, fs9, he9⟩ := hC.recv
    have hFc := va_fr hD.rt hS hA
    refine va_calli (va_runV (As := [.int v2]) (rest := []) ⟨hx, hb, hml, hown, hts⟩ (m_back l D _ adK adV cI cT x0 _ _ _ _ U v2 hC hn9) (cwV 1 hts g_L_m_back_167 rfl rfl rfl (by decide +kernel) ⟨(Nat.le_of_ble_eq_true rfl), (Nat.le_of_ble_eq_true rfl)⟩) (PcWS_V (q0 := q9) hP.rt hKc hD.rt hN hST hS hFc he9 rfl) rfl rfl hl.1 rfl (lv_room (Nat.le_of_ble_eq_true rfl)) dL_law_1654 ⟨hf1, hf2⟩) hS (fun q _ h => hFc q h) hFc (fun r9 uu tt H locs htt hvm hw hB hz1 hk1 hS => ?_)
    obtain ⟨U10, rfl⟩ : ∃ z, z = uu := ⟨_, rfl⟩
    obtain ⟨hP1, hK1, hD1⟩ := hB
    rw [htt] at hP1
    obtain ⟨hP, hD⟩ := jnC hP hD hk1 hFc hP1 hD1
    have hC := hw.1
    have emC := hw.2
    refine lv_pop hx hb dL_law_1657 rfl ?_
    refine lv_aload_n hx hb dL_law_1658 rfl (lv_at hl 1 rfl) ?_
    refine lv_aload_n hx hb dL_law_1659 rfl (lv_at hl 3 rfl) ?_
    refine lv_iload_n hx hb dL_law_1660 rfl (lv_at hl 0 rfl) ?_
    refine lv_iconst (v := 1) hx hb dL_law_1661 (by decide) ?_
    refine lv_iadd hx hb dL_law_1662 ?_
    refine lv_topi (fun v11 ev11 => ?_)
    obtain rfl : v11 = nI (i + 1) := ev11.trans (nI_add _ 1)
    refine va_sld hx hb hX hbl hbA hS (vp_in_nI (by omega) (by omega)) dL_law_1663 ?_
    refine lv_topi (fun v12 ev12 => ?_)
    obtain ⟨q9, fs9, he9⟩ := hR.recv
    have hFc := va_fr hD.lf hS hA
    refine va_calli (va_runV (As := [.int v12]) (rest := []) ⟨hx, hb, hml, hown, hts⟩ (M_back l D _ cm m0 _ _ _ _ V v12 hR) (cwV 1 hts g_L_c_backM_170 rfl rfl rfl (by decide +kernel) ⟨(Nat.le_of_ble_eq_true rfl), (Nat.le_of_ble_eq_true rfl)⟩) (PcW_V (q0 := q9) hP.lf hKm hD.lf he9 rfl) rfl rfl hl.1 rfl (lv_room (Nat.le_of_ble_eq_true rfl)) dL_law_1664 ⟨hf1, hf2⟩) hS (fun q _ h => hFc q h) hFc (fun r13 uu tt H locs htt hvm hw hB hz1 hk1 hS => ?_)
    obtain ⟨V14, rfl⟩ : ∃ z, z = uu := ⟨_, rfl⟩
    obtain ⟨hP1, hK1, hD1⟩ := hB
    rw [htt] at hP1
    obtain ⟨hP, hD⟩ := jnR hP hD hk1 hFc hP1 hD1
    have hR := hw.1
    have emR := hw.2
    have e9x : v12 = v2 := ev12.trans ev2.symm
    try rw [e9x] at hR
    try rw [e9x] at emR
    clear e9x
    refine lv_pop hx hb dL_law_1667 rfl ?_
    refine lv_goto (tgt := 1727) hx hb dL_law_1668 (by decide) ?_
    exact kx cells slots _ _ _ _ V14 U10 H locs ls (by omega) (by omega) hR hC hP hD hS hl

set_option maxRecDepth 20000 in
theorem g_L_m_copyW_171 : GoodIn lw_tbl (wsV RL 171 RX10 yX10_copy wp_m_copyW) := goodIn_sub (List.forall_mem_append.mpr ⟨List.forall_mem_cons.mpr ⟨lww_213, List.forall_mem_cons.mpr ⟨lww_214, List.forall_mem_cons.mpr ⟨lww_215, List.forall_mem_cons.mpr ⟨lww_3, fun _ h => absurd h List.not_mem_nil⟩⟩⟩⟩, in_m_copyW⟩) (by decide +kernel)
set_option maxRecDepth 20000 in
theorem g_L_c_copyM_174 : GoodIn lw_tbl (wsV RL 174 RX11 yX11_copy wp_c_copyM) := goodIn_sub (List.forall_mem_append.mpr ⟨List.forall_mem_cons.mpr ⟨lww_216, List.forall_mem_cons.mpr ⟨lww_217, List.forall_mem_cons.mpr ⟨lww_218, List.forall_mem_cons.mpr ⟨lww_7, fun _ h => absurd h List.not_mem_nil⟩⟩⟩⟩, in_c_copyM⟩) (by decide +kernel)
set_option maxRecDepth 20000 in
theorem g_L_m_copy_171 : GoodIn lw_tbl (wsV RL 171 RX10 yX10_copy wp_m_copy) := goodIn_sub (List.forall_mem_append.mpr ⟨List.forall_mem_cons.mpr ⟨lww_213, List.forall_mem_cons.mpr ⟨lww_214, List.forall_mem_cons.mpr ⟨lww_215, List.forall_mem_cons.mpr ⟨lww_3, fun _ h => absurd h List.not_mem_nil⟩⟩⟩⟩, in_m_copy⟩) (by decide +kernel)
set_option maxHeartbeats 4000000 in
set_option maxRecDepth 100000 in
theorem law_case_35 {p : Program} {e : Env} {s : State} {m : MethodId} {below : List Frame} {meth : Method} {c : Code} (l : Launch) {b L : Nat} {xs : Nat → Int32} {D : va_G} {A : Nat → Prop} {adK adV : Nat → Nat} (C0 : lw_At p s m meth c b L xs) (hL : L ≤ 3584) (hN : NC s) (hST : ST adK adV A s s.heap) (hA : ∀ q, s.heap.size ≤ q → A q) (hbA : ¬ A b) {cm : Nat → ClassId} {cI cT : ClassId} (hKm : va_K D vwCl (tyM cm) s) (hKc : va_K D vwCl [(cI, .int), (cT, .object RX9)] s) {x0 m0 i : Nat} (hi : i + 7 ≤ L) (kx : ∀ (cells slots tp : Nat) (bt : Nat → Nat) (ex : Nat → Bool) (Ls : Nat → List (Nat × Int32)) (V U : va_W) (H : Heap) (locs : List Loc) (ls : Array Slot), cells + 14 * cntE ex ≤ 200 → slots + 11072 * cntE ex ≤ 200000 → RWd cm m0 tp bt ex Ls V → CWd cI cT x0 tp bt ex Ls U → va_P D vwCl (V ++ U) H → va_D A (V ++ U) → va_S A s.heap H locs → lv_has ls 4 [(3, .int (nI i)), (2, .ref m0), (1, .ref x0), (0, .ref b)] → W p l e room_1 s m #[Value.ref b] below meth c H locs (cells) (slots) (lw_Z below #[Value.ref b] s) (F0 m 1727 ls [])) : ∀ (cells slots tp : Nat) (bt : Nat → Nat) (ex : Nat → Bool) (Ls : Nat → List (Nat × Int32)) (V U : va_W) (H : Heap) (locs : List Loc) (ls : Array Slot), cells + 14 * cntE ex ≤ 200 → slots + 11072 * cntE ex ≤ 200000 → RWd cm m0 tp bt ex Ls V → CWd cI cT x0 tp bt ex Ls U → va_P D vwCl (V ++ U) H → va_D A (V ++ U) → va_S A s.heap H locs → lv_has ls 4 [(3, .int (nI i)), (2, .ref m0), (1, .ref x0), (0, .ref b)] → W p l e room_1 s m #[Value.ref b] below meth c H locs (cells) (slots) (lw_Z below #[Value.ref b] s) (F0 m 1671 ls []) := by
  intro cells slots tp bt ex Ls V U H locs ls hc9 hs9 hR hC hP hD hS hl
  have hf1 : cells ≤ room_1.cells := Nat.le_trans (show cells ≤ 200 by omega) (by decide +kernel)
  have hf2 : slots ≤ room_1.slots := Nat.le_trans (show slots ≤ 200000 by omega) (by decide +kernel)
  obtain ⟨hx, hb, hr, hml, hown, hts, hX, hbl, hlocks, hgv⟩ := id C0
  have hown : s.vm.findClass RL = some m.cls := hown
  refine lv_aload_n hx hb dL_law_1671 rfl (lv_at hl 2 rfl) ?_
  refine lv_aload_n hx hb dL_law_1672 rfl (lv_at hl 3 rfl) ?_
  refine lv_iload_n hx hb dL_law_1673 rfl (lv_at hl 0 rfl) ?_
  refine lv_iconst (v := 1) hx hb dL_law_1674 (by decide) ?_
  refine lv_iadd hx hb dL_law_1675 ?_
  refine lv_topi (fun v1 ev1 => ?_)
  obtain rfl : v1 = nI (i + 1) := ev1.trans (nI_add _ 1)
  refine va_sld hx hb hX hbl hbA hS (vp_in_nI (by omega) (by omega)) dL_law_1676 ?_
  refine lv_topi (fun v2 ev2 => ?_)
  refine lv_aload_n hx hb dL_law_1677 rfl (lv_at hl 3 rfl) ?_
  refine lv_iload_n hx hb dL_law_1678 rfl (lv_at hl 0 rfl) ?_
  refine lv_iconst (v := 2) hx hb dL_law_1679 (by decide) ?_
  refine lv_iadd hx hb dL_law_1680 ?_
  refine lv_topi (fun v3 ev3 => ?_)
  obtain rfl : v3 = nI (i + 2) := ev3.trans (nI_add _ 2)
  refine va_sld hx hb hX hbl hbA hS (vp_in_nI (by omega) (by omega)) dL_law_1681 ?_
  refine lv_topi (fun v4 ev4 => ?_)
  by_cases hn9 : cpNew ex v2 v4
  ·
    have hcn := cp_c1 hn9
    have hg1 : cells + 14 ≤ room_1.cells := Nat.le_trans (show cells + 14 ≤ 200 by omega) (by decide +kernel)
    have hg2 : slots + 11072 ≤ room_1.slots := Nat.le_trans (show slots + 11072 ≤ 200000 by omega) (by decide +kernel)
    obtain ⟨q9, fs9, he9⟩ := hC.recv
    have hFc := va_fr hD.rt hS hA
    refine va_calli (va_runV (As := [.int v2, .int v4]) (rest := []) ⟨hx, hb, hml, hown, hts⟩ (m_copyW l D _ adK adV cI cT x0 _ _ _ _ U v2 v4 hC hn9) (cwV 2 hts g_L_m_copyW_171 rfl rfl rfl (by decide +kernel) ⟨(Nat.le_of_ble_eq_true rfl), (Nat.le_of_ble_eq_true rfl)⟩) (PcWS_V (q0 := q9) hP.rt hKc hD.rt hN hST hS hFc he9 rfl) rfl rfl hl.1 rfl (lv_room (Nat.le_of_ble_eq_true rfl)) dL_law_1682 ⟨hg1, hg2⟩) hS (fun q _ h => hFc q h) hFc (fun r5 uu tt H locs htt hvm hw hB hz1 hk1 hS => ?_)
    obtain ⟨U6, rfl⟩ : ∃ z, z = uu := ⟨_, rfl⟩
    obtain ⟨hP1, hK1, hD1⟩ := hB
    rw [htt] at hP1
    obtain ⟨hP, hD⟩ := jnC hP hD hk1 hFc hP1 hD1
    have hC := hw.1
    have emC := hw.2
    refine lv_pop hx hb dL_law_1685 rfl ?_
    refine lv_aload_n hx hb dL_law_1686 rfl (lv_at hl 1 rfl) ?_
    refine lv_aload_n hx hb dL_law_1687 rfl (lv_at hl 3 rfl) ?_
    refine lv_iload_n hx hb dL_law_1688 rfl (lv_at hl 0 rfl) ?_
    refine lv_iconst (v := 1) hx hb dL_law_1689 (by decide) ?_
    refine lv_iadd hx hb dL_law_1690 ?_
    refine lv_topi (fun v7 ev7 => ?_)
    obtain rfl : v7 = nI (i + 1) := ev7.trans (nI_add _ 1)
    refine va_sld hx hb hX hbl hbA hS (vp_in_nI (by omega) (by omega)) dL_law_1691 ?_
    refine lv_topi (fun v8 ev8 => ?_)
    refine lv_aload_n hx hb dL_law_1692 rfl (lv_at hl 3 rfl) ?_
    refine lv_iload_n hx hb dL_law_1693 rfl (lv_at hl 0 rfl) ?_
    refine lv_iconst (v := 2) hx hb dL_law_1694 (by decide) ?_
    refine lv_iadd hx hb dL_law_1695 ?_
    refine lv_topi (fun v9 ev9 => ?_)
    obtain rfl : v9 = nI (i + 2) := ev9.trans (nI_add _ 2)
    refine va_sld hx hb hX hbl hbA hS (vp_in_nI (by omega) (by omega)) dL_law_1696 ?_
    refine lv_topi (fun v10 ev10 => ?_)
    obtain ⟨q9, fs9, he9⟩ := hR.recv
    have hFc := va_fr hD.lf hS hA
    refine va_calli (va_runV (As := [.int v8, .int v10]) (rest := []) ⟨hx, hb, hml, hown, hts⟩ (M_copy l D _ cm m0 _ _ _ _ V v8 v10 hR) (cwV 2 hts g_L_c_copyM_174 rfl rfl rfl (by decide +kernel) ⟨(Nat.le_of_ble_eq_true rfl), (Nat.le_of_ble_eq_true rfl)⟩) (PcW_V (q0 := q9) hP.lf hKm hD.lf he9 rfl) rfl rfl hl.1 rfl (lv_room (Nat.le_of_ble_eq_true rfl)) dL_law_1697 ⟨hg1, hg2⟩) hS (fun q _ h => hFc q h) hFc (fun r11 uu tt H locs htt hvm hw hB hz1 hk1 hS => ?_)
    obtain ⟨V12, rfl⟩ : ∃ z, z = uu := ⟨_, rfl⟩
    obtain ⟨hP1, hK1, hD1⟩ := hB
    rw [htt] at hP1
    obtain ⟨hP, hD⟩ := jnR hP hD hk1 hFc hP1 hD1
    have hR := hw.1
    have emR := hw.2
    have e9x : v8 = v2 := ev8.trans ev2.symm
    try rw [e9x] at hR
    try rw [e9x] at emR
    clear e9x
    have e9x : v10 = v4 := ev10.trans ev4.symm
    try rw [e9x] at hR
    try rw [e9x] at emR
    clear e9x
    refine lv_pop hx hb dL_law_1700 rfl ?_
    refine lv_goto (tgt := 1727) hx hb dL_law_1701 (by decide) ?_
    exact kx (cells + 14) (slots + 11072) _ _ _ _ V12 U6 H locs ls (by omega) (by omega) hR hC hP hD hS hl
  ·
    have hcn := cp_c0 hn9
    obtain ⟨q9, fs9, he9⟩ := hC.recv
    have hFc := va_fr hD.rt hS hA
    refine va_calli (va_runV (As := [.int v2, .int v4]) (rest := []) ⟨hx, hb, hml, hown, hts⟩ (m_copy l D _ adK adV cI cT x0 _ _ _ _ U v2 v4 hC hn9) (cwV 2 hts g_L_m_copy_171 rfl rfl rfl (by decide +kernel) ⟨(Nat.le_of_ble_eq_true rfl), (Nat.le_of_ble_eq_true rfl)⟩) (PcWS_V (q0 := q9) hP.rt hKc hD.rt hN hST hS hFc he9 rfl) rfl rfl hl.1 rfl (lv_room (Nat.le_of_ble_eq_true rfl)) dL_law_1682 ⟨hf1, hf2⟩) hS (fun q _ h => hFc q h) hFc (fun r13 uu tt H locs htt hvm hw hB hz1 hk1 hS => ?_)
    obtain ⟨U14, rfl⟩ : ∃ z, z = uu := ⟨_, rfl⟩
    obtain ⟨hP1, hK1, hD1⟩ := hB
    rw [htt] at hP1
    obtain ⟨hP, hD⟩ := jnC hP hD hk1 hFc hP1 hD1
    have hC := hw.1
    have emC := hw.2
    refine lv_pop hx hb dL_law_1685 rfl ?_
    refine lv_aload_n hx hb dL_law_1686 rfl (lv_at hl 1 rfl) ?_
    refine lv_aload_n hx hb dL_law_1687 rfl (lv_at hl 3 rfl) ?_
    refine lv_iload_n hx hb dL_law_1688 rfl (lv_at hl 0 rfl) ?_
    refine lv_iconst (v := 1) hx hb dL_law_1689 (by decide) ?_
    refine lv_iadd hx hb dL_law_1690 ?_
    refine lv_topi (fun v15 ev15 => ?_)
    obtain rfl : v15 = nI (i + 1) := ev15.trans (nI_add _ 1)
    refine va_sld hx hb hX hbl hbA hS (vp_in_nI (by omega) (by omega)) dL_law_1691 ?_
    refine lv_topi (fun v16 ev16 => ?_)
    refine lv_aload_n hx hb dL_law_1692 rfl (lv_at hl 3 rfl) ?_
    refine lv_iload_n hx hb dL_law_1693 rfl (lv_at hl 0 rfl) ?_
    refine lv_iconst (v := 2) hx hb dL_law_1694 (by decide) ?_
    refine lv_iadd hx hb dL_law_1695 ?_
    refine lv_topi (fun v17 ev17 => ?_)
    obtain rfl : v17 = nI (i + 2) := ev17.trans (nI_add _ 2)
    refine va_sld hx hb hX hbl hbA hS (vp_in_nI (by omega) (by omega)) dL_law_1696 ?_
    refine lv_topi (fun v18 ev18 => ?_)
    obtain ⟨q9, fs9, he9⟩ := hR.recv
    have hFc := va_fr hD.lf hS hA
    refine va_calli (va_runV (As := [.int v16, .int v18]) (rest := []) ⟨hx, hb, hml, hown, hts⟩ (M_copy l D _ cm m0 _ _ _ _ V v16 v18 hR) (cwV 2 hts g_L_c_copyM_174 rfl rfl rfl (by decide +kernel) ⟨(Nat.le_of_ble_eq_true rfl), (Nat.le_of_ble_eq_true rfl)⟩) (PcW_V (q0 := q9) hP.lf hKm hD.lf he9 rfl) rfl rfl hl.1 rfl (lv_room (Nat.le_of_ble_eq_true rfl)) dL_law_1697 ⟨hf1, hf2⟩) hS (fun q _ h => hFc q h) hFc (fun r19 uu tt H locs htt hvm hw hB hz1 hk1 hS => ?_)
    obtain ⟨V20, rfl⟩ : ∃ z, z = uu := ⟨_, rfl⟩
    obtain ⟨hP1, hK1, hD1⟩ := hB
    rw [htt] at hP1
    obtain ⟨hP, hD⟩ := jnR hP hD hk1 hFc hP1 hD1
    have hR := hw.1
    have emR := hw.2
    have e9x : v16 = v2 := ev16.trans ev2.symm
    try rw [e9x] at hR
    try rw [e9x] at emR
    clear e9x
    have e9x : v18 = v4 := ev18.trans ev4.symm
    try rw [e9x] at hR
    try rw [e9x] at emR
    clear e9x
    refine lv_pop hx hb dL_law_1700 rfl ?_
    refine lv_goto (tgt := 1727) hx hb dL_law_1701 (by decide) ?_
    exact kx cells slots _ _ _ _ V20 U14 H locs ls (by omega) (by omega) hR hC hP hD hS hl

set_option maxRecDepth 20000 in
theorem g_L_m_count_175 : GoodIn lw_tbl (wsV RL 175 RX10 yX10_count wp_m_count) := goodIn_sub (List.forall_mem_append.mpr ⟨List.forall_mem_cons.mpr ⟨lww_219, List.forall_mem_cons.mpr ⟨lww_220, List.forall_mem_cons.mpr ⟨lww_221, List.forall_mem_cons.mpr ⟨lww_3, fun _ h => absurd h List.not_mem_nil⟩⟩⟩⟩, in_m_count⟩) (by decide +kernel)
set_option maxRecDepth 20000 in
theorem g_L_c_countM_178 : GoodIn lw_tbl (wsV RL 178 RX11 yX11_count wp_c_countM) := goodIn_sub (List.forall_mem_append.mpr ⟨List.forall_mem_cons.mpr ⟨lww_222, List.forall_mem_cons.mpr ⟨lww_223, List.forall_mem_cons.mpr ⟨lww_224, List.forall_mem_cons.mpr ⟨lww_7, fun _ h => absurd h List.not_mem_nil⟩⟩⟩⟩, in_c_countM⟩) (by decide +kernel)
set_option maxHeartbeats 4000000 in
set_option maxRecDepth 100000 in
theorem law_case_36 {p : Program} {e : Env} {s : State} {m : MethodId} {below : List Frame} {meth : Method} {c : Code} (l : Launch) {b L : Nat} {xs : Nat → Int32} {D : va_G} {A : Nat → Prop} {adK adV : Nat → Nat} (C0 : lw_At p s m meth c b L xs) (hL : L ≤ 3584) (hN : NC s) (hST : ST adK adV A s s.heap) (hA : ∀ q, s.heap.size ≤ q → A q) (hbA : ¬ A b) {cm : Nat → ClassId} {cI cT : ClassId} (hKm : va_K D vwCl (tyM cm) s) (hKc : va_K D vwCl [(cI, .int), (cT, .object RX9)] s) {x0 m0 i : Nat} (hi : i + 7 ≤ L) (kx : ∀ (cells slots tp : Nat) (bt : Nat → Nat) (ex : Nat → Bool) (Ls : Nat → List (Nat × Int32)) (V U : va_W) (H : Heap) (locs : List Loc) (ls : Array Slot), cells + 14 * cntE ex ≤ 200 → slots + 11072 * cntE ex ≤ 200000 → RWd cm m0 tp bt ex Ls V → CWd cI cT x0 tp bt ex Ls U → va_P D vwCl (V ++ U) H → va_D A (V ++ U) → va_S A s.heap H locs → lv_has ls 4 [(3, .int (nI i)), (2, .ref m0), (1, .ref x0), (0, .ref b)] → W p l e room_1 s m #[Value.ref b] below meth c H locs (cells) (slots) (lw_Z below #[Value.ref b] s) (F0 m 1727 ls [])) : ∀ (cells slots tp : Nat) (bt : Nat → Nat) (ex : Nat → Bool) (Ls : Nat → List (Nat × Int32)) (V U : va_W) (H : Heap) (locs : List Loc) (ls : Array Slot), cells + 14 * cntE ex ≤ 200 → slots + 11072 * cntE ex ≤ 200000 → RWd cm m0 tp bt ex Ls V → CWd cI cT x0 tp bt ex Ls U → va_P D vwCl (V ++ U) H → va_D A (V ++ U) → va_S A s.heap H locs → lv_has ls 4 [(3, .int (nI i)), (2, .ref m0), (1, .ref x0), (0, .ref b)] → W p l e room_1 s m #[Value.ref b] below meth c H locs (cells) (slots) (lw_Z below #[Value.ref b] s) (F0 m 1704 ls []) := by
  intro cells slots tp bt ex Ls V U H locs ls hc9 hs9 hR hC hP hD hS hl
  have hf1 : cells ≤ room_1.cells := Nat.le_trans (show cells ≤ 200 by omega) (by decide +kernel)
  have hf2 : slots ≤ room_1.slots := Nat.le_trans (show slots ≤ 200000 by omega) (by decide +kernel)
  obtain ⟨hx, hb, hr, hml, hown, hts, hX, hbl, hlocks, hgv⟩ := id C0
  have hown : s.vm.findClass RL = some m.cls := hown
  refine lv_aload_n hx hb dL_law_1704 rfl (lv_at hl 2 rfl) ?_
  refine lv_aload_n hx hb dL_law_1705 rfl (lv_at hl 3 rfl) ?_
  refine lv_iload_n hx hb dL_law_1706 rfl (lv_at hl 0 rfl) ?_
  refine lv_iconst (v := 1) hx hb dL_law_1707 (by decide) ?_
  refine lv_iadd hx hb dL_law_1708 ?_
  refine lv_topi (fun v1 ev1 => ?_)
  obtain rfl : v1 = nI (i + 1) := ev1.trans (nI_add _ 1)
  refine va_sld hx hb hX hbl hbA hS (vp_in_nI (by omega) (by omega)) dL_law_1709 ?_
  refine lv_topi (fun v2 ev2 => ?_)
  obtain ⟨q9, fs9, he9⟩ := hC.recv
  have hFc := va_fr hD.rt hS hA
  refine va_calli (va_runV (As := [.int v2]) (rest := []) ⟨hx, hb, hml, hown, hts⟩ (m_count l D _ adK adV cI cT x0 _ _ _ _ U v2 hC) (cwV 1 hts g_L_m_count_175 rfl rfl rfl (by decide +kernel) ⟨(Nat.le_of_ble_eq_true rfl), (Nat.le_of_ble_eq_true rfl)⟩) (PcWS_V (q0 := q9) hP.rt hKc hD.rt hN hST hS hFc he9 rfl) rfl rfl hl.1 rfl (lv_room (Nat.le_of_ble_eq_true rfl)) dL_law_1710 ⟨hf1, hf2⟩) hS (fun q _ h => hFc q h) hFc (fun r3 uu tt H locs htt hvm hw hB hz1 hk1 hS => ?_)
  obtain ⟨U4, rfl⟩ : ∃ z, z = uu := ⟨_, rfl⟩
  obtain ⟨hP1, hK1, hD1⟩ := hB
  rw [htt] at hP1
  obtain ⟨hP, hD⟩ := jnC hP hD hk1 hFc hP1 hD1
  have hC := hw.1
  have emC := hw.2
  refine lv_aload_n hx hb dL_law_1713 rfl (lv_at hl 1 rfl) ?_
  refine lv_aload_n hx hb dL_law_1714 rfl (lv_at hl 3 rfl) ?_
  refine lv_iload_n hx hb dL_law_1715 rfl (lv_at hl 0 rfl) ?_
  refine lv_iconst (v := 1) hx hb dL_law_1716 (by decide) ?_
  refine lv_iadd hx hb dL_law_1717 ?_
  refine lv_topi (fun v5 ev5 => ?_)
  obtain rfl : v5 = nI (i + 1) := ev5.trans (nI_add _ 1)
  refine va_sld hx hb hX hbl hbA hS (vp_in_nI (by omega) (by omega)) dL_law_1718 ?_
  refine lv_topi (fun v6 ev6 => ?_)
  obtain ⟨q9, fs9, he9⟩ := hR.recv
  have hFc := va_fr hD.lf hS hA
  refine va_calli (va_runV (As := [.int v6]) (rest := [.int r3]) ⟨hx, hb, hml, hown, hts⟩ (M_count l D _ cm m0 _ _ _ _ V v6 hR) (cwV 1 hts g_L_c_countM_178 rfl rfl rfl (by decide +kernel) ⟨(Nat.le_of_ble_eq_true rfl), (Nat.le_of_ble_eq_true rfl)⟩) (PcW_V (q0 := q9) hP.lf hKm hD.lf he9 rfl) rfl rfl hl.1 rfl (lv_room (Nat.le_of_ble_eq_true rfl)) dL_law_1719 ⟨hf1, hf2⟩) hS (fun q _ h => hFc q h) hFc (fun r7 uu tt H locs htt hvm hw hB hz1 hk1 hS => ?_)
  obtain ⟨V8, rfl⟩ : ∃ z, z = uu := ⟨_, rfl⟩
  obtain ⟨hP1, hK1, hD1⟩ := hB
  rw [htt] at hP1
  obtain ⟨hP, hD⟩ := jnR hP hD hk1 hFc hP1 hD1
  have hR := hw.1
  have emR := hw.2
  have e9x : v6 = v2 := ev6.trans ev2.symm
  try rw [e9x] at hR
  try rw [e9x] at emR
  clear e9x
  refine lv_icmp_eq (tgt := 1727) hx hb dL_law_1722 (by decide) (fun hc => ?_) (fun hc => absurd (by rw [emC, emR]) hc)
  exact kx cells slots _ _ _ _ V8 U4 H locs ls (by omega) (by omega) hR hC hP hD hS hl

