theorem dL_law_1464 : decode cL_law 1464 = .ok (.aload_n 1, 1) := by decide +kernel
theorem dL_law_1465 : decode cL_law 1465 = .ok (.aload_n 0, 1) := by decide +kernel
theorem dL_law_1466 : decode cL_law 1466 = .ok (.iload_n 3, 1) := by decide +kernel
theorem dL_law_1467 : decode cL_law 1467 = .ok (.iconst 1, 1) := by decide +kernel
theorem dL_law_1468 : decode cL_law 1468 = .ok (.iadd, 1) := by decide +kernel
theorem dL_law_1469 : decode cL_law 1469 = .ok (.iaload, 1) := by decide +kernel
theorem dL_law_1470 : decode cL_law 1470 = .ok (.aload_n 0, 1) := by decide +kernel
theorem dL_law_1471 : decode cL_law 1471 = .ok (.iload_n 3, 1) := by decide +kernel
theorem dL_law_1472 : decode cL_law 1472 = .ok (.iconst 2, 1) := by decide +kernel
theorem dL_law_1473 : decode cL_law 1473 = .ok (.iadd, 1) := by decide +kernel
theorem dL_law_1474 : decode cL_law 1474 = .ok (.iaload, 1) := by decide +kernel
theorem dL_law_1475 : decode cL_law 1475 = .ok (.aload_n 0, 1) := by decide +kernel
theorem dL_law_1476 : decode cL_law 1476 = .ok (.iload_n 3, 1) := by decide +kernel
theorem dL_law_1477 : decode cL_law 1477 = .ok (.iconst 3, 1) := by decide +kernel
theorem dL_law_1478 : decode cL_law 1478 = .ok (.iadd, 1) := by decide +kernel
theorem dL_law_1479 : decode cL_law 1479 = .ok (.iaload, 1) := by decide +kernel
theorem dL_law_1480 : decode cL_law 1480 = .ok (.ifCond .eq 7, 3) := by decide +kernel
theorem dL_law_1483 : decode cL_law 1483 = .ok (.iconst 1, 1) := by decide +kernel
theorem dL_law_1484 : decode cL_law 1484 = .ok (.goto 4, 3) := by decide +kernel
theorem dL_law_1487 : decode cL_law 1487 = .ok (.iconst 0, 1) := by decide +kernel
theorem dL_law_1488 : decode cL_law 1488 = .ok (.invokevirtual 141, 3) := by decide +kernel
theorem dL_law_1491 : decode cL_law 1491 = .ok (.pop, 1) := by decide +kernel
theorem dL_law_1492 : decode cL_law 1492 = .ok (.aload_n 2, 1) := by decide +kernel
theorem dL_law_1493 : decode cL_law 1493 = .ok (.aload_n 0, 1) := by decide +kernel
theorem dL_law_1494 : decode cL_law 1494 = .ok (.iload_n 3, 1) := by decide +kernel
theorem dL_law_1495 : decode cL_law 1495 = .ok (.iconst 1, 1) := by decide +kernel
theorem dL_law_1496 : decode cL_law 1496 = .ok (.iadd, 1) := by decide +kernel
theorem dL_law_1497 : decode cL_law 1497 = .ok (.iaload, 1) := by decide +kernel
theorem dL_law_1498 : decode cL_law 1498 = .ok (.aload_n 0, 1) := by decide +kernel
theorem dL_law_1499 : decode cL_law 1499 = .ok (.iload_n 3, 1) := by decide +kernel
theorem dL_law_1500 : decode cL_law 1500 = .ok (.iconst 2, 1) := by decide +kernel
theorem dL_law_1501 : decode cL_law 1501 = .ok (.iadd, 1) := by decide +kernel
theorem dL_law_1502 : decode cL_law 1502 = .ok (.iaload, 1) := by decide +kernel
theorem dL_law_1503 : decode cL_law 1503 = .ok (.aload_n 0, 1) := by decide +kernel
theorem dL_law_1504 : decode cL_law 1504 = .ok (.iload_n 3, 1) := by decide +kernel
theorem dL_law_1505 : decode cL_law 1505 = .ok (.iconst 3, 1) := by decide +kernel
theorem dL_law_1506 : decode cL_law 1506 = .ok (.iadd, 1) := by decide +kernel
theorem dL_law_1507 : decode cL_law 1507 = .ok (.iaload, 1) := by decide +kernel
theorem dL_law_1508 : decode cL_law 1508 = .ok (.ifCond .eq 7, 3) := by decide +kernel
theorem dL_law_1511 : decode cL_law 1511 = .ok (.iconst 1, 1) := by decide +kernel
theorem dL_law_1512 : decode cL_law 1512 = .ok (.goto 4, 3) := by decide +kernel
theorem dL_law_1515 : decode cL_law 1515 = .ok (.iconst 0, 1) := by decide +kernel
theorem dL_law_1516 : decode cL_law 1516 = .ok (.invokevirtual 145, 3) := by decide +kernel
theorem dL_law_1519 : decode cL_law 1519 = .ok (.pop, 1) := by decide +kernel
theorem dL_law_1520 : decode cL_law 1520 = .ok (.goto 207, 3) := by decide +kernel
theorem dL_law_1523 : decode cL_law 1523 = .ok (.aload_n 1, 1) := by decide +kernel
theorem dL_law_1524 : decode cL_law 1524 = .ok (.aload_n 0, 1) := by decide +kernel
theorem dL_law_1525 : decode cL_law 1525 = .ok (.iload_n 3, 1) := by decide +kernel
theorem dL_law_1526 : decode cL_law 1526 = .ok (.iconst 1, 1) := by decide +kernel
theorem dL_law_1527 : decode cL_law 1527 = .ok (.iadd, 1) := by decide +kernel
theorem dL_law_1528 : decode cL_law 1528 = .ok (.iaload, 1) := by decide +kernel
theorem dL_law_1529 : decode cL_law 1529 = .ok (.aload_n 0, 1) := by decide +kernel
theorem dL_law_1530 : decode cL_law 1530 = .ok (.iload_n 3, 1) := by decide +kernel
theorem dL_law_1531 : decode cL_law 1531 = .ok (.iconst 2, 1) := by decide +kernel
theorem dL_law_1532 : decode cL_law 1532 = .ok (.iadd, 1) := by decide +kernel
theorem dL_law_1533 : decode cL_law 1533 = .ok (.iaload, 1) := by decide +kernel
theorem dL_law_1534 : decode cL_law 1534 = .ok (.invokevirtual 146, 3) := by decide +kernel
theorem dL_law_1537 : decode cL_law 1537 = .ok (.pop2, 1) := by decide +kernel
theorem dL_law_1538 : decode cL_law 1538 = .ok (.aload_n 2, 1) := by decide +kernel
theorem dL_law_1539 : decode cL_law 1539 = .ok (.aload_n 0, 1) := by decide +kernel
theorem dL_law_1540 : decode cL_law 1540 = .ok (.iload_n 3, 1) := by decide +kernel
theorem dL_law_1541 : decode cL_law 1541 = .ok (.iconst 1, 1) := by decide +kernel
theorem dL_law_1542 : decode cL_law 1542 = .ok (.iadd, 1) := by decide +kernel
theorem dL_law_1543 : decode cL_law 1543 = .ok (.iaload, 1) := by decide +kernel
theorem dL_law_1544 : decode cL_law 1544 = .ok (.aload_n 0, 1) := by decide +kernel
theorem dL_law_1545 : decode cL_law 1545 = .ok (.iload_n 3, 1) := by decide +kernel
theorem dL_law_1546 : decode cL_law 1546 = .ok (.iconst 2, 1) := by decide +kernel
theorem dL_law_1547 : decode cL_law 1547 = .ok (.iadd, 1) := by decide +kernel
theorem dL_law_1548 : decode cL_law 1548 = .ok (.iaload, 1) := by decide +kernel
theorem dL_law_1549 : decode cL_law 1549 = .ok (.invokevirtual 149, 3) := by decide +kernel
theorem dL_law_1552 : decode cL_law 1552 = .ok (.pop2, 1) := by decide +kernel
theorem dL_law_1553 : decode cL_law 1553 = .ok (.goto 174, 3) := by decide +kernel
theorem dL_law_1556 : decode cL_law 1556 = .ok (.aload_n 1, 1) := by decide +kernel
theorem dL_law_1557 : decode cL_law 1557 = .ok (.aload_n 0, 1) := by decide +kernel
theorem dL_law_1558 : decode cL_law 1558 = .ok (.iload_n 3, 1) := by decide +kernel
theorem dL_law_1559 : decode cL_law 1559 = .ok (.iconst 1, 1) := by decide +kernel
theorem dL_law_1560 : decode cL_law 1560 = .ok (.iadd, 1) := by decide +kernel
theorem dL_law_1561 : decode cL_law 1561 = .ok (.iaload, 1) := by decide +kernel
theorem dL_law_1562 : decode cL_law 1562 = .ok (.invokevirtual 150, 3) := by decide +kernel
theorem dL_law_1565 : decode cL_law 1565 = .ok (.pop, 1) := by decide +kernel
theorem dL_law_1566 : decode cL_law 1566 = .ok (.aload_n 2, 1) := by decide +kernel
theorem dL_law_1567 : decode cL_law 1567 = .ok (.aload_n 0, 1) := by decide +kernel
theorem dL_law_1568 : decode cL_law 1568 = .ok (.iload_n 3, 1) := by decide +kernel
theorem dL_law_1569 : decode cL_law 1569 = .ok (.iconst 1, 1) := by decide +kernel
theorem dL_law_1570 : decode cL_law 1570 = .ok (.iadd, 1) := by decide +kernel
theorem dL_law_1571 : decode cL_law 1571 = .ok (.iaload, 1) := by decide +kernel
theorem dL_law_1572 : decode cL_law 1572 = .ok (.invokevirtual 153, 3) := by decide +kernel
theorem dL_law_1575 : decode cL_law 1575 = .ok (.pop, 1) := by decide +kernel
theorem dL_law_1576 : decode cL_law 1576 = .ok (.goto 151, 3) := by decide +kernel
theorem dL_law_1579 : decode cL_law 1579 = .ok (.aload_n 1, 1) := by decide +kernel
theorem dL_law_1580 : decode cL_law 1580 = .ok (.aload_n 0, 1) := by decide +kernel
theorem dL_law_1581 : decode cL_law 1581 = .ok (.iload_n 3, 1) := by decide +kernel
theorem dL_law_1582 : decode cL_law 1582 = .ok (.iconst 1, 1) := by decide +kernel
theorem dL_law_1583 : decode cL_law 1583 = .ok (.iadd, 1) := by decide +kernel
theorem dL_law_1584 : decode cL_law 1584 = .ok (.iaload, 1) := by decide +kernel
theorem dL_law_1585 : decode cL_law 1585 = .ok (.invokevirtual 154, 3) := by decide +kernel
theorem dL_law_1588 : decode cL_law 1588 = .ok (.pop2, 1) := by decide +kernel
theorem dL_law_1589 : decode cL_law 1589 = .ok (.aload_n 2, 1) := by decide +kernel
theorem dL_law_1590 : decode cL_law 1590 = .ok (.aload_n 0, 1) := by decide +kernel
theorem dL_law_1591 : decode cL_law 1591 = .ok (.iload_n 3, 1) := by decide +kernel
theorem dL_law_1592 : decode cL_law 1592 = .ok (.iconst 1, 1) := by decide +kernel
theorem dL_law_1593 : decode cL_law 1593 = .ok (.iadd, 1) := by decide +kernel
theorem dL_law_1594 : decode cL_law 1594 = .ok (.iaload, 1) := by decide +kernel
theorem dL_law_1595 : decode cL_law 1595 = .ok (.invokevirtual 158, 3) := by decide +kernel
theorem dL_law_1598 : decode cL_law 1598 = .ok (.pop2, 1) := by decide +kernel
theorem dL_law_1599 : decode cL_law 1599 = .ok (.goto 128, 3) := by decide +kernel
theorem dL_law_1602 : decode cL_law 1602 = .ok (.aload_n 1, 1) := by decide +kernel
theorem dL_law_1603 : decode cL_law 1603 = .ok (.aload_n 0, 1) := by decide +kernel
theorem dL_law_1604 : decode cL_law 1604 = .ok (.iload_n 3, 1) := by decide +kernel
theorem dL_law_1605 : decode cL_law 1605 = .ok (.iconst 1, 1) := by decide +kernel
theorem dL_law_1606 : decode cL_law 1606 = .ok (.iadd, 1) := by decide +kernel
theorem dL_law_1607 : decode cL_law 1607 = .ok (.iaload, 1) := by decide +kernel
theorem dL_law_1608 : decode cL_law 1608 = .ok (.invokevirtual 159, 3) := by decide +kernel
theorem dL_law_1611 : decode cL_law 1611 = .ok (.pop, 1) := by decide +kernel
theorem dL_law_1612 : decode cL_law 1612 = .ok (.aload_n 2, 1) := by decide +kernel
theorem dL_law_1613 : decode cL_law 1613 = .ok (.aload_n 0, 1) := by decide +kernel
theorem dL_law_1614 : decode cL_law 1614 = .ok (.iload_n 3, 1) := by decide +kernel
theorem dL_law_1615 : decode cL_law 1615 = .ok (.iconst 1, 1) := by decide +kernel
theorem dL_law_1616 : decode cL_law 1616 = .ok (.iadd, 1) := by decide +kernel
theorem dL_law_1617 : decode cL_law 1617 = .ok (.iaload, 1) := by decide +kernel
theorem dL_law_1618 : decode cL_law 1618 = .ok (.invokevirtual 162, 3) := by decide +kernel
theorem dL_law_1621 : decode cL_law 1621 = .ok (.pop, 1) := by decide +kernel
theorem dL_law_1622 : decode cL_law 1622 = .ok (.goto 105, 3) := by decide +kernel
set_option maxRecDepth 20000 in
theorem lww_171 : Cond.methodLink RL 141 yX10_cut ∈ lw_tbl := List.mem_of_getElem? (i := 891) (by decide +kernel)
set_option maxRecDepth 20000 in
theorem lww_172 : Cond.instanceMethod yX10_cut ∈ lw_tbl := List.mem_of_getElem? (i := 892) (by decide +kernel)
set_option maxRecDepth 20000 in
theorem lww_173 : Cond.selects RX10 yX10_cut yX10_cut ∈ lw_tbl := List.mem_of_getElem? (i := 893) (by decide +kernel)
set_option maxRecDepth 20000 in
theorem lww_174 : Cond.methodLink RL 145 yX11_cut ∈ lw_tbl := List.mem_of_getElem? (i := 1649) (by decide +kernel)
set_option maxRecDepth 20000 in
theorem lww_175 : Cond.instanceMethod yX11_cut ∈ lw_tbl := List.mem_of_getElem? (i := 1650) (by decide +kernel)
set_option maxRecDepth 20000 in
theorem lww_176 : Cond.selects RX11 yX11_cut yX11_cut ∈ lw_tbl := List.mem_of_getElem? (i := 1651) (by decide +kernel)
set_option maxRecDepth 20000 in
theorem lww_177 : Cond.methodLink RL 146 yX10_values ∈ lw_tbl := List.mem_of_getElem? (i := 895) (by decide +kernel)
set_option maxRecDepth 20000 in
theorem lww_178 : Cond.instanceMethod yX10_values ∈ lw_tbl := List.mem_of_getElem? (i := 896) (by decide +kernel)
set_option maxRecDepth 20000 in
theorem lww_179 : Cond.selects RX10 yX10_values yX10_values ∈ lw_tbl := List.mem_of_getElem? (i := 897) (by decide +kernel)
set_option maxRecDepth 20000 in
theorem lww_180 : Cond.methodLink RL 149 yX11_values ∈ lw_tbl := List.mem_of_getElem? (i := 1653) (by decide +kernel)
set_option maxRecDepth 20000 in
theorem lww_181 : Cond.instanceMethod yX11_values ∈ lw_tbl := List.mem_of_getElem? (i := 1654) (by decide +kernel)
set_option maxRecDepth 20000 in
theorem lww_182 : Cond.selects RX11 yX11_values yX11_values ∈ lw_tbl := List.mem_of_getElem? (i := 1655) (by decide +kernel)
set_option maxRecDepth 20000 in
theorem lww_183 : Cond.methodLink RL 150 yX10_run ∈ lw_tbl := List.mem_of_getElem? (i := 907) (by decide +kernel)
set_option maxRecDepth 20000 in
theorem lww_184 : Cond.instanceMethod yX10_run ∈ lw_tbl := List.mem_of_getElem? (i := 908) (by decide +kernel)
set_option maxRecDepth 20000 in
theorem lww_185 : Cond.selects RX10 yX10_run yX10_run ∈ lw_tbl := List.mem_of_getElem? (i := 909) (by decide +kernel)
set_option maxRecDepth 20000 in
theorem lww_186 : Cond.methodLink RL 153 yX11_run ∈ lw_tbl := List.mem_of_getElem? (i := 1657) (by decide +kernel)
set_option maxRecDepth 20000 in
theorem lww_187 : Cond.instanceMethod yX11_run ∈ lw_tbl := List.mem_of_getElem? (i := 1658) (by decide +kernel)
set_option maxRecDepth 20000 in
theorem lww_188 : Cond.selects RX11 yX11_run yX11_run ∈ lw_tbl := List.mem_of_getElem? (i := 1659) (by decide +kernel)
set_option maxRecDepth 20000 in
theorem lww_189 : Cond.methodLink RL 154 yX10_ran ∈ lw_tbl := List.mem_of_getElem? (i := 1140) (by decide +kernel)
set_option maxRecDepth 20000 in
theorem lww_190 : Cond.instanceMethod yX10_ran ∈ lw_tbl := List.mem_of_getElem? (i := 1141) (by decide +kernel)
set_option maxRecDepth 20000 in
theorem lww_191 : Cond.selects RX10 yX10_ran yX10_ran ∈ lw_tbl := List.mem_of_getElem? (i := 1142) (by decide +kernel)
set_option maxRecDepth 20000 in
theorem lww_192 : Cond.methodLink RL 158 yX11_ran ∈ lw_tbl := List.mem_of_getElem? (i := 1786) (by decide +kernel)
set_option maxRecDepth 20000 in
theorem lww_193 : Cond.instanceMethod yX11_ran ∈ lw_tbl := List.mem_of_getElem? (i := 1787) (by decide +kernel)
set_option maxRecDepth 20000 in
theorem lww_194 : Cond.selects RX11 yX11_ran yX11_ran ∈ lw_tbl := List.mem_of_getElem? (i := 1788) (by decide +kernel)
set_option maxRecDepth 20000 in
theorem lww_195 : Cond.methodLink RL 159 yX10_image ∈ lw_tbl := List.mem_of_getElem? (i := 1144) (by decide +kernel)
set_option maxRecDepth 20000 in
theorem lww_196 : Cond.instanceMethod yX10_image ∈ lw_tbl := List.mem_of_getElem? (i := 1145) (by decide +kernel)
set_option maxRecDepth 20000 in
theorem lww_197 : Cond.selects RX10 yX10_image yX10_image ∈ lw_tbl := List.mem_of_getElem? (i := 1146) (by decide +kernel)
set_option maxRecDepth 20000 in
theorem lww_198 : Cond.methodLink RL 162 yX11_image ∈ lw_tbl := List.mem_of_getElem? (i := 1790) (by decide +kernel)
set_option maxRecDepth 20000 in
theorem lww_199 : Cond.instanceMethod yX11_image ∈ lw_tbl := List.mem_of_getElem? (i := 1791) (by decide +kernel)
set_option maxRecDepth 20000 in
theorem lww_200 : Cond.selects RX11 yX11_image yX11_image ∈ lw_tbl := List.mem_of_getElem? (i := 1792) (by decide +kernel)

set_option maxRecDepth 20000 in
theorem g_L_m_cut_141 : GoodIn lw_tbl (wsV RL 141 RX10 yX10_cut wp_m_cut) := goodIn_sub (List.forall_mem_append.mpr ⟨List.forall_mem_cons.mpr ⟨lww_171, List.forall_mem_cons.mpr ⟨lww_172, List.forall_mem_cons.mpr ⟨lww_173, List.forall_mem_cons.mpr ⟨lww_3, fun _ h => absurd h List.not_mem_nil⟩⟩⟩⟩, in_m_cut⟩) (by decide +kernel)
set_option maxRecDepth 20000 in
theorem g_L_c_cutM_145 : GoodIn lw_tbl (wsV RL 145 RX11 yX11_cut wp_c_cutM) := goodIn_sub (List.forall_mem_append.mpr ⟨List.forall_mem_cons.mpr ⟨lww_174, List.forall_mem_cons.mpr ⟨lww_175, List.forall_mem_cons.mpr ⟨lww_176, List.forall_mem_cons.mpr ⟨lww_7, fun _ h => absurd h List.not_mem_nil⟩⟩⟩⟩, in_c_cutM⟩) (by decide +kernel)
set_option maxHeartbeats 4000000 in
set_option maxRecDepth 100000 in
theorem law_case_28 {p : Program} {e : Env} {s : State} {m : MethodId} {below : List Frame} {meth : Method} {c : Code} (l : Launch) {b L : Nat} {xs : Nat → Int32} {D : va_G} {A : Nat → Prop} {adK adV : Nat → Nat} (C0 : lw_At p s m meth c b L xs) (hL : L ≤ 3584) (hN : NC s) (hST : ST adK adV A s s.heap) (hA : ∀ q, s.heap.size ≤ q → A q) (hbA : ¬ A b) {cm : Nat → ClassId} {cI cT : ClassId} (hKm : va_K D vwCl (tyM cm) s) (hKc : va_K D vwCl [(cI, .int), (cT, .object RX9)] s) {x0 m0 i : Nat} (hi : i + 7 ≤ L) (kx : ∀ (cells slots tp : Nat) (bt : Nat → Nat) (ex : Nat → Bool) (Ls : Nat → List (Nat × Int32)) (V U : va_W) (H : Heap) (locs : List Loc) (ls : Array Slot), cells + 14 * cntE ex ≤ 200 → slots + 11072 * cntE ex ≤ 200000 → RWd cm m0 tp bt ex Ls V → CWd cI cT x0 tp bt ex Ls U → va_P D vwCl (V ++ U) H → va_D A (V ++ U) → va_S A s.heap H locs → lv_has ls 4 [(3, .int (nI i)), (2, .ref m0), (1, .ref x0), (0, .ref b)] → W p l e room_1 s m #[Value.ref b] below meth c H locs (cells) (slots) (lw_Z below #[Value.ref b] s) (F0 m 1727 ls [])) : ∀ (cells slots tp : Nat) (bt : Nat → Nat) (ex : Nat → Bool) (Ls : Nat → List (Nat × Int32)) (V U : va_W) (H : Heap) (locs : List Loc) (ls : Array Slot), cells + 14 * cntE ex ≤ 200 → slots + 11072 * cntE ex ≤ 200000 → RWd cm m0 tp bt ex Ls V → CWd cI cT x0 tp bt ex Ls U → va_P D vwCl (V ++ U) H → va_D A (V ++ U) → va_S A s.heap H locs → lv_has ls 4 [(3, .int (nI i)), (2, .ref m0), (1, .ref x0), (0, .ref b)] → W p l e room_1 s m #[Value.ref b] below meth c H locs (cells) (slots) (lw_Z below #[Value.ref b] s) (F0 m 1464 ls []) := by
  intro cells slots tp bt ex Ls V U H locs ls hc9 hs9 hR hC hP hD hS hl
  have hf1 : cells ≤ room_1.cells := Nat.le_trans (show cells ≤ 200 by omega) (by decide +kernel)
  have hf2 : slots ≤ room_1.slots := Nat.le_trans (show slots ≤ 200000 by omega) (by decide +kernel)
  obtain ⟨hx, hb, hr, hml, hown, hts, hX, hbl, hlocks, hgv⟩ := id C0
  have hown : s.vm.findClass RL = some m.cls := hown
  refine lv_aload_n hx hb dL_law_1464 rfl (lv_at hl 2 rfl) ?_
  refine lv_aload_n hx hb dL_law_1465 rfl (lv_at hl 3 rfl) ?_
  refine lv_iload_n hx hb dL_law_1466 rfl (lv_at hl 0 rfl) ?_
  refine lv_iconst (v := 1) hx hb dL_law_1467 (by decide) ?_
  refine lv_iadd hx hb dL_law_1468 ?_
  refine lv_topi (fun v1 ev1 => ?_)
  obtain rfl : v1 = nI (i + 1) := ev1.trans (nI_add _ 1)
  refine va_sld hx hb hX hbl hbA hS (vp_in_nI (by omega) (by omega)) dL_law_1469 ?_
  refine lv_topi (fun v2 ev2 => ?_)
  refine lv_aload_n hx hb dL_law_1470 rfl (lv_at hl 3 rfl) ?_
  refine lv_iload_n hx hb dL_law_1471 rfl (lv_at hl 0 rfl) ?_
  refine lv_iconst (v := 2) hx hb dL_law_1472 (by decide) ?_
  refine lv_iadd hx hb dL_law_1473 ?_
  refine lv_topi (fun v3 ev3 => ?_)
  obtain rfl : v3 = nI (i + 2) := ev3.trans (nI_add _ 2)
  refine va_sld hx hb hX hbl hbA hS (vp_in_nI (by omega) (by omega)) dL_law_1474 ?_
  refine lv_topi (fun v4 ev4 => ?_)
  refine lv_aload_n hx hb dL_law_1475 rfl (lv_at hl 3 rfl) ?_
  refine lv_iload_n hx hb dL_law_1476 rfl (lv_at hl 0 rfl) ?_
  refine lv_iconst (v := 3) hx hb dL_law_1477 (by decide) ?_
  refine lv_iadd hx hb dL_law_1478 ?_
  refine lv_topi (fun v5 ev5 => ?_)
  obtain rfl : v5 = nI (i + 3) := ev5.trans (nI_add _ 3)
  refine va_sld hx hb hX hbl hbA hS (vp_in_nI (by omega) (by omega)) dL_law_1479 ?_
  refine lv_topi (fun v6 ev6 => ?_)
  refine lv_if_eq (tgt := 1487) hx hb dL_law_1480 (by decide) (fun hc7 => ?_) (fun hc7 => ?_)
  ·
    refine lv_iconst (v := 0) hx hb dL_law_1487 (by decide) ?_
    obtain ⟨q9, fs9, he9⟩ := hC.recv
    have hFc := va_fr hD.rt hS hA
    refine va_calli (va_runV (As := [.int v2, .int v4, .int 0]) (rest := []) ⟨hx, hb, hml, hown, hts⟩ (m_cut l D _ adK adV cI cT x0 _ _ _ _ U v2 v4 0 hC) (cwV 3 hts g_L_m_cut_141 rfl rfl rfl (by decide +kernel) ⟨(Nat.le_of_ble_eq_true rfl), (Nat.le_of_ble_eq_true rfl)⟩) (PcWS_V (q0 := q9) hP.rt hKc hD.rt hN hST hS hFc he9 rfl) rfl rfl hl.1 rfl (lv_room (Nat.le_of_ble_eq_true rfl)) dL_law_1488 ⟨hf1, hf2⟩) hS (fun q _ h => hFc q h) hFc (fun r8 uu tt H locs htt hvm hw hB hz1 hk1 hS => ?_)
    obtain ⟨U9, rfl⟩ : ∃ z, z = uu := ⟨_, rfl⟩
    obtain ⟨hP1, hK1, hD1⟩ := hB
    rw [htt] at hP1
    obtain ⟨hP, hD⟩ := jnC hP hD hk1 hFc hP1 hD1
    have hC := hw.1
    have emC := hw.2
    refine lv_pop hx hb dL_law_1491 rfl ?_
    refine lv_aload_n hx hb dL_law_1492 rfl (lv_at hl 1 rfl) ?_
    refine lv_aload_n hx hb dL_law_1493 rfl (lv_at hl 3 rfl) ?_
    refine lv_iload_n hx hb dL_law_1494 rfl (lv_at hl 0 rfl) ?_
    refine lv_iconst (v := 1) hx hb dL_law_1495 (by decide) ?_
    refine lv_iadd hx hb dL_law_1496 ?_
    refine lv_topi (fun v10 ev10 => ?_)
    obtain rfl : v10 = nI (i + 1) := ev10.trans (nI_add _ 1)
    refine va_sld hx hb hX hbl hbA hS (vp_in_nI (by omega) (by omega)) dL_law_1497 ?_
    refine lv_topi (fun v11 ev11 => ?_)
    refine lv_aload_n hx hb dL_law_1498 rfl (lv_at hl 3 rfl) ?_
    refine lv_iload_n hx hb dL_law_1499 rfl (lv_at hl 0 rfl) ?_
    refine lv_iconst (v := 2) hx hb dL_law_1500 (by decide) ?_
    refine lv_iadd hx hb dL_law_1501 ?_
    refine lv_topi (fun v12 ev12 => ?_)
    obtain rfl : v12 = nI (i + 2) := ev12.trans (nI_add _ 2)
    refine va_sld hx hb hX hbl hbA hS (vp_in_nI (by omega) (by omega)) dL_law_1502 ?_
    refine lv_topi (fun v13 ev13 => ?_)
    refine lv_aload_n hx hb dL_law_1503 rfl (lv_at hl 3 rfl) ?_
    refine lv_iload_n hx hb dL_law_1504 rfl (lv_at hl 0 rfl) ?_
    refine lv_iconst (v := 3) hx hb dL_law_1505 (by decide) ?_
    refine lv_iadd hx hb dL_law_1506 ?_
    refine lv_topi (fun v14 ev14 => ?_)
    obtain rfl : v14 = nI (i + 3) := ev14.trans (nI_add _ 3)
    refine va_sld hx hb hX hbl hbA hS (vp_in_nI (by omega) (by omega)) dL_law_1507 ?_
    refine lv_topi (fun v15 ev15 => ?_)
    refine lv_if_eq (tgt := 1515) hx hb dL_law_1508 (by decide) (fun hc16 => ?_) (fun hc16 => ?_)
    ·
      refine lv_iconst (v := 0) hx hb dL_law_1515 (by decide) ?_
      obtain ⟨q9, fs9, he9⟩ := hR.recv
      have hFc := va_fr hD.lf hS hA
      refine va_calli (va_runV (As := [.int v11, .int v13, .int 0]) (rest := []) ⟨hx, hb, hml, hown, hts⟩ (M_cut l D _ cm m0 _ _ _ _ V v11 v13 0 hR) (cwV 3 hts g_L_c_cutM_145 rfl rfl rfl (by decide +kernel) ⟨(Nat.le_of_ble_eq_true rfl), (Nat.le_of_ble_eq_true rfl)⟩) (PcW_V (q0 := q9) hP.lf hKm hD.lf he9 rfl) rfl rfl hl.1 rfl (lv_room (Nat.le_of_ble_eq_true rfl)) dL_law_1516 ⟨hf1, hf2⟩) hS (fun q _ h => hFc q h) hFc (fun r17 uu tt H locs htt hvm hw hB hz1 hk1 hS => ?_)
      obtain ⟨V18, rfl⟩ : ∃ z, z = uu := ⟨_, rfl⟩
      obtain ⟨hP1, hK1, hD1⟩ := hB
      rw [htt] at hP1
      obtain ⟨hP, hD⟩ := jnR hP hD hk1 hFc hP1 hD1
      have hR := hw.1
      have emR := hw.2
      have e9x : v11 = v2 := ev11.trans ev2.symm
      try rw [e9x] at hR
      try rw [e9x] at emR
      clear e9x
      have e9x : v13 = v4 := ev13.trans ev4.symm
      try rw [e9x] at hR
      try rw [e9x] at emR
      clear e9x
      refine lv_pop hx hb dL_law_1519 rfl ?_
      refine lv_goto (tgt := 1727) hx hb dL_law_1520 (by decide) ?_
      exact kx cells slots _ _ _ _ V18 U9 H locs ls (by omega) (by omega) hR hC hP hD hS hl
    ·
      refine lv_iconst (v := 1) hx hb dL_law_1511 (by decide) ?_
      refine lv_goto (tgt := 1516) hx hb dL_law_1512 (by decide) ?_
      first | exact absurd ((ev15.trans ev6.symm).trans hc7) hc16 | exact absurd ((ev6.trans ev15.symm).trans hc16) hc7
  ·
    refine lv_iconst (v := 1) hx hb dL_law_1483 (by decide) ?_
    refine lv_goto (tgt := 1488) hx hb dL_law_1484 (by decide) ?_
    obtain ⟨q9, fs9, he9⟩ := hC.recv
    have hFc := va_fr hD.rt hS hA
    refine va_calli (va_runV (As := [.int v2, .int v4, .int 1]) (rest := []) ⟨hx, hb, hml, hown, hts⟩ (m_cut l D _ adK adV cI cT x0 _ _ _ _ U v2 v4 1 hC) (cwV 3 hts g_L_m_cut_141 rfl rfl rfl (by decide +kernel) ⟨(Nat.le_of_ble_eq_true rfl), (Nat.le_of_ble_eq_true rfl)⟩) (PcWS_V (q0 := q9) hP.rt hKc hD.rt hN hST hS hFc he9 rfl) rfl rfl hl.1 rfl (lv_room (Nat.le_of_ble_eq_true rfl)) dL_law_1488 ⟨hf1, hf2⟩) hS (fun q _ h => hFc q h) hFc (fun r19 uu tt H locs htt hvm hw hB hz1 hk1 hS => ?_)
    obtain ⟨U20, rfl⟩ : ∃ z, z = uu := ⟨_, rfl⟩
    obtain ⟨hP1, hK1, hD1⟩ := hB
    rw [htt] at hP1
    obtain ⟨hP, hD⟩ := jnC hP hD hk1 hFc hP1 hD1
    have hC := hw.1
    have emC := hw.2
    refine lv_pop hx hb dL_law_1491 rfl ?_
    refine lv_aload_n hx hb dL_law_1492 rfl (lv_at hl 1 rfl) ?_
    refine lv_aload_n hx hb dL_law_1493 rfl (lv_at hl 3 rfl) ?_
    refine lv_iload_n hx hb dL_law_1494 rfl (lv_at hl 0 rfl) ?_
    refine lv_iconst (v := 1) hx hb dL_law_1495 (by decide) ?_
    refine lv_iadd hx hb dL_law_1496 ?_
    refine lv_topi (fun v21 ev21 => ?_)
    obtain rfl : v21 = nI (i + 1) := ev21.trans (nI_add _ 1)
    refine va_sld hx hb hX hbl hbA hS (vp_in_nI (by omega) (by omega)) dL_law_1497 ?_
    refine lv_topi (fun v22 ev22 => ?_)
    refine lv_aload_n hx hb dL_law_1498 rfl (lv_at hl 3 rfl) ?_
    refine lv_iload_n hx hb dL_law_1499 rfl (lv_at hl 0 rfl) ?_
    refine lv_iconst (v := 2) hx hb dL_law_1500 (by decide) ?_
    refine lv_iadd hx hb dL_law_1501 ?_
    refine lv_topi (fun v23 ev23 => ?_)
    obtain rfl : v23 = nI (i + 2) := ev23.trans (nI_add _ 2)
    refine va_sld hx hb hX hbl hbA hS (vp_in_nI (by omega) (by omega)) dL_law_1502 ?_
    refine lv_topi (fun v24 ev24 => ?_)
    refine lv_aload_n hx hb dL_law_1503 rfl (lv_at hl 3 rfl) ?_
    refine lv_iload_n hx hb dL_law_1504 rfl (lv_at hl 0 rfl) ?_
    refine lv_iconst (v := 3) hx hb dL_law_1505 (by decide) ?_
    refine lv_iadd hx hb dL_law_1506 ?_
    refine lv_topi (fun v25 ev25 => ?_)
    obtain rfl : v25 = nI (i + 3) := ev25.trans (nI_add _ 3)
    refine va_sld hx hb hX hbl hbA hS (vp_in_nI (by omega) (by omega)) dL_law_1507 ?_
    refine lv_topi (fun v26 ev26 => ?_)
    refine lv_if_eq (tgt := 1515) hx hb dL_law_1508 (by decide) (fun hc27 => ?_) (fun hc27 => ?_)
    ·
      refine lv_iconst (v := 0) hx hb dL_law_1515 (by decide) ?_
      first | exact absurd ((ev26.trans ev6.symm).trans hc7) hc27 | exact absurd ((ev6.trans ev26.symm).trans hc27) hc7
    ·
      refine lv_iconst (v := 1) hx hb dL_law_1511 (by decide) ?_
      refine lv_goto (tgt := 1516) hx hb dL_law_1512 (by decide) ?_
      obtain ⟨q9, fs9, he9⟩ := hR.recv
      have hFc := va_fr hD.lf hS hA
      refine va_calli (va_runV (As := [.int v22, .int v24, .int 1]) (rest := []) ⟨hx, hb, hml, hown, hts⟩ (M_cut l D _ cm m0 _ _ _ _ V v22 v24 1 hR) (cwV 3 hts g_L_c_cutM_145 rfl rfl rfl (by decide +kernel) ⟨(Nat.le_of_ble_eq_true rfl), (Nat.le_of_ble_eq_true rfl)⟩) (PcW_V (q0 := q9) hP.lf hKm hD.lf he9 rfl) rfl rfl hl.1 rfl (lv_room (Nat.le_of_ble_eq_true rfl)) dL_law_1516 ⟨hf1, hf2⟩) hS (fun q _ h => hFc q h) hFc (fun r28 uu tt H locs htt hvm hw hB hz1 hk1 hS => ?_)
      obtain ⟨V29, rfl⟩ : ∃ z, z = uu := ⟨_, rfl⟩
      obtain ⟨hP1, hK1, hD1⟩ := hB
      rw [htt] at hP1
      obtain ⟨hP, hD⟩ := jnR hP hD hk1 hFc hP1 hD1
      have hR := hw.1
      have emR := hw.2
      have e9x : v22 = v2 := ev22.trans ev2.symm
      try rw [e9x] at hR
      try rw [e9x] at emR
      clear e9x
      have e9x : v24 = v4 := ev24.trans ev4.symm
      try rw [e9x] at hR
      try rw [e9x] at emR
      clear e9x
      refine lv_pop hx hb dL_law_1519 rfl ?_
      refine lv_goto (tgt := 1727) hx hb dL_law_1520 (by decide) ?_
      exact kx cells slots _ _ _ _ V29 U20 H locs ls (by omega) (by omega) hR hC hP hD hS hl

set_option maxRecDepth 20000 in
theorem g_L_m_values_146 : GoodIn lw_tbl (wsV RL 146 RX10 yX10_values wp_m_values) := goodIn_sub (List.forall_mem_append.mpr ⟨List.forall_mem_cons.mpr ⟨lww_177, List.forall_mem_cons.mpr ⟨lww_178, List.forall_mem_cons.mpr ⟨lww_179, List.forall_mem_cons.mpr ⟨lww_3, fun _ h => absurd h List.not_mem_nil⟩⟩⟩⟩, in_m_values⟩) (by decide +kernel)
set_option maxRecDepth 20000 in
theorem g_L_c_valuesM_149 : GoodIn lw_tbl (wsV RL 149 RX11 yX11_values wp_c_valuesM) := goodIn_sub (List.forall_mem_append.mpr ⟨List.forall_mem_cons.mpr ⟨lww_180, List.forall_mem_cons.mpr ⟨lww_181, List.forall_mem_cons.mpr ⟨lww_182, List.forall_mem_cons.mpr ⟨lww_7, fun _ h => absurd h List.not_mem_nil⟩⟩⟩⟩, in_c_valuesM⟩) (by decide +kernel)
set_option maxHeartbeats 4000000 in
set_option maxRecDepth 100000 in
theorem law_case_29 {p : Program} {e : Env} {s : State} {m : MethodId} {below : List Frame} {meth : Method} {c : Code} (l : Launch) {b L : Nat} {xs : Nat → Int32} {D : va_G} {A : Nat → Prop} {adK adV : Nat → Nat} (C0 : lw_At p s m meth c b L xs) (hL : L ≤ 3584) (hN : NC s) (hST : ST adK adV A s s.heap) (hA : ∀ q, s.heap.size ≤ q → A q) (hbA : ¬ A b) {cm : Nat → ClassId} {cI cT : ClassId} (hKm : va_K D vwCl (tyM cm) s) (hKc : va_K D vwCl [(cI, .int), (cT, .object RX9)] s) {x0 m0 i : Nat} (hi : i + 7 ≤ L) (kx : ∀ (cells slots tp : Nat) (bt : Nat → Nat) (ex : Nat → Bool) (Ls : Nat → List (Nat × Int32)) (V U : va_W) (H : Heap) (locs : List Loc) (ls : Array Slot), cells + 14 * cntE ex ≤ 200 → slots + 11072 * cntE ex ≤ 200000 → RWd cm m0 tp bt ex Ls V → CWd cI cT x0 tp bt ex Ls U → va_P D vwCl (V ++ U) H → va_D A (V ++ U) → va_S A s.heap H locs → lv_has ls 4 [(3, .int (nI i)), (2, .ref m0), (1, .ref x0), (0, .ref b)] → W p l e room_1 s m #[Value.ref b] below meth c H locs (cells) (slots) (lw_Z below #[Value.ref b] s) (F0 m 1727 ls [])) : ∀ (cells slots tp : Nat) (bt : Nat → Nat) (ex : Nat → Bool) (Ls : Nat → List (Nat × Int32)) (V U : va_W) (H : Heap) (locs : List Loc) (ls : Array Slot), cells + 14 * cntE ex ≤ 200 → slots + 11072 * cntE ex ≤ 200000 → RWd cm m0 tp bt ex Ls V → CWd cI cT x0 tp bt ex Ls U → va_P D vwCl (V ++ U) H → va_D A (V ++ U) → va_S A s.heap H locs → lv_has ls 4 [(3, .int (nI i)), (2, .ref m0), (1, .ref x0), (0, .ref b)] → W p l e room_1 s m #[Value.ref b] below meth c H locs (cells) (slots) (lw_Z below #[Value.ref b] s) (F0 m 1523 ls []) := by
  intro cells slots tp bt ex Ls V U H locs ls hc9 hs9 hR hC hP hD hS hl
  have hf1 : cells ≤ room_1.cells := Nat.le_trans (show cells ≤ 200 by omega) (by decide +kernel)
  have hf2 : slots ≤ room_1.slots := Nat.le_trans (show slots ≤ 200000 by omega) (by decide +kernel)
  obtain ⟨hx, hb, hr, hml, hown, hts, hX, hbl, hlocks, hgv⟩ := id C0
  have hown : s.vm.findClass RL = some m.cls := hown
  refine lv_aload_n hx hb dL_law_1523 rfl (lv_at hl 2 rfl) ?_
  refine lv_aload_n hx hb dL_law_1524 rfl (lv_at hl 3 rfl) ?_
  refine lv_iload_n hx hb dL_law_1525 rfl (lv_at hl 0 rfl) ?_
  refine lv_iconst (v := 1) hx hb dL_law_1526 (by decide) ?_
  refine lv_iadd hx hb dL_law_1527 ?_
  refine lv_topi (fun v1 ev1 => ?_)
  obtain rfl : v1 = nI (i + 1) := ev1.trans (nI_add _ 1)
  refine va_sld hx hb hX hbl hbA hS (vp_in_nI (by omega) (by omega)) dL_law_1528 ?_
  refine lv_topi (fun v2 ev2 => ?_)
  refine lv_aload_n hx hb dL_law_1529 rfl (lv_at hl 3 rfl) ?_
  refine lv_iload_n hx hb dL_law_1530 rfl (lv_at hl 0 rfl) ?_
  refine lv_iconst (v := 2) hx hb dL_law_1531 (by decide) ?_
  refine lv_iadd hx hb dL_law_1532 ?_
  refine lv_topi (fun v3 ev3 => ?_)
  obtain rfl : v3 = nI (i + 2) := ev3.trans (nI_add _ 2)
  refine va_sld hx hb hX hbl hbA hS (vp_in_nI (by omega) (by omega)) dL_law_1533 ?_
  refine lv_topi (fun v4 ev4 => ?_)
  obtain ⟨q9, fs9, he9⟩ := hC.recv
  have hFc := va_fr hD.rt hS hA
  refine va_calll (va_runV (As := [.int v2, .int v4]) (rest := []) ⟨hx, hb, hml, hown, hts⟩ (m_values l D _ adK adV cI cT x0 _ _ _ _ U v2 v4 hC) (cwV 2 hts g_L_m_values_146 rfl rfl rfl (by decide +kernel) ⟨(Nat.le_of_ble_eq_true rfl), (Nat.le_of_ble_eq_true rfl)⟩) (PcWS_V (q0 := q9) hP.rt hKc hD.rt hN hST hS hFc he9 rfl) rfl rfl hl.1 rfl (lv_room (Nat.le_of_ble_eq_true rfl)) dL_law_1534 ⟨hf1, hf2⟩) hS (fun q _ h => hFc q h) hFc (fun r5 uu tt H locs htt hvm hw hB hz1 hk1 hS => ?_)
  obtain ⟨U6, rfl⟩ : ∃ z, z = uu := ⟨_, rfl⟩
  obtain ⟨hP1, hK1, hD1⟩ := hB
  rw [htt] at hP1
  obtain ⟨hP, hD⟩ := jnC hP hD hk1 hFc hP1 hD1
  have hC := hw.1
  have emC := hw.2
  refine lv_pop2_2 hx hb dL_law_1537 rfl ?_
  refine lv_aload_n hx hb dL_law_1538 rfl (lv_at hl 1 rfl) ?_
  refine lv_aload_n hx hb dL_law_1539 rfl (lv_at hl 3 rfl) ?_
  refine lv_iload_n hx hb dL_law_1540 rfl (lv_at hl 0 rfl) ?_
  refine lv_iconst (v := 1) hx hb dL_law_1541 (by decide) ?_
  refine lv_iadd hx hb dL_law_1542 ?_
  refine lv_topi (fun v7 ev7 => ?_)
  obtain rfl : v7 = nI (i + 1) := ev7.trans (nI_add _ 1)
  refine va_sld hx hb hX hbl hbA hS (vp_in_nI (by omega) (by omega)) dL_law_1543 ?_
  refine lv_topi (fun v8 ev8 => ?_)
  refine lv_aload_n hx hb dL_law_1544 rfl (lv_at hl 3 rfl) ?_
  refine lv_iload_n hx hb dL_law_1545 rfl (lv_at hl 0 rfl) ?_
  refine lv_iconst (v := 2) hx hb dL_law_1546 (by decide) ?_
  refine lv_iadd hx hb dL_law_1547 ?_
  refine lv_topi (fun v9 ev9 => ?_)
  obtain rfl : v9 = nI (i + 2) := ev9.trans (nI_add _ 2)
  refine va_sld hx hb hX hbl hbA hS (vp_in_nI (by omega) (by omega)) dL_law_1548 ?_
  refine lv_topi (fun v10 ev10 => ?_)
  obtain ⟨q9, fs9, he9⟩ := hR.recv
  have hFc := va_fr hD.lf hS hA
  refine va_calll (va_runV (As := [.int v8, .int v10]) (rest := []) ⟨hx, hb, hml, hown, hts⟩ (M_values l D _ cm m0 _ _ _ _ V v8 v10 hR) (cwV 2 hts g_L_c_valuesM_149 rfl rfl rfl (by decide +kernel) ⟨(Nat.le_of_ble_eq_true rfl), (Nat.le_of_ble_eq_true rfl)⟩) (PcW_V (q0 := q9) hP.lf hKm hD.lf he9 rfl) rfl rfl hl.1 rfl (lv_room (Nat.le_of_ble_eq_true rfl)) dL_law_1549 ⟨hf1, hf2⟩) hS (fun q _ h => hFc q h) hFc (fun r11 uu tt H locs htt hvm hw hB hz1 hk1 hS => ?_)
  obtain ⟨V12, rfl⟩ : ∃ z, z = uu := ⟨_, rfl⟩
  obtain ⟨hP1, hK1, hD1⟩ := hB
  rw [htt] at hP1
  obtain ⟨hP, hD⟩ := jnR hP hD hk1 hFc hP1 hD1
  have hR := hw.1
  have emR := hw.2
  have e9x : v8 = v2 := ev8.trans ev2.symm
  try rw [e9x] at hR
  try rw [e9x] at emR
  clear e9x
  have e9x : v10 = v4 := ev10.trans ev4.symm
  try rw [e9x] at hR
  try rw [e9x] at emR
  clear e9x
  refine lv_pop2_2 hx hb dL_law_1552 rfl ?_
  refine lv_goto (tgt := 1727) hx hb dL_law_1553 (by decide) ?_
  exact kx cells slots _ _ _ _ V12 U6 H locs ls (by omega) (by omega) hR hC hP hD hS hl

set_option maxRecDepth 20000 in
theorem g_L_m_run_150 : GoodIn lw_tbl (wsV RL 150 RX10 yX10_run wp_m_run) := goodIn_sub (List.forall_mem_append.mpr ⟨List.forall_mem_cons.mpr ⟨lww_183, List.forall_mem_cons.mpr ⟨lww_184, List.forall_mem_cons.mpr ⟨lww_185, List.forall_mem_cons.mpr ⟨lww_3, fun _ h => absurd h List.not_mem_nil⟩⟩⟩⟩, in_m_run⟩) (by decide +kernel)
set_option maxRecDepth 20000 in
theorem g_L_c_runM_153 : GoodIn lw_tbl (wsV RL 153 RX11 yX11_run wp_c_runM) := goodIn_sub (List.forall_mem_append.mpr ⟨List.forall_mem_cons.mpr ⟨lww_186, List.forall_mem_cons.mpr ⟨lww_187, List.forall_mem_cons.mpr ⟨lww_188, List.forall_mem_cons.mpr ⟨lww_7, fun _ h => absurd h List.not_mem_nil⟩⟩⟩⟩, in_c_runM⟩) (by decide +kernel)
set_option maxHeartbeats 4000000 in
set_option maxRecDepth 100000 in
theorem law_case_30 {p : Program} {e : Env} {s : State} {m : MethodId} {below : List Frame} {meth : Method} {c : Code} (l : Launch) {b L : Nat} {xs : Nat → Int32} {D : va_G} {A : Nat → Prop} {adK adV : Nat → Nat} (C0 : lw_At p s m meth c b L xs) (hL : L ≤ 3584) (hN : NC s) (hST : ST adK adV A s s.heap) (hA : ∀ q, s.heap.size ≤ q → A q) (hbA : ¬ A b) {cm : Nat → ClassId} {cI cT : ClassId} (hKm : va_K D vwCl (tyM cm) s) (hKc : va_K D vwCl [(cI, .int), (cT, .object RX9)] s) {x0 m0 i : Nat} (hi : i + 7 ≤ L) (kx : ∀ (cells slots tp : Nat) (bt : Nat → Nat) (ex : Nat → Bool) (Ls : Nat → List (Nat × Int32)) (V U : va_W) (H : Heap) (locs : List Loc) (ls : Array Slot), cells + 14 * cntE ex ≤ 200 → slots + 11072 * cntE ex ≤ 200000 → RWd cm m0 tp bt ex Ls V → CWd cI cT x0 tp bt ex Ls U → va_P D vwCl (V ++ U) H → va_D A (V ++ U) → va_S A s.heap H locs → lv_has ls 4 [(3, .int (nI i)), (2, .ref m0), (1, .ref x0), (0, .ref b)] → W p l e room_1 s m #[Value.ref b] below meth c H locs (cells) (slots) (lw_Z below #[Value.ref b] s) (F0 m 1727 ls [])) : ∀ (cells slots tp : Nat) (bt : Nat → Nat) (ex : Nat → Bool) (Ls : Nat → List (Nat × Int32)) (V U : va_W) (H : Heap) (locs : List Loc) (ls : Array Slot), cells + 14 * cntE ex ≤ 200 → slots + 11072 * cntE ex ≤ 200000 → RWd cm m0 tp bt ex Ls V → CWd cI cT x0 tp bt ex Ls U → va_P D vwCl (V ++ U) H → va_D A (V ++ U) → va_S A s.heap H locs → lv_has ls 4 [(3, .int (nI i)), (2, .ref m0), (1, .ref x0), (0, .ref b)] → W p l e room_1 s m #[Value.ref b] below meth c H locs (cells) (slots) (lw_Z below #[Value.ref b] s) (F0 m 1556 ls []) := by
  intro cells slots tp bt ex Ls V U H locs ls hc9 hs9 hR hC hP hD hS hl
  have hf1 : cells ≤ room_1.cells := Nat.le_trans (show cells ≤ 200 by omega) (by decide +kernel)
  have hf2 : slots ≤ room_1.slots := Nat.le_trans (show slots ≤ 200000 by omega) (by decide +kernel)
  obtain ⟨hx, hb, hr, hml, hown, hts, hX, hbl, hlocks, hgv⟩ := id C0
  have hown : s.vm.findClass RL = some m.cls := hown
  refine lv_aload_n hx hb dL_law_1556 rfl (lv_at hl 2 rfl) ?_
  refine lv_aload_n hx hb dL_law_1557 rfl (lv_at hl 3 rfl) ?_
  refine lv_iload_n hx hb dL_law_1558 rfl (lv_at hl 0 rfl) ?_
  refine lv_iconst (v := 1) hx hb dL_law_1559 (by decide) ?_
  refine lv_iadd hx hb dL_law_1560 ?_
  refine lv_topi (fun v1 ev1 => ?_)
  obtain rfl : v1 = nI (i + 1) := ev1.trans (nI_add _ 1)
  refine va_sld hx hb hX hbl hbA hS (vp_in_nI (by omega) (by omega)) dL_law_1561 ?_
  refine lv_topi (fun v2 ev2 => ?_)
  obtain ⟨q9, fs9, he9⟩ := hC.recv
  have hFc := va_fr hD.rt hS hA
  refine va_calli (va_runV (As := [.int v2]) (rest := []) ⟨hx, hb, hml, hown, hts⟩ (m_run l D _ adK adV cI cT x0 _ _ _ _ U v2 hC) (cwV 1 hts g_L_m_run_150 rfl rfl rfl (by decide +kernel) ⟨(Nat.le_of_ble_eq_true rfl), (Nat.le_of_ble_eq_true rfl)⟩) (PcWS_V (q0 := q9) hP.rt hKc hD.rt hN hST hS hFc he9 rfl) rfl rfl hl.1 rfl (lv_room (Nat.le_of_ble_eq_true rfl)) dL_law_1562 ⟨hf1, hf2⟩) hS (fun q _ h => hFc q h) hFc (fun r3 uu tt H locs htt hvm hw hB hz1 hk1 hS => ?_)
  obtain ⟨U4, rfl⟩ : ∃ z, z = uu := ⟨_, rfl⟩
  obtain ⟨hP1, hK1, hD1⟩ := hB
  rw [htt] at hP1
  obtain ⟨hP, hD⟩ := jnC hP hD hk1 hFc hP1 hD1
  obtain ⟨LtC, hC, qqC⟩ := hw
  refine lv_pop hx hb dL_law_1565 rfl ?_
  refine lv_aload_n hx hb dL_law_1566 rfl (lv_at hl 1 rfl) ?_
  refine lv_aload_n hx hb dL_law_1567 rfl (lv_at hl 3 rfl) ?_
  refine lv_iload_n hx hb dL_law_1568 rfl (lv_at hl 0 rfl) ?_
  refine lv_iconst (v := 1) hx hb dL_law_1569 (by decide) ?_
  refine lv_iadd hx hb dL_law_1570 ?_
  refine lv_topi (fun v5 ev5 => ?_)
  obtain rfl : v5 = nI (i + 1) := ev5.trans (nI_add _ 1)
  refine va_sld hx hb hX hbl hbA hS (vp_in_nI (by omega) (by omega)) dL_law_1571 ?_
  refine lv_topi (fun v6 ev6 => ?_)
  obtain ⟨q9, fs9, he9⟩ := hR.recv
  have hFc := va_fr hD.lf hS hA
  refine va_calli (va_runV (As := [.int v6]) (rest := []) ⟨hx, hb, hml, hown, hts⟩ (M_run l D _ cm m0 _ _ _ _ V v6 hR) (cwV 1 hts g_L_c_runM_153 rfl rfl rfl (by decide +kernel) ⟨(Nat.le_of_ble_eq_true rfl), (Nat.le_of_ble_eq_true rfl)⟩) (PcW_V (q0 := q9) hP.lf hKm hD.lf he9 rfl) rfl rfl hl.1 rfl (lv_room (Nat.le_of_ble_eq_true rfl)) dL_law_1572 ⟨hf1, hf2⟩) hS (fun q _ h => hFc q h) hFc (fun r7 uu tt H locs htt hvm hw hB hz1 hk1 hS => ?_)
  obtain ⟨V8, rfl⟩ : ∃ z, z = uu := ⟨_, rfl⟩
  obtain ⟨hP1, hK1, hD1⟩ := hB
  rw [htt] at hP1
  obtain ⟨hP, hD⟩ := jnR hP hD hk1 hFc hP1 hD1
  obtain ⟨LtR, hR, qqR⟩ := hw
  have e9x : v6 = v2 := ev6.trans ev2.symm
  try rw [e9x] at hR
  try rw [e9x] at qqR
  clear e9x
  obtain ⟨e9l, emr9⟩ := rnQ_tie qqC qqR
  rw [← e9l] at hR
  have emC : r3 = r7 := emr9
  have emR : r7 = r7 := rfl
  refine lv_pop hx hb dL_law_1575 rfl ?_
  refine lv_goto (tgt := 1727) hx hb dL_law_1576 (by decide) ?_
  exact kx cells slots _ _ _ _ V8 U4 H locs ls (by omega) (by omega) hR hC hP hD hS hl

set_option maxRecDepth 20000 in
theorem g_L_m_ran_154 : GoodIn lw_tbl (wsV RL 154 RX10 yX10_ran wp_m_ran) := goodIn_sub (List.forall_mem_append.mpr ⟨List.forall_mem_cons.mpr ⟨lww_189, List.forall_mem_cons.mpr ⟨lww_190, List.forall_mem_cons.mpr ⟨lww_191, List.forall_mem_cons.mpr ⟨lww_3, fun _ h => absurd h List.not_mem_nil⟩⟩⟩⟩, in_m_ran⟩) (by decide +kernel)
set_option maxRecDepth 20000 in
theorem g_L_c_ranM_158 : GoodIn lw_tbl (wsV RL 158 RX11 yX11_ran wp_c_ranM) := goodIn_sub (List.forall_mem_append.mpr ⟨List.forall_mem_cons.mpr ⟨lww_192, List.forall_mem_cons.mpr ⟨lww_193, List.forall_mem_cons.mpr ⟨lww_194, List.forall_mem_cons.mpr ⟨lww_7, fun _ h => absurd h List.not_mem_nil⟩⟩⟩⟩, in_c_ranM⟩) (by decide +kernel)
set_option maxHeartbeats 4000000 in
set_option maxRecDepth 100000 in
theorem law_case_31 {p : Program} {e : Env} {s : State} {m : MethodId} {below : List Frame} {meth : Method} {c : Code} (l : Launch) {b L : Nat} {xs : Nat → Int32} {D : va_G} {A : Nat → Prop} {adK adV : Nat → Nat} (C0 : lw_At p s m meth c b L xs) (hL : L ≤ 3584) (hN : NC s) (hST : ST adK adV A s s.heap) (hA : ∀ q, s.heap.size ≤ q → A q) (hbA : ¬ A b) {cm : Nat → ClassId} {cI cT : ClassId} (hKm : va_K D vwCl (tyM cm) s) (hKc : va_K D vwCl [(cI, .int), (cT, .object RX9)] s) {x0 m0 i : Nat} (hi : i + 7 ≤ L) (kx : ∀ (cells slots tp : Nat) (bt : Nat → Nat) (ex : Nat → Bool) (Ls : Nat → List (Nat × Int32)) (V U : va_W) (H : Heap) (locs : List Loc) (ls : Array Slot), cells + 14 * cntE ex ≤ 200 → slots + 11072 * cntE ex ≤ 200000 → RWd cm m0 tp bt ex Ls V → CWd cI cT x0 tp bt ex Ls U → va_P D vwCl (V ++ U) H → va_D A (V ++ U) → va_S A s.heap H locs → lv_has ls 4 [(3, .int (nI i)), (2, .ref m0), (1, .ref x0), (0, .ref b)] → W p l e room_1 s m #[Value.ref b] below meth c H locs (cells) (slots) (lw_Z below #[Value.ref b] s) (F0 m 1727 ls [])) : ∀ (cells slots tp : Nat) (bt : Nat → Nat) (ex : Nat → Bool) (Ls : Nat → List (Nat × Int32)) (V U : va_W) (H : Heap) (locs : List Loc) (ls : Array Slot), cells + 14 * cntE ex ≤ 200 → slots + 11072 * cntE ex ≤ 200000 → RWd cm m0 tp bt ex Ls V → CWd cI cT x0 tp bt ex Ls U → va_P D vwCl (V ++ U) H → va_D A (V ++ U) → va_S A s.heap H locs → lv_has ls 4 [(3, .int (nI i)), (2, .ref m0), (1, .ref x0), (0, .ref b)] → W p l e room_1 s m #[Value.ref b] below meth c H locs (cells) (slots) (lw_Z below #[Value.ref b] s) (F0 m 1579 ls []) := by
  intro cells slots tp bt ex Ls V U H locs ls hc9 hs9 hR hC hP hD hS hl
  have hf1 : cells ≤ room_1.cells := Nat.le_trans (show cells ≤ 200 by omega) (by decide +kernel)
  have hf2 : slots ≤ room_1.slots := Nat.le_trans (show slots ≤ 200000 by omega) (by decide +kernel)
  obtain ⟨hx, hb, hr, hml, hown, hts, hX, hbl, hlocks, hgv⟩ := id C0
  have hown : s.vm.findClass RL = some m.cls := hown
  refine lv_aload_n hx hb dL_law_1579 rfl (lv_at hl 2 rfl) ?_
  refine lv_aload_n hx hb dL_law_1580 rfl (lv_at hl 3 rfl) ?_
  refine lv_iload_n hx hb dL_law_1581 rfl (lv_at hl 0 rfl) ?_
  refine lv_iconst (v := 1) hx hb dL_law_1582 (by decide) ?_
  refine lv_iadd hx hb dL_law_1583 ?_
  refine lv_topi (fun v1 ev1 => ?_)
  obtain rfl : v1 = nI (i + 1) := ev1.trans (nI_add _ 1)
  refine va_sld hx hb hX hbl hbA hS (vp_in_nI (by omega) (by omega)) dL_law_1584 ?_
  refine lv_topi (fun v2 ev2 => ?_)
  obtain ⟨q9, fs9, he9⟩ := hC.recv
  have hFc := va_fr hD.rt hS hA
  refine va_calll (va_runV (As := [.int v2]) (rest := []) ⟨hx, hb, hml, hown, hts⟩ (m_ran l D _ adK adV cI cT x0 _ _ _ _ U v2 hC) (cwV 1 hts g_L_m_ran_154 rfl rfl rfl (by decide +kernel) ⟨(Nat.le_of_ble_eq_true rfl), (Nat.le_of_ble_eq_true rfl)⟩) (PcWS_V (q0 := q9) hP.rt hKc hD.rt hN hST hS hFc he9 rfl) rfl rfl hl.1 rfl (lv_room (Nat.le_of_ble_eq_true rfl)) dL_law_1585 ⟨hf1, hf2⟩) hS (fun q _ h => hFc q h) hFc (fun r3 uu tt H locs htt hvm hw hB hz1 hk1 hS => ?_)
  obtain ⟨U4, rfl⟩ : ∃ z, z = uu := ⟨_, rfl⟩
  obtain ⟨hP1, hK1, hD1⟩ := hB
  rw [htt] at hP1
  obtain ⟨hP, hD⟩ := jnC hP hD hk1 hFc hP1 hD1
  have hC := hw
  refine lv_pop2_2 hx hb dL_law_1588 rfl ?_
  refine lv_aload_n hx hb dL_law_1589 rfl (lv_at hl 1 rfl) ?_
  refine lv_aload_n hx hb dL_law_1590 rfl (lv_at hl 3 rfl) ?_
  refine lv_iload_n hx hb dL_law_1591 rfl (lv_at hl 0 rfl) ?_
  refine lv_iconst (v := 1) hx hb dL_law_1592 (by decide) ?_
  refine lv_iadd hx hb dL_law_1593 ?_
  refine lv_topi (fun v5 ev5 => ?_)
  obtain rfl : v5 = nI (i + 1) := ev5.trans (nI_add _ 1)
  refine va_sld hx hb hX hbl hbA hS (vp_in_nI (by omega) (by omega)) dL_law_1594 ?_
  refine lv_topi (fun v6 ev6 => ?_)
  obtain ⟨q9, fs9, he9⟩ := hR.recv
  have hFc := va_fr hD.lf hS hA
  refine va_calll (va_runV (As := [.int v6]) (rest := []) ⟨hx, hb, hml, hown, hts⟩ (M_ran l D _ cm m0 _ _ _ _ V v6 hR) (cwV 1 hts g_L_c_ranM_158 rfl rfl rfl (by decide +kernel) ⟨(Nat.le_of_ble_eq_true rfl), (Nat.le_of_ble_eq_true rfl)⟩) (PcW_V (q0 := q9) hP.lf hKm hD.lf he9 rfl) rfl rfl hl.1 rfl (lv_room (Nat.le_of_ble_eq_true rfl)) dL_law_1595 ⟨hf1, hf2⟩) hS (fun q _ h => hFc q h) hFc (fun r7 uu tt H locs htt hvm hw hB hz1 hk1 hS => ?_)
  obtain ⟨V8, rfl⟩ : ∃ z, z = uu := ⟨_, rfl⟩
  obtain ⟨hP1, hK1, hD1⟩ := hB
  rw [htt] at hP1
  obtain ⟨hP, hD⟩ := jnR hP hD hk1 hFc hP1 hD1
  have hR := hw
  refine lv_pop2_2 hx hb dL_law_1598 rfl ?_
  refine lv_goto (tgt := 1727) hx hb dL_law_1599 (by decide) ?_
  exact kx cells slots _ _ _ _ V8 U4 H locs ls (by omega) (by omega) hR hC hP hD hS hl

set_option maxRecDepth 20000 in
theorem g_L_m_image_159 : GoodIn lw_tbl (wsV RL 159 RX10 yX10_image wp_m_image) := goodIn_sub (List.forall_mem_append.mpr ⟨List.forall_mem_cons.mpr ⟨lww_195, List.forall_mem_cons.mpr ⟨lww_196, List.forall_mem_cons.mpr ⟨lww_197, List.forall_mem_cons.mpr ⟨lww_3, fun _ h => absurd h List.not_mem_nil⟩⟩⟩⟩, in_m_image⟩) (by decide +kernel)
set_option maxRecDepth 20000 in
theorem g_L_c_imageM_162 : GoodIn lw_tbl (wsV RL 162 RX11 yX11_image wp_c_imageM) := goodIn_sub (List.forall_mem_append.mpr ⟨List.forall_mem_cons.mpr ⟨lww_198, List.forall_mem_cons.mpr ⟨lww_199, List.forall_mem_cons.mpr ⟨lww_200, List.forall_mem_cons.mpr ⟨lww_7, fun _ h => absurd h List.not_mem_nil⟩⟩⟩⟩, in_c_imageM⟩) (by decide +kernel)
set_option maxHeartbeats 4000000 in
set_option maxRecDepth 100000 in
theorem law_case_32 {p : Program} {e : Env} {s : State} {m : MethodId} {below : List Frame} {meth : Method} {c : Code} (l : Launch) {b L : Nat} {xs : Nat → Int32} {D : va_G} {A : Nat → Prop} {adK adV : Nat → Nat} (C0 : lw_At p s m meth c b L xs) (hL : L ≤ 3584) (hN : NC s) (hST : ST adK adV A s s.heap) (hA : ∀ q, s.heap.size ≤ q → A q) (hbA : ¬ A b) {cm : Nat → ClassId} {cI cT : ClassId} (hKm : va_K D vwCl (tyM cm) s) (hKc : va_K D vwCl [(cI, .int), (cT, .object RX9)] s) {x0 m0 i : Nat} (hi : i + 7 ≤ L) (kx : ∀ (cells slots tp : Nat) (bt : Nat → Nat) (ex : Nat → Bool) (Ls : Nat → List (Nat × Int32)) (V U : va_W) (H : Heap) (locs : List Loc) (ls : Array Slot), cells + 14 * cntE ex ≤ 200 → slots + 11072 * cntE ex ≤ 200000 → RWd cm m0 tp bt ex Ls V → CWd cI cT x0 tp bt ex Ls U → va_P D vwCl (V ++ U) H → va_D A (V ++ U) → va_S A s.heap H locs → lv_has ls 4 [(3, .int (nI i)), (2, .ref m0), (1, .ref x0), (0, .ref b)] → W p l e room_1 s m #[Value.ref b] below meth c H locs (cells) (slots) (lw_Z below #[Value.ref b] s) (F0 m 1727 ls [])) : ∀ (cells slots tp : Nat) (bt : Nat → Nat) (ex : Nat → Bool) (Ls : Nat → List (Nat × Int32)) (V U : va_W) (H : Heap) (locs : List Loc) (ls : Array Slot), cells + 14 * cntE ex ≤ 200 → slots + 11072 * cntE ex ≤ 200000 → RWd cm m0 tp bt ex Ls V → CWd cI cT x0 tp bt ex Ls U → va_P D vwCl (V ++ U) H → va_D A (V ++ U) → va_S A s.heap H locs → lv_has ls 4 [(3, .int (nI i)), (2, .ref m0), (1, .ref x0), (0, .ref b)] → W p l e room_1 s m #[Value.ref b] below meth c H locs (cells) (slots) (lw_Z below #[Value.ref b] s) (F0 m 1602 ls []) := by
  intro cells slots tp bt ex Ls V U H locs ls hc9 hs9 hR hC hP hD hS hl
  have hf1 : cells ≤ room_1.cells := Nat.le_trans (show cells ≤ 200 by omega) (by decide +kernel)
  have hf2 : slots ≤ room_1.slots := Nat.le_trans (show slots ≤ 200000 by omega) (by decide +kernel)
  obtain ⟨hx, hb, hr, hml, hown, hts, hX, hbl, hlocks, hgv⟩ := id C0
  have hown : s.vm.findClass RL = some m.cls := hown
  refine lv_aload_n hx hb dL_law_1602 rfl (lv_at hl 2 rfl) ?_
  refine lv_aload_n hx hb dL_law_1603 rfl (lv_at hl 3 rfl) ?_
  refine lv_iload_n hx hb dL_law_1604 rfl (lv_at hl 0 rfl) ?_
  refine lv_iconst (v := 1) hx hb dL_law_1605 (by decide) ?_
  refine lv_iadd hx hb dL_law_1606 ?_
  refine lv_topi (fun v1 ev1 => ?_)
  obtain rfl : v1 = nI (i + 1) := ev1.trans (nI_add _ 1)
  refine va_sld hx hb hX hbl hbA hS (vp_in_nI (by omega) (by omega)) dL_law_1607 ?_
  refine lv_topi (fun v2 ev2 => ?_)
  obtain ⟨q9, fs9, he9⟩ := hC.recv
  have hFc := va_fr hD.rt hS hA
  refine va_calli (va_runV (As := [.int v2]) (rest := []) ⟨hx, hb, hml, hown, hts⟩ (m_image l D _ adK adV cI cT x0 _ _ _ _ U v2 hC) (cwV 1 hts g_L_m_image_159 rfl rfl rfl (by decide +kernel) ⟨(Nat.le_of_ble_eq_true rfl), (Nat.le_of_ble_eq_true rfl)⟩) (PcWS_V (q0 := q9) hP.rt hKc hD.rt hN hST hS hFc he9 rfl) rfl rfl hl.1 rfl (lv_room (Nat.le_of_ble_eq_true rfl)) dL_law_1608 ⟨hf1, hf2⟩) hS (fun q _ h => hFc q h) hFc (fun r3 uu tt H locs htt hvm hw hB hz1 hk1 hS => ?_)
  obtain ⟨U4, rfl⟩ : ∃ z, z = uu := ⟨_, rfl⟩
  obtain ⟨hP1, hK1, hD1⟩ := hB
  rw [htt] at hP1
  obtain ⟨hP, hD⟩ := jnC hP hD hk1 hFc hP1 hD1
  have hC := hw.1
  have emC := hw.2
  refine lv_pop hx hb dL_law_1611 rfl ?_
  refine lv_aload_n hx hb dL_law_1612 rfl (lv_at hl 1 rfl) ?_
  refine lv_aload_n hx hb dL_law_1613 rfl (lv_at hl 3 rfl) ?_
  refine lv_iload_n hx hb dL_law_1614 rfl (lv_at hl 0 rfl) ?_
  refine lv_iconst (v := 1) hx hb dL_law_1615 (by decide) ?_
  refine lv_iadd hx hb dL_law_1616 ?_
  refine lv_topi (fun v5 ev5 => ?_)
  obtain rfl : v5 = nI (i + 1) := ev5.trans (nI_add _ 1)
  refine va_sld hx hb hX hbl hbA hS (vp_in_nI (by omega) (by omega)) dL_law_1617 ?_
  refine lv_topi (fun v6 ev6 => ?_)
  obtain ⟨q9, fs9, he9⟩ := hR.recv
  have hFc := va_fr hD.lf hS hA
  refine va_calli (va_runV (As := [.int v6]) (rest := []) ⟨hx, hb, hml, hown, hts⟩ (M_image l D _ cm m0 _ _ _ _ V v6 hR) (cwV 1 hts g_L_c_imageM_162 rfl rfl rfl (by decide +kernel) ⟨(Nat.le_of_ble_eq_true rfl), (Nat.le_of_ble_eq_true rfl)⟩) (PcW_V (q0 := q9) hP.lf hKm hD.lf he9 rfl) rfl rfl hl.1 rfl (lv_room (Nat.le_of_ble_eq_true rfl)) dL_law_1618 ⟨hf1, hf2⟩) hS (fun q _ h => hFc q h) hFc (fun r7 uu tt H locs htt hvm hw hB hz1 hk1 hS => ?_)
  obtain ⟨V8, rfl⟩ : ∃ z, z = uu := ⟨_, rfl⟩
  obtain ⟨hP1, hK1, hD1⟩ := hB
  rw [htt] at hP1
  obtain ⟨hP, hD⟩ := jnR hP hD hk1 hFc hP1 hD1
  have hR := hw.1
  have emR := hw.2
  have e9x : v6 = v2 := ev6.trans ev2.symm
  try rw [e9x] at hR
  try rw [e9x] at emR
  clear e9x
  refine lv_pop hx hb dL_law_1621 rfl ?_
  refine lv_goto (tgt := 1727) hx hb dL_law_1622 (by decide) ?_
  exact kx cells slots _ _ _ _ V8 U4 H locs ls (by omega) (by omega) hR hC hP hD hS hl

