theorem dL_law_737 : decode cL_law 737 = .ok (.aload_n 1, 1) := by decide +kernel
theorem dL_law_738 : decode cL_law 738 = .ok (.aload_n 0, 1) := by decide +kernel
theorem dL_law_739 : decode cL_law 739 = .ok (.iload_n 3, 1) := by decide +kernel
theorem dL_law_740 : decode cL_law 740 = .ok (.iconst 1, 1) := by decide +kernel
theorem dL_law_741 : decode cL_law 741 = .ok (.iadd, 1) := by decide +kernel
theorem dL_law_742 : decode cL_law 742 = .ok (.iaload, 1) := by decide +kernel
theorem dL_law_743 : decode cL_law 743 = .ok (.aload_n 0, 1) := by decide +kernel
theorem dL_law_744 : decode cL_law 744 = .ok (.iload_n 3, 1) := by decide +kernel
theorem dL_law_745 : decode cL_law 745 = .ok (.iconst 2, 1) := by decide +kernel
theorem dL_law_746 : decode cL_law 746 = .ok (.iadd, 1) := by decide +kernel
theorem dL_law_747 : decode cL_law 747 = .ok (.iaload, 1) := by decide +kernel
theorem dL_law_748 : decode cL_law 748 = .ok (.invokevirtual 75, 3) := by decide +kernel
theorem dL_law_751 : decode cL_law 751 = .ok (.pop, 1) := by decide +kernel
theorem dL_law_752 : decode cL_law 752 = .ok (.aload_n 2, 1) := by decide +kernel
theorem dL_law_753 : decode cL_law 753 = .ok (.aload_n 0, 1) := by decide +kernel
theorem dL_law_754 : decode cL_law 754 = .ok (.iload_n 3, 1) := by decide +kernel
theorem dL_law_755 : decode cL_law 755 = .ok (.iconst 1, 1) := by decide +kernel
theorem dL_law_756 : decode cL_law 756 = .ok (.iadd, 1) := by decide +kernel
theorem dL_law_757 : decode cL_law 757 = .ok (.iaload, 1) := by decide +kernel
theorem dL_law_758 : decode cL_law 758 = .ok (.aload_n 0, 1) := by decide +kernel
theorem dL_law_759 : decode cL_law 759 = .ok (.iload_n 3, 1) := by decide +kernel
theorem dL_law_760 : decode cL_law 760 = .ok (.iconst 2, 1) := by decide +kernel
theorem dL_law_761 : decode cL_law 761 = .ok (.iadd, 1) := by decide +kernel
theorem dL_law_762 : decode cL_law 762 = .ok (.iaload, 1) := by decide +kernel
theorem dL_law_763 : decode cL_law 763 = .ok (.invokevirtual 78, 3) := by decide +kernel
theorem dL_law_766 : decode cL_law 766 = .ok (.pop, 1) := by decide +kernel
theorem dL_law_767 : decode cL_law 767 = .ok (.goto 960, 3) := by decide +kernel
theorem dL_law_770 : decode cL_law 770 = .ok (.aload_n 1, 1) := by decide +kernel
theorem dL_law_771 : decode cL_law 771 = .ok (.aload_n 0, 1) := by decide +kernel
theorem dL_law_772 : decode cL_law 772 = .ok (.iload_n 3, 1) := by decide +kernel
theorem dL_law_773 : decode cL_law 773 = .ok (.iconst 1, 1) := by decide +kernel
theorem dL_law_774 : decode cL_law 774 = .ok (.iadd, 1) := by decide +kernel
theorem dL_law_775 : decode cL_law 775 = .ok (.iaload, 1) := by decide +kernel
theorem dL_law_776 : decode cL_law 776 = .ok (.aload_n 0, 1) := by decide +kernel
theorem dL_law_777 : decode cL_law 777 = .ok (.iload_n 3, 1) := by decide +kernel
theorem dL_law_778 : decode cL_law 778 = .ok (.iconst 2, 1) := by decide +kernel
theorem dL_law_779 : decode cL_law 779 = .ok (.iadd, 1) := by decide +kernel
theorem dL_law_780 : decode cL_law 780 = .ok (.iaload, 1) := by decide +kernel
theorem dL_law_781 : decode cL_law 781 = .ok (.invokevirtual 79, 3) := by decide +kernel
theorem dL_law_784 : decode cL_law 784 = .ok (.pop, 1) := by decide +kernel
theorem dL_law_785 : decode cL_law 785 = .ok (.aload_n 2, 1) := by decide +kernel
theorem dL_law_786 : decode cL_law 786 = .ok (.aload_n 0, 1) := by decide +kernel
theorem dL_law_787 : decode cL_law 787 = .ok (.iload_n 3, 1) := by decide +kernel
theorem dL_law_788 : decode cL_law 788 = .ok (.iconst 1, 1) := by decide +kernel
theorem dL_law_789 : decode cL_law 789 = .ok (.iadd, 1) := by decide +kernel
theorem dL_law_790 : decode cL_law 790 = .ok (.iaload, 1) := by decide +kernel
theorem dL_law_791 : decode cL_law 791 = .ok (.aload_n 0, 1) := by decide +kernel
theorem dL_law_792 : decode cL_law 792 = .ok (.iload_n 3, 1) := by decide +kernel
theorem dL_law_793 : decode cL_law 793 = .ok (.iconst 2, 1) := by decide +kernel
theorem dL_law_794 : decode cL_law 794 = .ok (.iadd, 1) := by decide +kernel
theorem dL_law_795 : decode cL_law 795 = .ok (.iaload, 1) := by decide +kernel
theorem dL_law_796 : decode cL_law 796 = .ok (.invokevirtual 82, 3) := by decide +kernel
theorem dL_law_799 : decode cL_law 799 = .ok (.pop, 1) := by decide +kernel
theorem dL_law_800 : decode cL_law 800 = .ok (.goto 927, 3) := by decide +kernel
theorem dL_law_803 : decode cL_law 803 = .ok (.aload_n 1, 1) := by decide +kernel
theorem dL_law_804 : decode cL_law 804 = .ok (.aload_n 0, 1) := by decide +kernel
theorem dL_law_805 : decode cL_law 805 = .ok (.iload_n 3, 1) := by decide +kernel
theorem dL_law_806 : decode cL_law 806 = .ok (.iconst 1, 1) := by decide +kernel
theorem dL_law_807 : decode cL_law 807 = .ok (.iadd, 1) := by decide +kernel
theorem dL_law_808 : decode cL_law 808 = .ok (.iaload, 1) := by decide +kernel
theorem dL_law_809 : decode cL_law 809 = .ok (.aload_n 0, 1) := by decide +kernel
theorem dL_law_810 : decode cL_law 810 = .ok (.iload_n 3, 1) := by decide +kernel
theorem dL_law_811 : decode cL_law 811 = .ok (.iconst 2, 1) := by decide +kernel
theorem dL_law_812 : decode cL_law 812 = .ok (.iadd, 1) := by decide +kernel
theorem dL_law_813 : decode cL_law 813 = .ok (.iaload, 1) := by decide +kernel
theorem dL_law_814 : decode cL_law 814 = .ok (.invokevirtual 83, 3) := by decide +kernel
theorem dL_law_817 : decode cL_law 817 = .ok (.pop, 1) := by decide +kernel
theorem dL_law_818 : decode cL_law 818 = .ok (.aload_n 2, 1) := by decide +kernel
theorem dL_law_819 : decode cL_law 819 = .ok (.aload_n 0, 1) := by decide +kernel
theorem dL_law_820 : decode cL_law 820 = .ok (.iload_n 3, 1) := by decide +kernel
theorem dL_law_821 : decode cL_law 821 = .ok (.iconst 1, 1) := by decide +kernel
theorem dL_law_822 : decode cL_law 822 = .ok (.iadd, 1) := by decide +kernel
theorem dL_law_823 : decode cL_law 823 = .ok (.iaload, 1) := by decide +kernel
theorem dL_law_824 : decode cL_law 824 = .ok (.aload_n 0, 1) := by decide +kernel
theorem dL_law_825 : decode cL_law 825 = .ok (.iload_n 3, 1) := by decide +kernel
theorem dL_law_826 : decode cL_law 826 = .ok (.iconst 2, 1) := by decide +kernel
theorem dL_law_827 : decode cL_law 827 = .ok (.iadd, 1) := by decide +kernel
theorem dL_law_828 : decode cL_law 828 = .ok (.iaload, 1) := by decide +kernel
theorem dL_law_829 : decode cL_law 829 = .ok (.invokevirtual 86, 3) := by decide +kernel
theorem dL_law_832 : decode cL_law 832 = .ok (.pop, 1) := by decide +kernel
theorem dL_law_833 : decode cL_law 833 = .ok (.goto 894, 3) := by decide +kernel
theorem dL_law_836 : decode cL_law 836 = .ok (.aload_n 1, 1) := by decide +kernel
theorem dL_law_837 : decode cL_law 837 = .ok (.aload_n 0, 1) := by decide +kernel
theorem dL_law_838 : decode cL_law 838 = .ok (.iload_n 3, 1) := by decide +kernel
theorem dL_law_839 : decode cL_law 839 = .ok (.iconst 1, 1) := by decide +kernel
theorem dL_law_840 : decode cL_law 840 = .ok (.iadd, 1) := by decide +kernel
theorem dL_law_841 : decode cL_law 841 = .ok (.iaload, 1) := by decide +kernel
theorem dL_law_842 : decode cL_law 842 = .ok (.aload_n 0, 1) := by decide +kernel
theorem dL_law_843 : decode cL_law 843 = .ok (.iload_n 3, 1) := by decide +kernel
theorem dL_law_844 : decode cL_law 844 = .ok (.iconst 2, 1) := by decide +kernel
theorem dL_law_845 : decode cL_law 845 = .ok (.iadd, 1) := by decide +kernel
theorem dL_law_846 : decode cL_law 846 = .ok (.iaload, 1) := by decide +kernel
theorem dL_law_847 : decode cL_law 847 = .ok (.invokevirtual 87, 3) := by decide +kernel
theorem dL_law_850 : decode cL_law 850 = .ok (.pop, 1) := by decide +kernel
theorem dL_law_851 : decode cL_law 851 = .ok (.aload_n 2, 1) := by decide +kernel
theorem dL_law_852 : decode cL_law 852 = .ok (.aload_n 0, 1) := by decide +kernel
theorem dL_law_853 : decode cL_law 853 = .ok (.iload_n 3, 1) := by decide +kernel
theorem dL_law_854 : decode cL_law 854 = .ok (.iconst 1, 1) := by decide +kernel
theorem dL_law_855 : decode cL_law 855 = .ok (.iadd, 1) := by decide +kernel
theorem dL_law_856 : decode cL_law 856 = .ok (.iaload, 1) := by decide +kernel
theorem dL_law_857 : decode cL_law 857 = .ok (.aload_n 0, 1) := by decide +kernel
theorem dL_law_858 : decode cL_law 858 = .ok (.iload_n 3, 1) := by decide +kernel
theorem dL_law_859 : decode cL_law 859 = .ok (.iconst 2, 1) := by decide +kernel
theorem dL_law_860 : decode cL_law 860 = .ok (.iadd, 1) := by decide +kernel
theorem dL_law_861 : decode cL_law 861 = .ok (.iaload, 1) := by decide +kernel
theorem dL_law_862 : decode cL_law 862 = .ok (.invokevirtual 90, 3) := by decide +kernel
theorem dL_law_865 : decode cL_law 865 = .ok (.pop, 1) := by decide +kernel
theorem dL_law_866 : decode cL_law 866 = .ok (.goto 861, 3) := by decide +kernel
theorem dL_law_869 : decode cL_law 869 = .ok (.aload_n 1, 1) := by decide +kernel
theorem dL_law_870 : decode cL_law 870 = .ok (.aload_n 0, 1) := by decide +kernel
theorem dL_law_871 : decode cL_law 871 = .ok (.iload_n 3, 1) := by decide +kernel
theorem dL_law_872 : decode cL_law 872 = .ok (.iconst 1, 1) := by decide +kernel
theorem dL_law_873 : decode cL_law 873 = .ok (.iadd, 1) := by decide +kernel
theorem dL_law_874 : decode cL_law 874 = .ok (.iaload, 1) := by decide +kernel
theorem dL_law_875 : decode cL_law 875 = .ok (.invokevirtual 91, 3) := by decide +kernel
theorem dL_law_878 : decode cL_law 878 = .ok (.pop, 1) := by decide +kernel
theorem dL_law_879 : decode cL_law 879 = .ok (.aload_n 2, 1) := by decide +kernel
theorem dL_law_880 : decode cL_law 880 = .ok (.aload_n 0, 1) := by decide +kernel
theorem dL_law_881 : decode cL_law 881 = .ok (.iload_n 3, 1) := by decide +kernel
theorem dL_law_882 : decode cL_law 882 = .ok (.iconst 1, 1) := by decide +kernel
theorem dL_law_883 : decode cL_law 883 = .ok (.iadd, 1) := by decide +kernel
theorem dL_law_884 : decode cL_law 884 = .ok (.iaload, 1) := by decide +kernel
theorem dL_law_885 : decode cL_law 885 = .ok (.invokevirtual 94, 3) := by decide +kernel
theorem dL_law_888 : decode cL_law 888 = .ok (.pop, 1) := by decide +kernel
theorem dL_law_889 : decode cL_law 889 = .ok (.goto 838, 3) := by decide +kernel
set_option maxRecDepth 20000 in
theorem lww_81 : Cond.methodLink RL 75 yX10_below ∈ lw_tbl := List.mem_of_getElem? (i := 757) (by decide +kernel)
set_option maxRecDepth 20000 in
theorem lww_82 : Cond.instanceMethod yX10_below ∈ lw_tbl := List.mem_of_getElem? (i := 758) (by decide +kernel)
set_option maxRecDepth 20000 in
theorem lww_83 : Cond.selects RX10 yX10_below yX10_below ∈ lw_tbl := List.mem_of_getElem? (i := 759) (by decide +kernel)
set_option maxRecDepth 20000 in
theorem lww_84 : Cond.methodLink RL 78 yX11_below ∈ lw_tbl := List.mem_of_getElem? (i := 1565) (by decide +kernel)
set_option maxRecDepth 20000 in
theorem lww_85 : Cond.instanceMethod yX11_below ∈ lw_tbl := List.mem_of_getElem? (i := 1566) (by decide +kernel)
set_option maxRecDepth 20000 in
theorem lww_86 : Cond.selects RX11 yX11_below yX11_below ∈ lw_tbl := List.mem_of_getElem? (i := 1567) (by decide +kernel)
set_option maxRecDepth 20000 in
theorem lww_87 : Cond.methodLink RL 79 yX10_nearest ∈ lw_tbl := List.mem_of_getElem? (i := 762) (by decide +kernel)
set_option maxRecDepth 20000 in
theorem lww_88 : Cond.instanceMethod yX10_nearest ∈ lw_tbl := List.mem_of_getElem? (i := 763) (by decide +kernel)
set_option maxRecDepth 20000 in
theorem lww_89 : Cond.selects RX10 yX10_nearest yX10_nearest ∈ lw_tbl := List.mem_of_getElem? (i := 764) (by decide +kernel)
set_option maxRecDepth 20000 in
theorem lww_90 : Cond.methodLink RL 82 yX11_nearest ∈ lw_tbl := List.mem_of_getElem? (i := 1608) (by decide +kernel)
set_option maxRecDepth 20000 in
theorem lww_91 : Cond.instanceMethod yX11_nearest ∈ lw_tbl := List.mem_of_getElem? (i := 1609) (by decide +kernel)
set_option maxRecDepth 20000 in
theorem lww_92 : Cond.selects RX11 yX11_nearest yX11_nearest ∈ lw_tbl := List.mem_of_getElem? (i := 1610) (by decide +kernel)
set_option maxRecDepth 20000 in
theorem lww_93 : Cond.methodLink RL 83 yX10_many ∈ lw_tbl := List.mem_of_getElem? (i := 771) (by decide +kernel)
set_option maxRecDepth 20000 in
theorem lww_94 : Cond.instanceMethod yX10_many ∈ lw_tbl := List.mem_of_getElem? (i := 772) (by decide +kernel)
set_option maxRecDepth 20000 in
theorem lww_95 : Cond.selects RX10 yX10_many yX10_many ∈ lw_tbl := List.mem_of_getElem? (i := 773) (by decide +kernel)
set_option maxRecDepth 20000 in
theorem lww_96 : Cond.methodLink RL 86 yX11_many ∈ lw_tbl := List.mem_of_getElem? (i := 1569) (by decide +kernel)
set_option maxRecDepth 20000 in
theorem lww_97 : Cond.instanceMethod yX11_many ∈ lw_tbl := List.mem_of_getElem? (i := 1570) (by decide +kernel)
set_option maxRecDepth 20000 in
theorem lww_98 : Cond.selects RX11 yX11_many yX11_many ∈ lw_tbl := List.mem_of_getElem? (i := 1571) (by decide +kernel)
set_option maxRecDepth 20000 in
theorem lww_99 : Cond.methodLink RL 87 yX10_crowd ∈ lw_tbl := List.mem_of_getElem? (i := 779) (by decide +kernel)
set_option maxRecDepth 20000 in
theorem lww_100 : Cond.instanceMethod yX10_crowd ∈ lw_tbl := List.mem_of_getElem? (i := 780) (by decide +kernel)
set_option maxRecDepth 20000 in
theorem lww_101 : Cond.selects RX10 yX10_crowd yX10_crowd ∈ lw_tbl := List.mem_of_getElem? (i := 781) (by decide +kernel)
set_option maxRecDepth 20000 in
theorem lww_102 : Cond.methodLink RL 90 yX11_crowd ∈ lw_tbl := List.mem_of_getElem? (i := 1573) (by decide +kernel)
set_option maxRecDepth 20000 in
theorem lww_103 : Cond.instanceMethod yX11_crowd ∈ lw_tbl := List.mem_of_getElem? (i := 1574) (by decide +kernel)
set_option maxRecDepth 20000 in
theorem lww_104 : Cond.selects RX11 yX11_crowd yX11_crowd ∈ lw_tbl := List.mem_of_getElem? (i := 1575) (by decide +kernel)
set_option maxRecDepth 20000 in
theorem lww_105 : Cond.methodLink RL 91 yX10_empty ∈ lw_tbl := List.mem_of_getElem? (i := 791) (by decide +kernel)
set_option maxRecDepth 20000 in
theorem lww_106 : Cond.instanceMethod yX10_empty ∈ lw_tbl := List.mem_of_getElem? (i := 792) (by decide +kernel)
set_option maxRecDepth 20000 in
theorem lww_107 : Cond.selects RX10 yX10_empty yX10_empty ∈ lw_tbl := List.mem_of_getElem? (i := 793) (by decide +kernel)
set_option maxRecDepth 20000 in
theorem lww_108 : Cond.methodLink RL 94 yX11_empty ∈ lw_tbl := List.mem_of_getElem? (i := 1577) (by decide +kernel)
set_option maxRecDepth 20000 in
theorem lww_109 : Cond.instanceMethod yX11_empty ∈ lw_tbl := List.mem_of_getElem? (i := 1578) (by decide +kernel)
set_option maxRecDepth 20000 in
theorem lww_110 : Cond.selects RX11 yX11_empty yX11_empty ∈ lw_tbl := List.mem_of_getElem? (i := 1579) (by decide +kernel)

set_option maxRecDepth 20000 in
theorem g_L_m_below_75 : GoodIn lw_tbl (wsV RL 75 RX10 yX10_below wp_m_below) := goodIn_sub (List.forall_mem_append.mpr ⟨List.forall_mem_cons.mpr ⟨lww_81, List.forall_mem_cons.mpr ⟨lww_82, List.forall_mem_cons.mpr ⟨lww_83, List.forall_mem_cons.mpr ⟨lww_3, fun _ h => absurd h List.not_mem_nil⟩⟩⟩⟩, in_m_below⟩) (by decide +kernel)
set_option maxRecDepth 20000 in
theorem g_L_c_belowM_78 : GoodIn lw_tbl (wsV RL 78 RX11 yX11_below wp_c_belowM) := goodIn_sub (List.forall_mem_append.mpr ⟨List.forall_mem_cons.mpr ⟨lww_84, List.forall_mem_cons.mpr ⟨lww_85, List.forall_mem_cons.mpr ⟨lww_86, List.forall_mem_cons.mpr ⟨lww_7, fun _ h => absurd h List.not_mem_nil⟩⟩⟩⟩, in_c_belowM⟩) (by decide +kernel)
set_option maxHeartbeats 4000000 in
set_option maxRecDepth 100000 in
theorem law_case_13 {p : Program} {e : Env} {s : State} {m : MethodId} {below : List Frame} {meth : Method} {c : Code} (l : Launch) {b L : Nat} {xs : Nat → Int32} {D : va_G} {A : Nat → Prop} {adK adV : Nat → Nat} (C0 : lw_At p s m meth c b L xs) (hL : L ≤ 3584) (hN : NC s) (hST : ST adK adV A s s.heap) (hA : ∀ q, s.heap.size ≤ q → A q) (hbA : ¬ A b) {cm : Nat → ClassId} {cI cT : ClassId} (hKm : va_K D vwCl (tyM cm) s) (hKc : va_K D vwCl [(cI, .int), (cT, .object RX9)] s) {x0 m0 i : Nat} (hi : i + 7 ≤ L) (kx : ∀ (cells slots tp : Nat) (bt : Nat → Nat) (ex : Nat → Bool) (Ls : Nat → List (Nat × Int32)) (V U : va_W) (H : Heap) (locs : List Loc) (ls : Array Slot), cells + 14 * cntE ex ≤ 200 → slots + 11072 * cntE ex ≤ 200000 → RWd cm m0 tp bt ex Ls V → CWd cI cT x0 tp bt ex Ls U → va_P D vwCl (V ++ U) H → va_D A (V ++ U) → va_S A s.heap H locs → lv_has ls 4 [(3, .int (nI i)), (2, .ref m0), (1, .ref x0), (0, .ref b)] → W p l e room_1 s m #[Value.ref b] below meth c H locs (cells) (slots) (lw_Z below #[Value.ref b] s) (F0 m 1727 ls [])) : ∀ (cells slots tp : Nat) (bt : Nat → Nat) (ex : Nat → Bool) (Ls : Nat → List (Nat × Int32)) (V U : va_W) (H : Heap) (locs : List Loc) (ls : Array Slot), cells + 14 * cntE ex ≤ 200 → slots + 11072 * cntE ex ≤ 200000 → RWd cm m0 tp bt ex Ls V → CWd cI cT x0 tp bt ex Ls U → va_P D vwCl (V ++ U) H → va_D A (V ++ U) → va_S A s.heap H locs → lv_has ls 4 [(3, .int (nI i)), (2, .ref m0), (1, .ref x0), (0, .ref b)] → W p l e room_1 s m #[Value.ref b] below meth c H locs (cells) (slots) (lw_Z below #[Value.ref b] s) (F0 m 737 ls []) := by
  intro cells slots tp bt ex Ls V U H locs ls hc9 hs9 hR hC hP hD hS hl
  have hf1 : cells ≤ room_1.cells := Nat.le_trans (show cells ≤ 200 by omega) (by decide +kernel)
  have hf2 : slots ≤ room_1.slots := Nat.le_trans (show slots ≤ 200000 by omega) (by decide +kernel)
  obtain ⟨hx, hb, hr, hml, hown, hts, hX, hbl, hlocks, hgv⟩ := id C0
  have hown : s.vm.findClass RL = some m.cls := hown
  refine lv_aload_n hx hb dL_law_737 rfl (lv_at hl 2 rfl) ?_
  refine lv_aload_n hx hb dL_law_738 rfl (lv_at hl 3 rfl) ?_
  refine lv_iload_n hx hb dL_law_739 rfl (lv_at hl 0 rfl) ?_
  refine lv_iconst (v := 1) hx hb dL_law_740 (by decide) ?_
  refine lv_iadd hx hb dL_law_741 ?_
  refine lv_topi (fun v1 ev1 => ?_)
  obtain rfl : v1 = nI (i + 1) := ev1.trans (nI_add _ 1)
  refine va_sld hx hb hX hbl hbA hS (vp_in_nI (by omega) (by omega)) dL_law_742 ?_
  refine lv_topi (fun v2 ev2 => ?_)
  refine lv_aload_n hx hb dL_law_743 rfl (lv_at hl 3 rfl) ?_
  refine lv_iload_n hx hb dL_law_744 rfl (lv_at hl 0 rfl) ?_
  refine lv_iconst (v := 2) hx hb dL_law_745 (by decide) ?_
  refine lv_iadd hx hb dL_law_746 ?_
  refine lv_topi (fun v3 ev3 => ?_)
  obtain rfl : v3 = nI (i + 2) := ev3.trans (nI_add _ 2)
  refine va_sld hx hb hX hbl hbA hS (vp_in_nI (by omega) (by omega)) dL_law_747 ?_
  refine lv_topi (fun v4 ev4 => ?_)
  obtain ⟨q9, fs9, he9⟩ := hC.recv
  have hFc := va_fr hD.rt hS hA
  refine va_calli (va_runV (As := [.int v2, .int v4]) (rest := []) ⟨hx, hb, hml, hown, hts⟩ (m_below l D _ adK adV cI cT x0 _ _ _ _ U v2 v4 hC) (cwV 2 hts g_L_m_below_75 rfl rfl rfl (by decide +kernel) ⟨(Nat.le_of_ble_eq_true rfl), (Nat.le_of_ble_eq_true rfl)⟩) (PcWS_V (q0 := q9) hP.rt hKc hD.rt hN hST hS hFc he9 rfl) rfl rfl hl.1 rfl (lv_room (Nat.le_of_ble_eq_true rfl)) dL_law_748 ⟨hf1, hf2⟩) hS (fun q _ h => hFc q h) hFc (fun r5 uu tt H locs htt hvm hw hB hz1 hk1 hS => ?_)
  obtain ⟨U6, rfl⟩ : ∃ z, z = uu := ⟨_, rfl⟩
  obtain ⟨hP1, hK1, hD1⟩ := hB
  rw [htt] at hP1
  obtain ⟨hP, hD⟩ := jnC hP hD hk1 hFc hP1 hD1
  have hC := hw.1
  have emC := hw.2
  refine lv_pop hx hb dL_law_751 rfl ?_
  refine lv_aload_n hx hb dL_law_752 rfl (lv_at hl 1 rfl) ?_
  refine lv_aload_n hx hb dL_law_753 rfl (lv_at hl 3 rfl) ?_
  refine lv_iload_n hx hb dL_law_754 rfl (lv_at hl 0 rfl) ?_
  refine lv_iconst (v := 1) hx hb dL_law_755 (by decide) ?_
  refine lv_iadd hx hb dL_law_756 ?_
  refine lv_topi (fun v7 ev7 => ?_)
  obtain rfl : v7 = nI (i + 1) := ev7.trans (nI_add _ 1)
  refine va_sld hx hb hX hbl hbA hS (vp_in_nI (by omega) (by omega)) dL_law_757 ?_
  refine lv_topi (fun v8 ev8 => ?_)
  refine lv_aload_n hx hb dL_law_758 rfl (lv_at hl 3 rfl) ?_
  refine lv_iload_n hx hb dL_law_759 rfl (lv_at hl 0 rfl) ?_
  refine lv_iconst (v := 2) hx hb dL_law_760 (by decide) ?_
  refine lv_iadd hx hb dL_law_761 ?_
  refine lv_topi (fun v9 ev9 => ?_)
  obtain rfl : v9 = nI (i + 2) := ev9.trans (nI_add _ 2)
  refine va_sld hx hb hX hbl hbA hS (vp_in_nI (by omega) (by omega)) dL_law_762 ?_
  refine lv_topi (fun v10 ev10 => ?_)
  obtain ⟨q9, fs9, he9⟩ := hR.recv
  have hFc := va_fr hD.lf hS hA
  refine va_calli (va_runV (As := [.int v8, .int v10]) (rest := []) ⟨hx, hb, hml, hown, hts⟩ (M_below l D _ cm m0 _ _ _ _ V v8 v10 hR) (cwV 2 hts g_L_c_belowM_78 rfl rfl rfl (by decide +kernel) ⟨(Nat.le_of_ble_eq_true rfl), (Nat.le_of_ble_eq_true rfl)⟩) (PcW_V (q0 := q9) hP.lf hKm hD.lf he9 rfl) rfl rfl hl.1 rfl (lv_room (Nat.le_of_ble_eq_true rfl)) dL_law_763 ⟨hf1, hf2⟩) hS (fun q _ h => hFc q h) hFc (fun r11 uu tt H locs htt hvm hw hB hz1 hk1 hS => ?_)
  obtain ⟨V12, rfl⟩ : ∃ z, z = uu := ⟨_, rfl⟩
  obtain ⟨hP1, hK1, hD1⟩ := hB
  rw [htt] at hP1
  obtain ⟨hP, hD⟩ := jnR hP hD hk1 hFc hP1 hD1
  have hR := hw.1
  have emR := hw.2
  have e9x : v8 = v2 := ev8.trans ev2.symm
  try rw [e9x] at hR
  try rw [e9x] at emR
  clear e9x
  have e9x : v10 = v4 := ev10.trans ev4.symm
  try rw [e9x] at hR
  try rw [e9x] at emR
  clear e9x
  refine lv_pop hx hb dL_law_766 rfl ?_
  refine lv_goto (tgt := 1727) hx hb dL_law_767 (by decide) ?_
  exact kx cells slots _ _ _ _ V12 U6 H locs ls (by omega) (by omega) hR hC hP hD hS hl

set_option maxRecDepth 20000 in
theorem g_L_m_nearest_79 : GoodIn lw_tbl (wsV RL 79 RX10 yX10_nearest wp_m_nearest) := goodIn_sub (List.forall_mem_append.mpr ⟨List.forall_mem_cons.mpr ⟨lww_87, List.forall_mem_cons.mpr ⟨lww_88, List.forall_mem_cons.mpr ⟨lww_89, List.forall_mem_cons.mpr ⟨lww_3, fun _ h => absurd h List.not_mem_nil⟩⟩⟩⟩, in_m_nearest⟩) (by decide +kernel)
set_option maxRecDepth 20000 in
theorem g_L_c_nearestM_82 : GoodIn lw_tbl (wsV RL 82 RX11 yX11_nearest wp_c_nearestM) := goodIn_sub (List.forall_mem_append.mpr ⟨List.forall_mem_cons.mpr ⟨lww_90, List.forall_mem_cons.mpr ⟨lww_91, List.forall_mem_cons.mpr ⟨lww_92, List.forall_mem_cons.mpr ⟨lww_7, fun _ h => absurd h List.not_mem_nil⟩⟩⟩⟩, in_c_nearestM⟩) (by decide +kernel)
set_option maxHeartbeats 4000000 in
set_option maxRecDepth 100000 in
theorem law_case_14 {p : Program} {e : Env} {s : State} {m : MethodId} {below : List Frame} {meth : Method} {c : Code} (l : Launch) {b L : Nat} {xs : Nat → Int32} {D : va_G} {A : Nat → Prop} {adK adV : Nat → Nat} (C0 : lw_At p s m meth c b L xs) (hL : L ≤ 3584) (hN : NC s) (hST : ST adK adV A s s.heap) (hA : ∀ q, s.heap.size ≤ q → A q) (hbA : ¬ A b) {cm : Nat → ClassId} {cI cT : ClassId} (hKm : va_K D vwCl (tyM cm) s) (hKc : va_K D vwCl [(cI, .int), (cT, .object RX9)] s) {x0 m0 i : Nat} (hi : i + 7 ≤ L) (kx : ∀ (cells slots tp : Nat) (bt : Nat → Nat) (ex : Nat → Bool) (Ls : Nat → List (Nat × Int32)) (V U : va_W) (H : Heap) (locs : List Loc) (ls : Array Slot), cells + 14 * cntE ex ≤ 200 → slots + 11072 * cntE ex ≤ 200000 → RWd cm m0 tp bt ex Ls V → CWd cI cT x0 tp bt ex Ls U → va_P D vwCl (V ++ U) H → va_D A (V ++ U) → va_S A s.heap H locs → lv_has ls 4 [(3, .int (nI i)), (2, .ref m0), (1, .ref x0), (0, .ref b)] → W p l e room_1 s m #[Value.ref b] below meth c H locs (cells) (slots) (lw_Z below #[Value.ref b] s) (F0 m 1727 ls [])) : ∀ (cells slots tp : Nat) (bt : Nat → Nat) (ex : Nat → Bool) (Ls : Nat → List (Nat × Int32)) (V U : va_W) (H : Heap) (locs : List Loc) (ls : Array Slot), cells + 14 * cntE ex ≤ 200 → slots + 11072 * cntE ex ≤ 200000 → RWd cm m0 tp bt ex Ls V → CWd cI cT x0 tp bt ex Ls U → va_P D vwCl (V ++ U) H → va_D A (V ++ U) → va_S A s.heap H locs → lv_has ls 4 [(3, .int (nI i)), (2, .ref m0), (1, .ref x0), (0, .ref b)] → W p l e room_1 s m #[Value.ref b] below meth c H locs (cells) (slots) (lw_Z below #[Value.ref b] s) (F0 m 770 ls []) := by
  intro cells slots tp bt ex Ls V U H locs ls hc9 hs9 hR hC hP hD hS hl
  have hf1 : cells ≤ room_1.cells := Nat.le_trans (show cells ≤ 200 by omega) (by decide +kernel)
  have hf2 : slots ≤ room_1.slots := Nat.le_trans (show slots ≤ 200000 by omega) (by decide +kernel)
  obtain ⟨hx, hb, hr, hml, hown, hts, hX, hbl, hlocks, hgv⟩ := id C0
  have hown : s.vm.findClass RL = some m.cls := hown
  refine lv_aload_n hx hb dL_law_770 rfl (lv_at hl 2 rfl) ?_
  refine lv_aload_n hx hb dL_law_771 rfl (lv_at hl 3 rfl) ?_
  refine lv_iload_n hx hb dL_law_772 rfl (lv_at hl 0 rfl) ?_
  refine lv_iconst (v := 1) hx hb dL_law_773 (by decide) ?_
  refine lv_iadd hx hb dL_law_774 ?_
  refine lv_topi (fun v1 ev1 => ?_)
  obtain rfl : v1 = nI (i + 1) := ev1.trans (nI_add _ 1)
  refine va_sld hx hb hX hbl hbA hS (vp_in_nI (by omega) (by omega)) dL_law_775 ?_
  refine lv_topi (fun v2 ev2 => ?_)
  refine lv_aload_n hx hb dL_law_776 rfl (lv_at hl 3 rfl) ?_
  refine lv_iload_n hx hb dL_law_777 rfl (lv_at hl 0 rfl) ?_
  refine lv_iconst (v := 2) hx hb dL_law_778 (by decide) ?_
  refine lv_iadd hx hb dL_law_779 ?_
  refine lv_topi (fun v3 ev3 => ?_)
  obtain rfl : v3 = nI (i + 2) := ev3.trans (nI_add _ 2)
  refine va_sld hx hb hX hbl hbA hS (vp_in_nI (by omega) (by omega)) dL_law_780 ?_
  refine lv_topi (fun v4 ev4 => ?_)
  obtain ⟨q9, fs9, he9⟩ := hC.recv
  have hFc := va_fr hD.rt hS hA
  refine va_calli (va_runV (As := [.int v2, .int v4]) (rest := []) ⟨hx, hb, hml, hown, hts⟩ (m_nearest l D _ adK adV cI cT x0 _ _ _ _ U v2 v4 hC) (cwV 2 hts g_L_m_nearest_79 rfl rfl rfl (by decide +kernel) ⟨(Nat.le_of_ble_eq_true rfl), (Nat.le_of_ble_eq_true rfl)⟩) (PcWS_V (q0 := q9) hP.rt hKc hD.rt hN hST hS hFc he9 rfl) rfl rfl hl.1 rfl (lv_room (Nat.le_of_ble_eq_true rfl)) dL_law_781 ⟨hf1, hf2⟩) hS (fun q _ h => hFc q h) hFc (fun r5 uu tt H locs htt hvm hw hB hz1 hk1 hS => ?_)
  obtain ⟨U6, rfl⟩ : ∃ z, z = uu := ⟨_, rfl⟩
  obtain ⟨hP1, hK1, hD1⟩ := hB
  rw [htt] at hP1
  obtain ⟨hP, hD⟩ := jnC hP hD hk1 hFc hP1 hD1
  have hC := hw.1
  have emC := hw.2
  refine lv_pop hx hb dL_law_784 rfl ?_
  refine lv_aload_n hx hb dL_law_785 rfl (lv_at hl 1 rfl) ?_
  refine lv_aload_n hx hb dL_law_786 rfl (lv_at hl 3 rfl) ?_
  refine lv_iload_n hx hb dL_law_787 rfl (lv_at hl 0 rfl) ?_
  refine lv_iconst (v := 1) hx hb dL_law_788 (by decide) ?_
  refine lv_iadd hx hb dL_law_789 ?_
  refine lv_topi (fun v7 ev7 => ?_)
  obtain rfl : v7 = nI (i + 1) := ev7.trans (nI_add _ 1)
  refine va_sld hx hb hX hbl hbA hS (vp_in_nI (by omega) (by omega)) dL_law_790 ?_
  refine lv_topi (fun v8 ev8 => ?_)
  refine lv_aload_n hx hb dL_law_791 rfl (lv_at hl 3 rfl) ?_
  refine lv_iload_n hx hb dL_law_792 rfl (lv_at hl 0 rfl) ?_
  refine lv_iconst (v := 2) hx hb dL_law_793 (by decide) ?_
  refine lv_iadd hx hb dL_law_794 ?_
  refine lv_topi (fun v9 ev9 => ?_)
  obtain rfl : v9 = nI (i + 2) := ev9.trans (nI_add _ 2)
  refine va_sld hx hb hX hbl hbA hS (vp_in_nI (by omega) (by omega)) dL_law_795 ?_
  refine lv_topi (fun v10 ev10 => ?_)
  obtain ⟨q9, fs9, he9⟩ := hR.recv
  have hFc := va_fr hD.lf hS hA
  refine va_calli (va_runV (As := [.int v8, .int v10]) (rest := []) ⟨hx, hb, hml, hown, hts⟩ (M_nearest l D _ cm m0 _ _ _ _ V v8 v10 hR) (cwV 2 hts g_L_c_nearestM_82 rfl rfl rfl (by decide +kernel) ⟨(Nat.le_of_ble_eq_true rfl), (Nat.le_of_ble_eq_true rfl)⟩) (PcW_V (q0 := q9) hP.lf hKm hD.lf he9 rfl) rfl rfl hl.1 rfl (lv_room (Nat.le_of_ble_eq_true rfl)) dL_law_796 ⟨hf1, hf2⟩) hS (fun q _ h => hFc q h) hFc (fun r11 uu tt H locs htt hvm hw hB hz1 hk1 hS => ?_)
  obtain ⟨V12, rfl⟩ : ∃ z, z = uu := ⟨_, rfl⟩
  obtain ⟨hP1, hK1, hD1⟩ := hB
  rw [htt] at hP1
  obtain ⟨hP, hD⟩ := jnR hP hD hk1 hFc hP1 hD1
  have hR := hw.1
  have emR := hw.2
  have e9x : v8 = v2 := ev8.trans ev2.symm
  try rw [e9x] at hR
  try rw [e9x] at emR
  clear e9x
  have e9x : v10 = v4 := ev10.trans ev4.symm
  try rw [e9x] at hR
  try rw [e9x] at emR
  clear e9x
  refine lv_pop hx hb dL_law_799 rfl ?_
  refine lv_goto (tgt := 1727) hx hb dL_law_800 (by decide) ?_
  exact kx cells slots _ _ _ _ V12 U6 H locs ls (by omega) (by omega) hR hC hP hD hS hl

set_option maxRecDepth 20000 in
theorem g_L_m_many_83 : GoodIn lw_tbl (wsV RL 83 RX10 yX10_many wp_m_many) := goodIn_sub (List.forall_mem_append.mpr ⟨List.forall_mem_cons.mpr ⟨lww_93, List.forall_mem_cons.mpr ⟨lww_94, List.forall_mem_cons.mpr ⟨lww_95, List.forall_mem_cons.mpr ⟨lww_3, fun _ h => absurd h List.not_mem_nil⟩⟩⟩⟩, in_m_many⟩) (by decide +kernel)
set_option maxRecDepth 20000 in
theorem g_L_c_manyM_86 : GoodIn lw_tbl (wsV RL 86 RX11 yX11_many wp_c_manyM) := goodIn_sub (List.forall_mem_append.mpr ⟨List.forall_mem_cons.mpr ⟨lww_96, List.forall_mem_cons.mpr ⟨lww_97, List.forall_mem_cons.mpr ⟨lww_98, List.forall_mem_cons.mpr ⟨lww_7, fun _ h => absurd h List.not_mem_nil⟩⟩⟩⟩, in_c_manyM⟩) (by decide +kernel)
set_option maxHeartbeats 4000000 in
set_option maxRecDepth 100000 in
theorem law_case_15 {p : Program} {e : Env} {s : State} {m : MethodId} {below : List Frame} {meth : Method} {c : Code} (l : Launch) {b L : Nat} {xs : Nat → Int32} {D : va_G} {A : Nat → Prop} {adK adV : Nat → Nat} (C0 : lw_At p s m meth c b L xs) (hL : L ≤ 3584) (hN : NC s) (hST : ST adK adV A s s.heap) (hA : ∀ q, s.heap.size ≤ q → A q) (hbA : ¬ A b) {cm : Nat → ClassId} {cI cT : ClassId} (hKm : va_K D vwCl (tyM cm) s) (hKc : va_K D vwCl [(cI, .int), (cT, .object RX9)] s) {x0 m0 i : Nat} (hi : i + 7 ≤ L) (kx : ∀ (cells slots tp : Nat) (bt : Nat → Nat) (ex : Nat → Bool) (Ls : Nat → List (Nat × Int32)) (V U : va_W) (H : Heap) (locs : List Loc) (ls : Array Slot), cells + 14 * cntE ex ≤ 200 → slots + 11072 * cntE ex ≤ 200000 → RWd cm m0 tp bt ex Ls V → CWd cI cT x0 tp bt ex Ls U → va_P D vwCl (V ++ U) H → va_D A (V ++ U) → va_S A s.heap H locs → lv_has ls 4 [(3, .int (nI i)), (2, .ref m0), (1, .ref x0), (0, .ref b)] → W p l e room_1 s m #[Value.ref b] below meth c H locs (cells) (slots) (lw_Z below #[Value.ref b] s) (F0 m 1727 ls [])) : ∀ (cells slots tp : Nat) (bt : Nat → Nat) (ex : Nat → Bool) (Ls : Nat → List (Nat × Int32)) (V U : va_W) (H : Heap) (locs : List Loc) (ls : Array Slot), cells + 14 * cntE ex ≤ 200 → slots + 11072 * cntE ex ≤ 200000 → RWd cm m0 tp bt ex Ls V → CWd cI cT x0 tp bt ex Ls U → va_P D vwCl (V ++ U) H → va_D A (V ++ U) → va_S A s.heap H locs → lv_has ls 4 [(3, .int (nI i)), (2, .ref m0), (1, .ref x0), (0, .ref b)] → W p l e room_1 s m #[Value.ref b] below meth c H locs (cells) (slots) (lw_Z below #[Value.ref b] s) (F0 m 803 ls []) := by
  intro cells slots tp bt ex Ls V U H locs ls hc9 hs9 hR hC hP hD hS hl
  have hf1 : cells ≤ room_1.cells := Nat.le_trans (show cells ≤ 200 by omega) (by decide +kernel)
  have hf2 : slots ≤ room_1.slots := Nat.le_trans (show slots ≤ 200000 by omega) (by decide +kernel)
  obtain ⟨hx, hb, hr, hml, hown, hts, hX, hbl, hlocks, hgv⟩ := id C0
  have hown : s.vm.findClass RL = some m.cls := hown
  refine lv_aload_n hx hb dL_law_803 rfl (lv_at hl 2 rfl) ?_
  refine lv_aload_n hx hb dL_law_804 rfl (lv_at hl 3 rfl) ?_
  refine lv_iload_n hx hb dL_law_805 rfl (lv_at hl 0 rfl) ?_
  refine lv_iconst (v := 1) hx hb dL_law_806 (by decide) ?_
  refine lv_iadd hx hb dL_law_807 ?_
  refine lv_topi (fun v1 ev1 => ?_)
  obtain rfl : v1 = nI (i + 1) := ev1.trans (nI_add _ 1)
  refine va_sld hx hb hX hbl hbA hS (vp_in_nI (by omega) (by omega)) dL_law_808 ?_
  refine lv_topi (fun v2 ev2 => ?_)
  refine lv_aload_n hx hb dL_law_809 rfl (lv_at hl 3 rfl) ?_
  refine lv_iload_n hx hb dL_law_810 rfl (lv_at hl 0 rfl) ?_
  refine lv_iconst (v := 2) hx hb dL_law_811 (by decide) ?_
  refine lv_iadd hx hb dL_law_812 ?_
  refine lv_topi (fun v3 ev3 => ?_)
  obtain rfl : v3 = nI (i + 2) := ev3.trans (nI_add _ 2)
  refine va_sld hx hb hX hbl hbA hS (vp_in_nI (by omega) (by omega)) dL_law_813 ?_
  refine lv_topi (fun v4 ev4 => ?_)
  obtain ⟨q9, fs9, he9⟩ := hC.recv
  have hFc := va_fr hD.rt hS hA
  refine va_calli (va_runV (As := [.int v2, .int v4]) (rest := []) ⟨hx, hb, hml, hown, hts⟩ (m_many l D _ adK adV cI cT x0 _ _ _ _ U v2 v4 hC) (cwV 2 hts g_L_m_many_83 rfl rfl rfl (by decide +kernel) ⟨(Nat.le_of_ble_eq_true rfl), (Nat.le_of_ble_eq_true rfl)⟩) (PcWS_V (q0 := q9) hP.rt hKc hD.rt hN hST hS hFc he9 rfl) rfl rfl hl.1 rfl (lv_room (Nat.le_of_ble_eq_true rfl)) dL_law_814 ⟨hf1, hf2⟩) hS (fun q _ h => hFc q h) hFc (fun r5 uu tt H locs htt hvm hw hB hz1 hk1 hS => ?_)
  obtain ⟨U6, rfl⟩ : ∃ z, z = uu := ⟨_, rfl⟩
  obtain ⟨hP1, hK1, hD1⟩ := hB
  rw [htt] at hP1
  obtain ⟨hP, hD⟩ := jnC hP hD hk1 hFc hP1 hD1
  have hC := hw
  refine lv_pop hx hb dL_law_817 rfl ?_
  refine lv_aload_n hx hb dL_law_818 rfl (lv_at hl 1 rfl) ?_
  refine lv_aload_n hx hb dL_law_819 rfl (lv_at hl 3 rfl) ?_
  refine lv_iload_n hx hb dL_law_820 rfl (lv_at hl 0 rfl) ?_
  refine lv_iconst (v := 1) hx hb dL_law_821 (by decide) ?_
  refine lv_iadd hx hb dL_law_822 ?_
  refine lv_topi (fun v7 ev7 => ?_)
  obtain rfl : v7 = nI (i + 1) := ev7.trans (nI_add _ 1)
  refine va_sld hx hb hX hbl hbA hS (vp_in_nI (by omega) (by omega)) dL_law_823 ?_
  refine lv_topi (fun v8 ev8 => ?_)
  refine lv_aload_n hx hb dL_law_824 rfl (lv_at hl 3 rfl) ?_
  refine lv_iload_n hx hb dL_law_825 rfl (lv_at hl 0 rfl) ?_
  refine lv_iconst (v := 2) hx hb dL_law_826 (by decide) ?_
  refine lv_iadd hx hb dL_law_827 ?_
  refine lv_topi (fun v9 ev9 => ?_)
  obtain rfl : v9 = nI (i + 2) := ev9.trans (nI_add _ 2)
  refine va_sld hx hb hX hbl hbA hS (vp_in_nI (by omega) (by omega)) dL_law_828 ?_
  refine lv_topi (fun v10 ev10 => ?_)
  obtain ⟨q9, fs9, he9⟩ := hR.recv
  have hFc := va_fr hD.lf hS hA
  refine va_calli (va_runV (As := [.int v8, .int v10]) (rest := []) ⟨hx, hb, hml, hown, hts⟩ (M_many l D _ cm m0 _ _ _ _ V v8 v10 hR) (cwV 2 hts g_L_c_manyM_86 rfl rfl rfl (by decide +kernel) ⟨(Nat.le_of_ble_eq_true rfl), (Nat.le_of_ble_eq_true rfl)⟩) (PcW_V (q0 := q9) hP.lf hKm hD.lf he9 rfl) rfl rfl hl.1 rfl (lv_room (Nat.le_of_ble_eq_true rfl)) dL_law_829 ⟨hf1, hf2⟩) hS (fun q _ h => hFc q h) hFc (fun r11 uu tt H locs htt hvm hw hB hz1 hk1 hS => ?_)
  obtain ⟨V12, rfl⟩ : ∃ z, z = uu := ⟨_, rfl⟩
  obtain ⟨hP1, hK1, hD1⟩ := hB
  rw [htt] at hP1
  obtain ⟨hP, hD⟩ := jnR hP hD hk1 hFc hP1 hD1
  have hR := hw
  refine lv_pop hx hb dL_law_832 rfl ?_
  refine lv_goto (tgt := 1727) hx hb dL_law_833 (by decide) ?_
  exact kx cells slots _ _ _ _ V12 U6 H locs ls (by omega) (by omega) hR hC hP hD hS hl

set_option maxRecDepth 20000 in
theorem g_L_m_crowd_87 : GoodIn lw_tbl (wsV RL 87 RX10 yX10_crowd wp_m_crowd) := goodIn_sub (List.forall_mem_append.mpr ⟨List.forall_mem_cons.mpr ⟨lww_99, List.forall_mem_cons.mpr ⟨lww_100, List.forall_mem_cons.mpr ⟨lww_101, List.forall_mem_cons.mpr ⟨lww_3, fun _ h => absurd h List.not_mem_nil⟩⟩⟩⟩, in_m_crowd⟩) (by decide +kernel)
set_option maxRecDepth 20000 in
theorem g_L_c_crowdM_90 : GoodIn lw_tbl (wsV RL 90 RX11 yX11_crowd wp_c_crowdM) := goodIn_sub (List.forall_mem_append.mpr ⟨List.forall_mem_cons.mpr ⟨lww_102, List.forall_mem_cons.mpr ⟨lww_103, List.forall_mem_cons.mpr ⟨lww_104, List.forall_mem_cons.mpr ⟨lww_7, fun _ h => absurd h List.not_mem_nil⟩⟩⟩⟩, in_c_crowdM⟩) (by decide +kernel)
set_option maxHeartbeats 4000000 in
set_option maxRecDepth 100000 in
theorem law_case_16 {p : Program} {e : Env} {s : State} {m : MethodId} {below : List Frame} {meth : Method} {c : Code} (l : Launch) {b L : Nat} {xs : Nat → Int32} {D : va_G} {A : Nat → Prop} {adK adV : Nat → Nat} (C0 : lw_At p s m meth c b L xs) (hL : L ≤ 3584) (hN : NC s) (hST : ST adK adV A s s.heap) (hA : ∀ q, s.heap.size ≤ q → A q) (hbA : ¬ A b) {cm : Nat → ClassId} {cI cT : ClassId} (hKm : va_K D vwCl (tyM cm) s) (hKc : va_K D vwCl [(cI, .int), (cT, .object RX9)] s) {x0 m0 i : Nat} (hi : i + 7 ≤ L) (kx : ∀ (cells slots tp : Nat) (bt : Nat → Nat) (ex : Nat → Bool) (Ls : Nat → List (Nat × Int32)) (V U : va_W) (H : Heap) (locs : List Loc) (ls : Array Slot), cells + 14 * cntE ex ≤ 200 → slots + 11072 * cntE ex ≤ 200000 → RWd cm m0 tp bt ex Ls V → CWd cI cT x0 tp bt ex Ls U → va_P D vwCl (V ++ U) H → va_D A (V ++ U) → va_S A s.heap H locs → lv_has ls 4 [(3, .int (nI i)), (2, .ref m0), (1, .ref x0), (0, .ref b)] → W p l e room_1 s m #[Value.ref b] below meth c H locs (cells) (slots) (lw_Z below #[Value.ref b] s) (F0 m 1727 ls [])) : ∀ (cells slots tp : Nat) (bt : Nat → Nat) (ex : Nat → Bool) (Ls : Nat → List (Nat × Int32)) (V U : va_W) (H : Heap) (locs : List Loc) (ls : Array Slot), cells + 14 * cntE ex ≤ 200 → slots + 11072 * cntE ex ≤ 200000 → RWd cm m0 tp bt ex Ls V → CWd cI cT x0 tp bt ex Ls U → va_P D vwCl (V ++ U) H → va_D A (V ++ U) → va_S A s.heap H locs → lv_has ls 4 [(3, .int (nI i)), (2, .ref m0), (1, .ref x0), (0, .ref b)] → W p l e room_1 s m #[Value.ref b] below meth c H locs (cells) (slots) (lw_Z below #[Value.ref b] s) (F0 m 836 ls []) := by
  intro cells slots tp bt ex Ls V U H locs ls hc9 hs9 hR hC hP hD hS hl
  have hf1 : cells ≤ room_1.cells := Nat.le_trans (show cells ≤ 200 by omega) (by decide +kernel)
  have hf2 : slots ≤ room_1.slots := Nat.le_trans (show slots ≤ 200000 by omega) (by decide +kernel)
  obtain ⟨hx, hb, hr, hml, hown, hts, hX, hbl, hlocks, hgv⟩ := id C0
  have hown : s.vm.findClass RL = some m.cls := hown
  refine lv_aload_n hx hb dL_law_836 rfl (lv_at hl 2 rfl) ?_
  refine lv_aload_n hx hb dL_law_837 rfl (lv_at hl 3 rfl) ?_
  refine lv_iload_n hx hb dL_law_838 rfl (lv_at hl 0 rfl) ?_
  refine lv_iconst (v := 1) hx hb dL_law_839 (by decide) ?_
  refine lv_iadd hx hb dL_law_840 ?_
  refine lv_topi (fun v1 ev1 => ?_)
  obtain rfl : v1 = nI (i + 1) := ev1.trans (nI_add _ 1)
  refine va_sld hx hb hX hbl hbA hS (vp_in_nI (by omega) (by omega)) dL_law_841 ?_
  refine lv_topi (fun v2 ev2 => ?_)
  refine lv_aload_n hx hb dL_law_842 rfl (lv_at hl 3 rfl) ?_
  refine lv_iload_n hx hb dL_law_843 rfl (lv_at hl 0 rfl) ?_
  refine lv_iconst (v := 2) hx hb dL_law_844 (by decide) ?_
  refine lv_iadd hx hb dL_law_845 ?_
  refine lv_topi (fun v3 ev3 => ?_)
  obtain rfl : v3 = nI (i + 2) := ev3.trans (nI_add _ 2)
  refine va_sld hx hb hX hbl hbA hS (vp_in_nI (by omega) (by omega)) dL_law_846 ?_
  refine lv_topi (fun v4 ev4 => ?_)
  obtain ⟨q9, fs9, he9⟩ := hC.recv
  have hFc := va_fr hD.rt hS hA
  refine va_calli (va_runV (As := [.int v2, .int v4]) (rest := []) ⟨hx, hb, hml, hown, hts⟩ (m_crowd l D _ adK adV cI cT x0 _ _ _ _ U v2 v4 hC) (cwV 2 hts g_L_m_crowd_87 rfl rfl rfl (by decide +kernel) ⟨(Nat.le_of_ble_eq_true rfl), (Nat.le_of_ble_eq_true rfl)⟩) (PcWS_V (q0 := q9) hP.rt hKc hD.rt hN hST hS hFc he9 rfl) rfl rfl hl.1 rfl (lv_room (Nat.le_of_ble_eq_true rfl)) dL_law_847 ⟨hf1, hf2⟩) hS (fun q _ h => hFc q h) hFc (fun r5 uu tt H locs htt hvm hw hB hz1 hk1 hS => ?_)
  obtain ⟨U6, rfl⟩ : ∃ z, z = uu := ⟨_, rfl⟩
  obtain ⟨hP1, hK1, hD1⟩ := hB
  rw [htt] at hP1
  obtain ⟨hP, hD⟩ := jnC hP hD hk1 hFc hP1 hD1
  have hC := hw
  refine lv_pop hx hb dL_law_850 rfl ?_
  refine lv_aload_n hx hb dL_law_851 rfl (lv_at hl 1 rfl) ?_
  refine lv_aload_n hx hb dL_law_852 rfl (lv_at hl 3 rfl) ?_
  refine lv_iload_n hx hb dL_law_853 rfl (lv_at hl 0 rfl) ?_
  refine lv_iconst (v := 1) hx hb dL_law_854 (by decide) ?_
  refine lv_iadd hx hb dL_law_855 ?_
  refine lv_topi (fun v7 ev7 => ?_)
  obtain rfl : v7 = nI (i + 1) := ev7.trans (nI_add _ 1)
  refine va_sld hx hb hX hbl hbA hS (vp_in_nI (by omega) (by omega)) dL_law_856 ?_
  refine lv_topi (fun v8 ev8 => ?_)
  refine lv_aload_n hx hb dL_law_857 rfl (lv_at hl 3 rfl) ?_
  refine lv_iload_n hx hb dL_law_858 rfl (lv_at hl 0 rfl) ?_
  refine lv_iconst (v := 2) hx hb dL_law_859 (by decide) ?_
  refine lv_iadd hx hb dL_law_860 ?_
  refine lv_topi (fun v9 ev9 => ?_)
  obtain rfl : v9 = nI (i + 2) := ev9.trans (nI_add _ 2)
  refine va_sld hx hb hX hbl hbA hS (vp_in_nI (by omega) (by omega)) dL_law_861 ?_
  refine lv_topi (fun v10 ev10 => ?_)
  obtain ⟨q9, fs9, he9⟩ := hR.recv
  have hFc := va_fr hD.lf hS hA
  refine va_calli (va_runV (As := [.int v8, .int v10]) (rest := []) ⟨hx, hb, hml, hown, hts⟩ (M_crowd l D _ cm m0 _ _ _ _ V v8 v10 hR) (cwV 2 hts g_L_c_crowdM_90 rfl rfl rfl (by decide +kernel) ⟨(Nat.le_of_ble_eq_true rfl), (Nat.le_of_ble_eq_true rfl)⟩) (PcW_V (q0 := q9) hP.lf hKm hD.lf he9 rfl) rfl rfl hl.1 rfl (lv_room (Nat.le_of_ble_eq_true rfl)) dL_law_862 ⟨hf1, hf2⟩) hS (fun q _ h => hFc q h) hFc (fun r11 uu tt H locs htt hvm hw hB hz1 hk1 hS => ?_)
  obtain ⟨V12, rfl⟩ : ∃ z, z = uu := ⟨_, rfl⟩
  obtain ⟨hP1, hK1, hD1⟩ := hB
  rw [htt] at hP1
  obtain ⟨hP, hD⟩ := jnR hP hD hk1 hFc hP1 hD1
  have hR := hw
  refine lv_pop hx hb dL_law_865 rfl ?_
  refine lv_goto (tgt := 1727) hx hb dL_law_866 (by decide) ?_
  exact kx cells slots _ _ _ _ V12 U6 H locs ls (by omega) (by omega) hR hC hP hD hS hl

set_option maxRecDepth 20000 in
theorem g_L_m_empty_91 : GoodIn lw_tbl (wsV RL 91 RX10 yX10_empty wp_m_empty) := goodIn_sub (List.forall_mem_append.mpr ⟨List.forall_mem_cons.mpr ⟨lww_105, List.forall_mem_cons.mpr ⟨lww_106, List.forall_mem_cons.mpr ⟨lww_107, List.forall_mem_cons.mpr ⟨lww_3, fun _ h => absurd h List.not_mem_nil⟩⟩⟩⟩, in_m_empty⟩) (by decide +kernel)
set_option maxRecDepth 20000 in
theorem g_L_c_emptyM_94 : GoodIn lw_tbl (wsV RL 94 RX11 yX11_empty wp_c_emptyM) := goodIn_sub (List.forall_mem_append.mpr ⟨List.forall_mem_cons.mpr ⟨lww_108, List.forall_mem_cons.mpr ⟨lww_109, List.forall_mem_cons.mpr ⟨lww_110, List.forall_mem_cons.mpr ⟨lww_7, fun _ h => absurd h List.not_mem_nil⟩⟩⟩⟩, in_c_emptyM⟩) (by decide +kernel)
set_option maxHeartbeats 4000000 in
set_option maxRecDepth 100000 in
theorem law_case_17 {p : Program} {e : Env} {s : State} {m : MethodId} {below : List Frame} {meth : Method} {c : Code} (l : Launch) {b L : Nat} {xs : Nat → Int32} {D : va_G} {A : Nat → Prop} {adK adV : Nat → Nat} (C0 : lw_At p s m meth c b L xs) (hL : L ≤ 3584) (hN : NC s) (hST : ST adK adV A s s.heap) (hA : ∀ q, s.heap.size ≤ q → A q) (hbA : ¬ A b) {cm : Nat → ClassId} {cI cT : ClassId} (hKm : va_K D vwCl (tyM cm) s) (hKc : va_K D vwCl [(cI, .int), (cT, .object RX9)] s) {x0 m0 i : Nat} (hi : i + 7 ≤ L) (kx : ∀ (cells slots tp : Nat) (bt : Nat → Nat) (ex : Nat → Bool) (Ls : Nat → List (Nat × Int32)) (V U : va_W) (H : Heap) (locs : List Loc) (ls : Array Slot), cells + 14 * cntE ex ≤ 200 → slots + 11072 * cntE ex ≤ 200000 → RWd cm m0 tp bt ex Ls V → CWd cI cT x0 tp bt ex Ls U → va_P D vwCl (V ++ U) H → va_D A (V ++ U) → va_S A s.heap H locs → lv_has ls 4 [(3, .int (nI i)), (2, .ref m0), (1, .ref x0), (0, .ref b)] → W p l e room_1 s m #[Value.ref b] below meth c H locs (cells) (slots) (lw_Z below #[Value.ref b] s) (F0 m 1727 ls [])) : ∀ (cells slots tp : Nat) (bt : Nat → Nat) (ex : Nat → Bool) (Ls : Nat → List (Nat × Int32)) (V U : va_W) (H : Heap) (locs : List Loc) (ls : Array Slot), cells + 14 * cntE ex ≤ 200 → slots + 11072 * cntE ex ≤ 200000 → RWd cm m0 tp bt ex Ls V → CWd cI cT x0 tp bt ex Ls U → va_P D vwCl (V ++ U) H → va_D A (V ++ U) → va_S A s.heap H locs → lv_has ls 4 [(3, .int (nI i)), (2, .ref m0), (1, .ref x0), (0, .ref b)] → W p l e room_1 s m #[Value.ref b] below meth c H locs (cells) (slots) (lw_Z below #[Value.ref b] s) (F0 m 869 ls []) := by
  intro cells slots tp bt ex Ls V U H locs ls hc9 hs9 hR hC hP hD hS hl
  have hf1 : cells ≤ room_1.cells := Nat.le_trans (show cells ≤ 200 by omega) (by decide +kernel)
  have hf2 : slots ≤ room_1.slots := Nat.le_trans (show slots ≤ 200000 by omega) (by decide +kernel)
  obtain ⟨hx, hb, hr, hml, hown, hts, hX, hbl, hlocks, hgv⟩ := id C0
  have hown : s.vm.findClass RL = some m.cls := hown
  refine lv_aload_n hx hb dL_law_869 rfl (lv_at hl 2 rfl) ?_
  refine lv_aload_n hx hb dL_law_870 rfl (lv_at hl 3 rfl) ?_
  refine lv_iload_n hx hb dL_law_871 rfl (lv_at hl 0 rfl) ?_
  refine lv_iconst (v := 1) hx hb dL_law_872 (by decide) ?_
  refine lv_iadd hx hb dL_law_873 ?_
  refine lv_topi (fun v1 ev1 => ?_)
  obtain rfl : v1 = nI (i + 1) := ev1.trans (nI_add _ 1)
  refine va_sld hx hb hX hbl hbA hS (vp_in_nI (by omega) (by omega)) dL_law_874 ?_
  refine lv_topi (fun v2 ev2 => ?_)
  obtain ⟨q9, fs9, he9⟩ := hC.recv
  have hFc := va_fr hD.rt hS hA
  refine va_calli (va_runV (As := [.int v2]) (rest := []) ⟨hx, hb, hml, hown, hts⟩ (m_empty l D _ adK adV cI cT x0 _ _ _ _ U v2 hC) (cwV 1 hts g_L_m_empty_91 rfl rfl rfl (by decide +kernel) ⟨(Nat.le_of_ble_eq_true rfl), (Nat.le_of_ble_eq_true rfl)⟩) (PcWS_V (q0 := q9) hP.rt hKc hD.rt hN hST hS hFc he9 rfl) rfl rfl hl.1 rfl (lv_room (Nat.le_of_ble_eq_true rfl)) dL_law_875 ⟨hf1, hf2⟩) hS (fun q _ h => hFc q h) hFc (fun r3 uu tt H locs htt hvm hw hB hz1 hk1 hS => ?_)
  obtain ⟨U4, rfl⟩ : ∃ z, z = uu := ⟨_, rfl⟩
  obtain ⟨hP1, hK1, hD1⟩ := hB
  rw [htt] at hP1
  obtain ⟨hP, hD⟩ := jnC hP hD hk1 hFc hP1 hD1
  have hC := hw
  refine lv_pop hx hb dL_law_878 rfl ?_
  refine lv_aload_n hx hb dL_law_879 rfl (lv_at hl 1 rfl) ?_
  refine lv_aload_n hx hb dL_law_880 rfl (lv_at hl 3 rfl) ?_
  refine lv_iload_n hx hb dL_law_881 rfl (lv_at hl 0 rfl) ?_
  refine lv_iconst (v := 1) hx hb dL_law_882 (by decide) ?_
  refine lv_iadd hx hb dL_law_883 ?_
  refine lv_topi (fun v5 ev5 => ?_)
  obtain rfl : v5 = nI (i + 1) := ev5.trans (nI_add _ 1)
  refine va_sld hx hb hX hbl hbA hS (vp_in_nI (by omega) (by omega)) dL_law_884 ?_
  refine lv_topi (fun v6 ev6 => ?_)
  obtain ⟨q9, fs9, he9⟩ := hR.recv
  have hFc := va_fr hD.lf hS hA
  refine va_calli (va_runV (As := [.int v6]) (rest := []) ⟨hx, hb, hml, hown, hts⟩ (M_empty l D _ cm m0 _ _ _ _ V v6 hR) (cwV 1 hts g_L_c_emptyM_94 rfl rfl rfl (by decide +kernel) ⟨(Nat.le_of_ble_eq_true rfl), (Nat.le_of_ble_eq_true rfl)⟩) (PcW_V (q0 := q9) hP.lf hKm hD.lf he9 rfl) rfl rfl hl.1 rfl (lv_room (Nat.le_of_ble_eq_true rfl)) dL_law_885 ⟨hf1, hf2⟩) hS (fun q _ h => hFc q h) hFc (fun r7 uu tt H locs htt hvm hw hB hz1 hk1 hS => ?_)
  obtain ⟨V8, rfl⟩ : ∃ z, z = uu := ⟨_, rfl⟩
  obtain ⟨hP1, hK1, hD1⟩ := hB
  rw [htt] at hP1
  obtain ⟨hP, hD⟩ := jnR hP hD hk1 hFc hP1 hD1
  have hR := hw
  refine lv_pop hx hb dL_law_888 rfl ?_
  refine lv_goto (tgt := 1727) hx hb dL_law_889 (by decide) ?_
  exact kx cells slots _ _ _ _ V8 U4 H locs ls (by omega) (by omega) hR hC hP hD hS hl

