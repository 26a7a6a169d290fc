def wp_m_shared : List Cond := wp_n_sharedNN ++ (wp_n_sharedNS ++ (wp_n_sharedSN ++ (wp_e_shared ++ (wp_d_shared))))
set_option maxHeartbeats 4000000 in
theorem m_shared (l : Launch) (D : va_G) (sz : Nat) (adK adV : Nat → Nat) (cI cT : ClassId) (a0 : Nat) (tp : Nat) (bt : Nat → Nat) (ex : Nat → Bool) (Ls : Nat → List (Nat × Int32)) (W : va_W) (z1 : Int32) (z2 : Int32) (z3 : Int32) (hC : CWd cI cT a0 tp bt ex Ls W) : Met l yX10_shared wp_m_shared ({ frames := 3, cells := 0, slots := 0, locals := 85 }) (PcWS D adK adV [.ref a0, .int z1, .int z2, .int z3] sz W [(cI, .int), (cT, .object RX9)]) (va_Qi (fun r (u : va_W) => CWd cI cT a0 tp bt ex Ls u ∧ r = shA (thE ex z1) (thE ex z2) Ls z1 z2 z3) (QB D [(cI, .int), (cT, .object RX9)] W sz) (va_A W sz)) 0 0 (va_A W sz) := by
  obtain ⟨ox, ob3, og, oq, ow, ft, xt, xp, xi, xq, xm, wt, rfl, htp, ht9, hp9, hi9, hq9, hm9, hok9, hex9, hpm⟩ := id hC
  rcases pick hok9 z1 with hno1 | ⟨k1, b1, hk1, rfl, hft1, hT1⟩
  · rcases pick hok9 z2 with hno2 | ⟨k2, b2, hk2, rfl, hft2, hT2⟩
    · skip
      exact lift_RCi (n_sharedNN l D sz ox ob3 og oq ow cI cT tp ft z1 z2 z3 hno1 hno2) [1] rfl (fun w h => List.mem_append_left _ h) ⟨(Nat.le_of_ble_eq_true rfl), (Nat.le_of_ble_eq_true rfl), (Nat.le_of_ble_eq_true rfl), (Nat.le_of_ble_eq_true rfl)⟩ ⟨(Nat.le_of_ble_eq_true rfl), (Nat.le_of_ble_eq_true rfl)⟩ (pf_c hpm) (fun r h => ⟨hC, h.trans (shA_0 (fun q => hex9.nth hno1 q.1)).symm⟩)
    · skip
      exact lift_RCi (n_sharedNS l D sz ox ob3 og oq ow cI cT tp ft z1 z3 k2 b2 hno1 hk2 hft2) [1] rfl (fun w h => List.mem_append_right _ (List.mem_append_left _ h)) ⟨(Nat.le_of_ble_eq_true rfl), (Nat.le_of_ble_eq_true rfl), (Nat.le_of_ble_eq_true rfl), (Nat.le_of_ble_eq_true rfl)⟩ ⟨(Nat.le_of_ble_eq_true rfl), (Nat.le_of_ble_eq_true rfl)⟩ (pf_c hpm) (fun r h => ⟨hC, h.trans (shA_0 (fun q => hex9.nth hno1 q.1)).symm⟩)
  · rcases pick hok9 z2 with hno2 | ⟨k2, b2, hk2, rfl, hft2, hT2⟩
    · skip
      exact lift_RCi (n_sharedSN l D sz ox ob3 og oq ow cI cT tp ft z2 z3 k1 b1 hk1 hft1 hno2) [1] rfl (fun w h => List.mem_append_right _ (List.mem_append_right _ (List.mem_append_left _ h))) ⟨(Nat.le_of_ble_eq_true rfl), (Nat.le_of_ble_eq_true rfl), (Nat.le_of_ble_eq_true rfl), (Nat.le_of_ble_eq_true rfl)⟩ ⟨(Nat.le_of_ble_eq_true rfl), (Nat.le_of_ble_eq_true rfl)⟩ (pf_c hpm) (fun r h => ⟨hC, h.trans (shA_0 (fun q => hex9.nth hno2 q.2.1)).symm⟩)
    · have hth1 := hex9.th hk1 hft1
      have hth2 := hex9.th hk2 hft2
      by_cases hne : k1 = k2
      · subst hne
        obtain ⟨ob, tb, ts, tg, tl, tc, tr, tu, tv, tw, sd, da, db, pr, cn, fk, fv, nb, ka, kb, sm, ln, fh, ff, fa, fs, fj, fr, fo, fx, rfl, hTb, hKv, hwk⟩ := hT1
        exact lift_RCi (e_shared l D sz ox ob3 og oq ow ob cI cT tp ft tb ts tg tl tc tr tu tv tw sd da db pr cn fk fv nb ka kb sm ln fh ff fa fs fj fr fo fx k1 z3 (Ls k1) hk1 hft1 hTb hKv) [0, 1] rfl (fun w h => List.mem_append_right _ (List.mem_append_right _ (List.mem_append_right _ (List.mem_append_left _ h)))) ⟨(Nat.le_of_ble_eq_true rfl), (Nat.le_of_ble_eq_true rfl), (Nat.le_of_ble_eq_true rfl), (Nat.le_of_ble_eq_true rfl)⟩ ⟨(Nat.le_of_ble_eq_true rfl), (Nat.le_of_ble_eq_true rfl)⟩ (pf_cT hk1 hwk hpm) (fun r h => ⟨hC, h.trans (shA_m hk1 hk1 hth1 hth1).symm⟩)
      · obtain ⟨ob, tb, ts, tg, tl, tc, tr, tu, tv, tw, sd, da, db, pr, cn, fk, fv, nb, ka, kb, sm, ln, fh, ff, fa, fs, fj, fr, fo, fx, rfl, hTb, hKv, hwk⟩ := hT1
        obtain ⟨ob2, tb2, ts2, tg2, tl2, tc2, tr2, tu2, tv2, tw2, sd2, da2, db2, pr2, cn2, fk2, fv2, nb2, ka2, kb2, sm2, ln2, fh2, ff2, fa2, fs2, fj2, fr2, fo2, fx2, rfl, hTb2, hKv2, hwk2⟩ := hT2
        exact lift_RCi (d_shared l D sz ox ob3 og oq ow ob ob2 cI cT tp ft tb ts tg tl tc tr tu tv tw sd da db pr cn fk fv nb ka kb sm ln fh ff fa fs fj fr fo fx tb2 ts2 tg2 tl2 tc2 tr2 tu2 tv2 tw2 sd2 da2 db2 pr2 cn2 fk2 fv2 nb2 ka2 kb2 sm2 ln2 fh2 ff2 fa2 fs2 fj2 fr2 fo2 fx2 k1 k2 z3 (Ls k1) (Ls k2) hk1 hft1 hk2 hft2 hTb hTb2 hKv hKv2) [0, 1] rfl (fun w h => List.mem_append_right _ (List.mem_append_right _ (List.mem_append_right _ (List.mem_append_right _ (h))))) ⟨(Nat.le_of_ble_eq_true rfl), (Nat.le_of_ble_eq_true rfl), (Nat.le_of_ble_eq_true rfl), (Nat.le_of_ble_eq_true rfl)⟩ ⟨(Nat.le_of_ble_eq_true rfl), (Nat.le_of_ble_eq_true rfl)⟩ (pf_cTU hk1 hk2 (fun e => hne e.symm) hwk hwk2 hpm) (fun r h => ⟨hC, h.trans (shA_m hk1 hk2 hth1 hth2).symm⟩)

def wp_m_join : List Cond := wp_n_joinNN ++ (wp_n_joinNS ++ (wp_n_joinSN ++ (wp_n_joinEQ ++ (wp_d_join))))
set_option maxHeartbeats 4000000 in
theorem m_join (l : Launch) (D : va_G) (sz : Nat) (adK adV : Nat → Nat) (cI cT : ClassId) (a0 : Nat) (tp : Nat) (bt : Nat → Nat) (ex : Nat → Bool) (Ls : Nat → List (Nat × Int32)) (W : va_W) (z1 : Int32) (z2 : Int32) (hC : CWd cI cT a0 tp bt ex Ls W) : Met l yX10_join wp_m_join ({ frames := 9, cells := 0, slots := 0, locals := 330 }) (PcWS D adK adV [.ref a0, .int z1, .int z2] sz W [(cI, .int), (cT, .object RX9)]) (va_Qi (fun r (u : va_W) => CWd cI cT a0 tp bt ex (jnS (thE ex z1) (thE ex z2) Ls z1 z2) u ∧ r = jnA (thE ex z1) (thE ex z2) Ls z1 z2) (QB D [(cI, .int), (cT, .object RX9)] W sz) (va_A W sz)) 0 0 (va_A W sz) := by
  obtain ⟨ox, ob3, og, oq, ow, ft, xt, xp, xi, xq, xm, wt, rfl, htp, ht9, hp9, hi9, hq9, hm9, hok9, hex9, hpm⟩ := id hC
  rcases pick hok9 z1 with hno1 | ⟨k1, b1, hk1, rfl, hft1, hT1⟩
  · rcases pick hok9 z2 with hno2 | ⟨k2, b2, hk2, rfl, hft2, hT2⟩
    · skip
      exact lift_RCi (n_joinNN l D sz ox ob3 og oq ow cI cT tp ft z1 z2 hno1 hno2) [1] rfl (fun w h => List.mem_append_left _ h) ⟨(Nat.le_of_ble_eq_true rfl), (Nat.le_of_ble_eq_true rfl), (Nat.le_of_ble_eq_true rfl), (Nat.le_of_ble_eq_true rfl)⟩ ⟨(Nat.le_of_ble_eq_true rfl), (Nat.le_of_ble_eq_true rfl)⟩ (pf_c hpm) (fun r h => ⟨hC.ls (jn_0 (fun q => hex9.nth hno1 q.1)).1.symm, h.trans (jn_0 (fun q => hex9.nth hno1 q.1)).2.symm⟩)
    · skip
      exact lift_RCi (n_joinNS l D sz ox ob3 og oq ow cI cT tp ft z1 k2 b2 hno1 hk2 hft2) [1] rfl (fun w h => List.mem_append_right _ (List.mem_append_left _ h)) ⟨(Nat.le_of_ble_eq_true rfl), (Nat.le_of_ble_eq_true rfl), (Nat.le_of_ble_eq_true rfl), (Nat.le_of_ble_eq_true rfl)⟩ ⟨(Nat.le_of_ble_eq_true rfl), (Nat.le_of_ble_eq_true rfl)⟩ (pf_c hpm) (fun r h => ⟨hC.ls (jn_0 (fun q => hex9.nth hno1 q.1)).1.symm, h.trans (jn_0 (fun q => hex9.nth hno1 q.1)).2.symm⟩)
  · rcases pick hok9 z2 with hno2 | ⟨k2, b2, hk2, rfl, hft2, hT2⟩
    · skip
      exact lift_RCi (n_joinSN l D sz ox ob3 og oq ow cI cT tp ft z2 k1 b1 hk1 hft1 hno2) [1] rfl (fun w h => List.mem_append_right _ (List.mem_append_right _ (List.mem_append_left _ h))) ⟨(Nat.le_of_ble_eq_true rfl), (Nat.le_of_ble_eq_true rfl), (Nat.le_of_ble_eq_true rfl), (Nat.le_of_ble_eq_true rfl)⟩ ⟨(Nat.le_of_ble_eq_true rfl), (Nat.le_of_ble_eq_true rfl)⟩ (pf_c hpm) (fun r h => ⟨hC.ls (jn_0 (fun q => hex9.nth hno2 q.2.1)).1.symm, h.trans (jn_0 (fun q => hex9.nth hno2 q.2.1)).2.symm⟩)
    · have hth1 := hex9.th hk1 hft1
      have hth2 := hex9.th hk2 hft2
      by_cases hne : k1 = k2
      · subst hne
        exact lift_RCi (n_joinEQ l D sz ox ob3 og oq ow cI cT tp ft k1 b1 hk1 hft1) [1] rfl (fun w h => List.mem_append_right _ (List.mem_append_right _ (List.mem_append_right _ (List.mem_append_left _ h)))) ⟨(Nat.le_of_ble_eq_true rfl), (Nat.le_of_ble_eq_true rfl), (Nat.le_of_ble_eq_true rfl), (Nat.le_of_ble_eq_true rfl)⟩ ⟨(Nat.le_of_ble_eq_true rfl), (Nat.le_of_ble_eq_true rfl)⟩ (pf_c hpm) (fun r h => ⟨hC.ls (jn_0 (fun q => q.2.2 rfl)).1.symm, h.trans (jn_0 (fun q => q.2.2 rfl)).2.symm⟩)
      · obtain ⟨ob, tb, ts, tg, tl, tc, tr, tu, tv, tw, sd, da, db, pr, cn, fk, fv, nb, ka, kb, sm, ln, fh, ff, fa, fs, fj, fr, fo, fx, rfl, hTb, hKv, hwk⟩ := hT1
        obtain ⟨ob2, tb2, ts2, tg2, tl2, tc2, tr2, tu2, tv2, tw2, sd2, da2, db2, pr2, cn2, fk2, fv2, nb2, ka2, kb2, sm2, ln2, fh2, ff2, fa2, fs2, fj2, fr2, fo2, fx2, rfl, hTb2, hKv2, hwk2⟩ := hT2
        exact lift_WCi (d_join l D sz ox ob3 og oq ow ob ob2 cI cT tp ft tb ts tg tl tc tr tu tv tw sd da db pr cn fk fv nb ka kb sm ln fh ff fa fs fj fr fo fx tb2 ts2 tg2 tl2 tc2 tr2 tu2 tv2 tw2 sd2 da2 db2 pr2 cn2 fk2 fv2 nb2 ka2 kb2 sm2 ln2 fh2 ff2 fa2 fs2 fj2 fr2 fo2 fx2 k1 k2 (Ls k1) (Ls k2) hk1 hft1 hk2 hft2 hne hTb hTb2 hKv hKv2) [0, 1] rfl (fun w h => List.mem_append_right _ (List.mem_append_right _ (List.mem_append_right _ (List.mem_append_right _ (h))))) ⟨(Nat.le_of_ble_eq_true rfl), (Nat.le_of_ble_eq_true rfl), (Nat.le_of_ble_eq_true rfl), (Nat.le_of_ble_eq_true rfl)⟩ ⟨(Nat.le_of_ble_eq_true rfl), (Nat.le_of_ble_eq_true rfl)⟩ (pf_cTU hk1 hk2 (fun e => hne e.symm) hwk hwk2 hpm) (fun r u h => ⟨CWd.ls (Ls := updS Ls k1 ((jnF (Ls k2) (Ls k1) 0).1)) ⟨ox, ob3, og, oq, ow, ft, _, _, _, _, _, _, rfl, htp, ht9, hp9, hi9, hq9, hm9, okW.set0 (okW.set hok9 hft1 ⟨ob, tb, ts, tg, u.1, u.2.1, tr, u.2.2.1, u.2.2.2.1, u.2.2.2.2.1, u.2.2.2.2.2.1, u.2.2.2.2.2.2.1, u.2.2.2.2.2.2.2.1, u.2.2.2.2.2.2.2.2.1, u.2.2.2.2.2.2.2.2.2.1, u.2.2.2.2.2.2.2.2.2.2.1, u.2.2.2.2.2.2.2.2.2.2.2.1, u.2.2.2.2.2.2.2.2.2.2.2.2.1, u.2.2.2.2.2.2.2.2.2.2.2.2.2.1, u.2.2.2.2.2.2.2.2.2.2.2.2.2.2.1, u.2.2.2.2.2.2.2.2.2.2.2.2.2.2.2.1, u.2.2.2.2.2.2.2.2.2.2.2.2.2.2.2.2.1, u.2.2.2.2.2.2.2.2.2.2.2.2.2.2.2.2.2.1, u.2.2.2.2.2.2.2.2.2.2.2.2.2.2.2.2.2.2.1, u.2.2.2.2.2.2.2.2.2.2.2.2.2.2.2.2.2.2.2.1, u.2.2.2.2.2.2.2.2.2.2.2.2.2.2.2.2.2.2.2.2.1, u.2.2.2.2.2.2.2.2.2.2.2.2.2.2.2.2.2.2.2.2.2.1, u.2.2.2.2.2.2.2.2.2.2.2.2.2.2.2.2.2.2.2.2.2.2.1, u.2.2.2.2.2.2.2.2.2.2.2.2.2.2.2.2.2.2.2.2.2.2.2.1, u.2.2.2.2.2.2.2.2.2.2.2.2.2.2.2.2.2.2.2.2.2.2.2.2, rfl, h.1, h.2.1, rfl⟩) hft2 ⟨ob2, tb2, ts2, tg2, tl2, tc2, tr2, tu2, tv2, tw2, sd2, da2, db2, pr2, cn2, fk2, fv2, nb2, ka2, kb2, sm2, ln2, fh2, ff2, fa2, fs2, fj2, fr2, fo2, fx2, rfl, hTb2, (by rw [updS_n (fun e => hne e.symm)]; exact hKv2), rfl⟩, hex9, List.Perm.symm (pr_cTU hk1 hk2 (fun e => hne e.symm))⟩ (jn_1 hk1 hk2 hth1 hth2 hne).1.symm, h.2.2.trans (jn_1 hk1 hk2 hth1 hth2 hne).2.symm⟩)

def wp_m_cut : List Cond := wp_n_cutNN ++ (wp_n_cutNS ++ (wp_n_cutSN ++ (wp_n_cutEQ ++ (wp_d_cut))))
set_option maxHeartbeats 4000000 in
theorem m_cut (l : Launch) (D : va_G) (sz : Nat) (adK adV : Nat → Nat) (cI cT : ClassId) (a0 : Nat) (tp : Nat) (bt : Nat → Nat) (ex : Nat → Bool) (Ls : Nat → List (Nat × Int32)) (W : va_W) (z1 : Int32) (z2 : Int32) (z3 : Int32) (hC : CWd cI cT a0 tp bt ex Ls W) : Met l yX10_cut wp_m_cut ({ frames := 9, cells := 0, slots := 0, locals := 330 }) (PcWS D adK adV [.ref a0, .int z1, .int z2, .int z3] sz W [(cI, .int), (cT, .object RX9)]) (va_Qi (fun r (u : va_W) => CWd cI cT a0 tp bt ex (ctS (thE ex z1) (thE ex z2) Ls z1 z2 z3) u ∧ r = ctA (thE ex z1) (thE ex z2) Ls z1 z2 z3) (QB D [(cI, .int), (cT, .object RX9)] W sz) (va_A W sz)) 0 0 (va_A W sz) := by
  obtain ⟨ox, ob3, og, oq, ow, ft, xt, xp, xi, xq, xm, wt, rfl, htp, ht9, hp9, hi9, hq9, hm9, hok9, hex9, hpm⟩ := id hC
  rcases pick hok9 z1 with hno1 | ⟨k1, b1, hk1, rfl, hft1, hT1⟩
  · rcases pick hok9 z2 with hno2 | ⟨k2, b2, hk2, rfl, hft2, hT2⟩
    · skip
      exact lift_RCi (n_cutNN l D sz ox ob3 og oq ow cI cT tp ft z1 z2 z3 hno1 hno2) [1] rfl (fun w h => List.mem_append_left _ h) ⟨(Nat.le_of_ble_eq_true rfl), (Nat.le_of_ble_eq_true rfl), (Nat.le_of_ble_eq_true rfl), (Nat.le_of_ble_eq_true rfl)⟩ ⟨(Nat.le_of_ble_eq_true rfl), (Nat.le_of_ble_eq_true rfl)⟩ (pf_c hpm) (fun r h => ⟨hC.ls (ct_0 (fun q => hex9.nth hno1 q.1)).1.symm, h.trans (ct_0 (fun q => hex9.nth hno1 q.1)).2.symm⟩)
    · skip
      exact lift_RCi (n_cutNS l D sz ox ob3 og oq ow cI cT tp ft z1 z3 k2 b2 hno1 hk2 hft2) [1] rfl (fun w h => List.mem_append_right _ (List.mem_append_left _ h)) ⟨(Nat.le_of_ble_eq_true rfl), (Nat.le_of_ble_eq_true rfl), (Nat.le_of_ble_eq_true rfl), (Nat.le_of_ble_eq_true rfl)⟩ ⟨(Nat.le_of_ble_eq_true rfl), (Nat.le_of_ble_eq_true rfl)⟩ (pf_c hpm) (fun r h => ⟨hC.ls (ct_0 (fun q => hex9.nth hno1 q.1)).1.symm, h.trans (ct_0 (fun q => hex9.nth hno1 q.1)).2.symm⟩)
  · rcases pick hok9 z2 with hno2 | ⟨k2, b2, hk2, rfl, hft2, hT2⟩
    · skip
      exact lift_RCi (n_cutSN l D sz ox ob3 og oq ow cI cT tp ft z2 z3 k1 b1 hk1 hft1 hno2) [1] rfl (fun w h => List.mem_append_right _ (List.mem_append_right _ (List.mem_append_left _ h))) ⟨(Nat.le_of_ble_eq_true rfl), (Nat.le_of_ble_eq_true rfl), (Nat.le_of_ble_eq_true rfl), (Nat.le_of_ble_eq_true rfl)⟩ ⟨(Nat.le_of_ble_eq_true rfl), (Nat.le_of_ble_eq_true rfl)⟩ (pf_c hpm) (fun r h => ⟨hC.ls (ct_0 (fun q => hex9.nth hno2 q.2.1)).1.symm, h.trans (ct_0 (fun q => hex9.nth hno2 q.2.1)).2.symm⟩)
    · have hth1 := hex9.th hk1 hft1
      have hth2 := hex9.th hk2 hft2
      by_cases hne : k1 = k2
      · subst hne
        exact lift_RCi (n_cutEQ l D sz ox ob3 og oq ow cI cT tp ft z3 k1 b1 hk1 hft1) [1] rfl (fun w h => List.mem_append_right _ (List.mem_append_right _ (List.mem_append_right _ (List.mem_append_left _ h)))) ⟨(Nat.le_of_ble_eq_true rfl), (Nat.le_of_ble_eq_true rfl), (Nat.le_of_ble_eq_true rfl), (Nat.le_of_ble_eq_true rfl)⟩ ⟨(Nat.le_of_ble_eq_true rfl), (Nat.le_of_ble_eq_true rfl)⟩ (pf_c hpm) (fun r h => ⟨hC.ls (ct_0 (fun q => q.2.2 rfl)).1.symm, h.trans (ct_0 (fun q => q.2.2 rfl)).2.symm⟩)
      · obtain ⟨ob, tb, ts, tg, tl, tc, tr, tu, tv, tw, sd, da, db, pr, cn, fk, fv, nb, ka, kb, sm, ln, fh, ff, fa, fs, fj, fr, fo, fx, rfl, hTb, hKv, hwk⟩ := hT1
        obtain ⟨ob2, tb2, ts2, tg2, tl2, tc2, tr2, tu2, tv2, tw2, sd2, da2, db2, pr2, cn2, fk2, fv2, nb2, ka2, kb2, sm2, ln2, fh2, ff2, fa2, fs2, fj2, fr2, fo2, fx2, rfl, hTb2, hKv2, hwk2⟩ := hT2
        exact lift_WCi (d_cut l D sz ox ob3 og oq ow ob ob2 cI cT tp ft tb ts tg tl tc tr tu tv tw sd da db pr cn fk fv nb ka kb sm ln fh ff fa fs fj fr fo fx tb2 ts2 tg2 tl2 tc2 tr2 tu2 tv2 tw2 sd2 da2 db2 pr2 cn2 fk2 fv2 nb2 ka2 kb2 sm2 ln2 fh2 ff2 fa2 fs2 fj2 fr2 fo2 fx2 k1 k2 z3 (Ls k1) (Ls k2) hk1 hft1 hk2 hft2 hne hTb hTb2 hKv hKv2) [0, 1] rfl (fun w h => List.mem_append_right _ (List.mem_append_right _ (List.mem_append_right _ (List.mem_append_right _ (h))))) ⟨(Nat.le_of_ble_eq_true rfl), (Nat.le_of_ble_eq_true rfl), (Nat.le_of_ble_eq_true rfl), (Nat.le_of_ble_eq_true rfl)⟩ ⟨(Nat.le_of_ble_eq_true rfl), (Nat.le_of_ble_eq_true rfl)⟩ (pf_cTU hk1 hk2 (fun e => hne e.symm) hwk hwk2 hpm) (fun r u h => ⟨CWd.ls (Ls := updS Ls k1 (ctF (Ls k1) (Ls k2) z3)) ⟨ox, ob3, og, oq, ow, ft, _, _, _, _, _, _, rfl, htp, ht9, hp9, hi9, hq9, hm9, okW.set0 (okW.set hok9 hft1 ⟨ob, tb, ts, tg, u.1, u.2.1, tr, u.2.2.1, u.2.2.2.1, u.2.2.2.2.1, u.2.2.2.2.2.1, u.2.2.2.2.2.2.1, u.2.2.2.2.2.2.2.1, u.2.2.2.2.2.2.2.2.1, u.2.2.2.2.2.2.2.2.2.1, u.2.2.2.2.2.2.2.2.2.2.1, u.2.2.2.2.2.2.2.2.2.2.2.1, u.2.2.2.2.2.2.2.2.2.2.2.2.1, u.2.2.2.2.2.2.2.2.2.2.2.2.2.1, u.2.2.2.2.2.2.2.2.2.2.2.2.2.2.1, u.2.2.2.2.2.2.2.2.2.2.2.2.2.2.2.1, u.2.2.2.2.2.2.2.2.2.2.2.2.2.2.2.2.1, u.2.2.2.2.2.2.2.2.2.2.2.2.2.2.2.2.2.1, u.2.2.2.2.2.2.2.2.2.2.2.2.2.2.2.2.2.2.1, u.2.2.2.2.2.2.2.2.2.2.2.2.2.2.2.2.2.2.2.1, u.2.2.2.2.2.2.2.2.2.2.2.2.2.2.2.2.2.2.2.2.1, u.2.2.2.2.2.2.2.2.2.2.2.2.2.2.2.2.2.2.2.2.2.1, u.2.2.2.2.2.2.2.2.2.2.2.2.2.2.2.2.2.2.2.2.2.2.1, u.2.2.2.2.2.2.2.2.2.2.2.2.2.2.2.2.2.2.2.2.2.2.2.1, u.2.2.2.2.2.2.2.2.2.2.2.2.2.2.2.2.2.2.2.2.2.2.2.2, rfl, h.1, h.2.1, rfl⟩) hft2 ⟨ob2, tb2, ts2, tg2, tl2, tc2, tr2, tu2, tv2, tw2, sd2, da2, db2, pr2, cn2, fk2, fv2, nb2, ka2, kb2, sm2, ln2, fh2, ff2, fa2, fs2, fj2, fr2, fo2, fx2, rfl, hTb2, (by rw [updS_n (fun e => hne e.symm)]; exact hKv2), rfl⟩, hex9, List.Perm.symm (pr_cTU hk1 hk2 (fun e => hne e.symm))⟩ (ct_1 hk1 hk2 hth1 hth2 hne).1.symm, h.2.2.trans (ct_1 hk1 hk2 hth1 hth2 hne).2.symm⟩)

def wp_m_copy : List Cond := wp_n_copyN ++ (wp_d_copy ++ (wp_n_copyB))
set_option maxHeartbeats 4000000 in
theorem m_copy (l : Launch) (D : va_G) (sz : Nat) (adK adV : Nat → Nat) (cI cT : ClassId) (a0 : Nat) (tp : Nat) (bt : Nat → Nat) (ex : Nat → Bool) (Ls : Nat → List (Nat × Int32)) (W : va_W) (z1 : Int32) (z2 : Int32) (hC : CWd cI cT a0 tp bt ex Ls W) (hn : ¬ cpNew ex z1 z2) : Met l yX10_copy wp_m_copy ({ frames := 3, cells := 0, slots := 0, locals := 82 }) (PcWS D adK adV [.ref a0, .int z1, .int z2] sz W [(cI, .int), (cT, .object RX9)]) (va_Qi (fun r (u : va_W) => CWd cI cT a0 tp bt (cpX ex z1 z2) (cpS (cpC ex z1 z2) Ls z1 z2) u ∧ r = cpA ex z1 z2) (QB D [(cI, .int), (cT, .object RX9)] W sz) (va_A W sz)) 0 0 (va_A W sz) := by
  obtain ⟨ox, ob3, og, oq, ow, ft, xt, xp, xi, xq, xm, wt, rfl, htp, ht9, hp9, hi9, hq9, hm9, hok9, hex9, hpm⟩ := id hC
  rcases pick hok9 z2 with hno2 | ⟨k2, b2, hk2, rfl, hft2, hT2⟩
  · skip
    exact lift_RCi (n_copyN l D sz ox ob3 og oq ow cI cT tp ft z1 z2 hno2) [1] rfl (fun w h => List.mem_append_left _ h) ⟨(Nat.le_of_ble_eq_true rfl), (Nat.le_of_ble_eq_true rfl), (Nat.le_of_ble_eq_true rfl), (Nat.le_of_ble_eq_true rfl)⟩ ⟨(Nat.le_of_ble_eq_true rfl), (Nat.le_of_ble_eq_true rfl)⟩ (pf_c hpm) (fun r h => by
      have hc9 : ¬ cpC ex z1 z2 := fun q => hex9.nth hno2 q.2.1
      rw [cpS_0 hc9, (cp_0 hc9).1, (cp_0 hc9).2]
      exact ⟨hC, h⟩)
  · by_cases hz : ((0 : Int32) ≤ z1 ∧ z1 < 4) ∧ z1 ≠ nI k2
    · obtain ⟨k, hk, rfl⟩ := in04 hz.1
      have hne : k ≠ k2 := fun e => hz.2 (by rw [e])
      have hc9 : cpC ex (nI k) (nI k2) := ⟨hz.1, hex9.th hk2 hft2, hz.2⟩
      obtain ⟨ob2, tb2, ts2, tg2, tl2, tc2, tr2, tu2, tv2, tw2, sd2, da2, db2, pr2, cn2, fk2, fv2, nb2, ka2, kb2, sm2, ln2, fh2, ff2, fa2, fs2, fj2, fr2, fo2, fx2, rfl, hTb2, hKv2, hwk2⟩ := hT2
      rcases hok9 k hk with ⟨hft0, hv, hv0⟩ | ⟨b, hft, hT⟩
      · exact absurd ⟨hc9, hex9.nth (fun j hj e => by obtain rfl := (nI_eq (by omega) (by omega)).mp e; exact hft0)⟩ hn
      · obtain ⟨ob, tb, ts, tg, tl, tc, tr, tu, tv, tw, sd, da, db, pr, cn, fk, fv, nb, ka, kb, sm, ln, fh, ff, fa, fs, fj, fr, fo, fx, rfl, hTb, hKv, hwk⟩ := hT
        exact lift_WCi (d_copy l D sz ox ob3 og oq ow ob ob2 cI cT tp ft tb ts tg tl tc tr tu tv tw sd da db pr cn fk fv nb ka kb sm ln fh ff fa fs fj fr fo fx tb2 ts2 tg2 tl2 tc2 tr2 tu2 tv2 tw2 sd2 da2 db2 pr2 cn2 fk2 fv2 nb2 ka2 kb2 sm2 ln2 fh2 ff2 fa2 fs2 fj2 fr2 fo2 fx2 k k2 (Ls k2) hk hft hk2 hft2 hne hTb hTb2 hKv2) [0, 1] rfl (fun w h => List.mem_append_right _ (List.mem_append_left _ h)) ⟨(Nat.le_of_ble_eq_true rfl), (Nat.le_of_ble_eq_true rfl), (Nat.le_of_ble_eq_true rfl), (Nat.le_of_ble_eq_true rfl)⟩ ⟨(Nat.le_of_ble_eq_true rfl), (Nat.le_of_ble_eq_true rfl)⟩ (pf_cTU hk hk2 (fun e => hne e.symm) hwk hwk2 hpm) (fun r u h => by
          rw [cpS_1 hk hk2 hc9, (cp_1 hc9).1, (cp_1 hc9).2]
          exact ⟨⟨ox, ob3, og, oq, ow, ft, _, _, _, _, _, _, rfl, htp, ht9, hp9, hi9, hq9, hm9, okW.set0 (okW.set hok9 hft ⟨ob, u.1, u.2.1, u.2.2.1, u.2.2.2.2.2.2.2.2.2.2.1, u.2.2.2.2.2.2.2.2.2.2.2.1, u.2.2.2.1, u.2.2.2.2.1, u.2.2.2.2.2.1, u.2.2.2.2.2.2.1, u.2.2.2.2.2.2.2.1, da, db, u.2.2.2.2.2.2.2.2.1, u.2.2.2.2.2.2.2.2.2.1, u.2.2.2.2.2.2.2.2.2.2.2.2.1, u.2.2.2.2.2.2.2.2.2.2.2.2.2.1, u.2.2.2.2.2.2.2.2.2.2.2.2.2.2.1, u.2.2.2.2.2.2.2.2.2.2.2.2.2.2.2.1, u.2.2.2.2.2.2.2.2.2.2.2.2.2.2.2.2.1, u.2.2.2.2.2.2.2.2.2.2.2.2.2.2.2.2.2.1, u.2.2.2.2.2.2.2.2.2.2.2.2.2.2.2.2.2.2.1, u.2.2.2.2.2.2.2.2.2.2.2.2.2.2.2.2.2.2.2.1, u.2.2.2.2.2.2.2.2.2.2.2.2.2.2.2.2.2.2.2.2.1, u.2.2.2.2.2.2.2.2.2.2.2.2.2.2.2.2.2.2.2.2.2.1, u.2.2.2.2.2.2.2.2.2.2.2.2.2.2.2.2.2.2.2.2.2.2.1, u.2.2.2.2.2.2.2.2.2.2.2.2.2.2.2.2.2.2.2.2.2.2.2.1, u.2.2.2.2.2.2.2.2.2.2.2.2.2.2.2.2.2.2.2.2.2.2.2.2, fo, fx, rfl, h.2.1, h.2.2, rfl⟩) hft2 ⟨ob2, tb2, ts2, tg2, tl2, tc2, tr2, tu2, tv2, tw2, sd2, da2, db2, pr2, cn2, fk2, fv2, nb2, ka2, kb2, sm2, ln2, fh2, ff2, fa2, fs2, fj2, fr2, fo2, fx2, rfl, hTb2, (by rw [updS_n (fun e => hne e.symm)]; exact hKv2), rfl⟩, hex9.old hk hft, List.Perm.symm (pr_cTU hk hk2 (fun e => hne e.symm))⟩, h.1⟩)
    · have hb9 : ¬ ((0 : Int32) ≤ z1 ∧ z1 < 4) ∨ z1 = nI k2 := by
        by_cases h1 : (0 : Int32) ≤ z1 ∧ z1 < 4
        · by_cases h2 : z1 = nI k2
          · exact Or.inr h2
          · exact absurd ⟨h1, h2⟩ hz
        · exact Or.inl h1
      exact lift_RCi (n_copyB l D sz ox ob3 og oq ow cI cT tp ft z1 k2 b2 hk2 hft2 hb9) [1] rfl (fun w h => List.mem_append_right _ (List.mem_append_right _ (h))) ⟨(Nat.le_of_ble_eq_true rfl), (Nat.le_of_ble_eq_true rfl), (Nat.le_of_ble_eq_true rfl), (Nat.le_of_ble_eq_true rfl)⟩ ⟨(Nat.le_of_ble_eq_true rfl), (Nat.le_of_ble_eq_true rfl)⟩ (pf_c hpm) (fun r h => by
        have hc9 : ¬ cpC ex z1 (nI k2) := fun q => hz ⟨q.1, q.2.2⟩
        rw [cpS_0 hc9, (cp_0 hc9).1, (cp_0 hc9).2]
        exact ⟨hC, h⟩)

def wp_m_copyW : List Cond := wp_w_copy
set_option maxHeartbeats 4000000 in
theorem m_copyW (l : Launch) (D : va_G) (sz : Nat) (adK adV : Nat → Nat) (cI cT : ClassId) (a0 : Nat) (tp : Nat) (bt : Nat → Nat) (ex : Nat → Bool) (Ls : Nat → List (Nat × Int32)) (W : va_W) (z1 : Int32) (z2 : Int32) (hC : CWd cI cT a0 tp bt ex Ls W) (hn : cpNew ex z1 z2) : Met l yX10_copy wp_m_copyW ({ frames := 4, cells := 14, slots := 11072, locals := 82 }) (PcWS D adK adV [.ref a0, .int z1, .int z2] sz W [(cI, .int), (cT, .object RX9)]) (va_Qi (fun r (u : va_W) => CWd cI cT a0 tp bt (cpX ex z1 z2) (cpS (cpC ex z1 z2) Ls z1 z2) u ∧ r = cpA ex z1 z2) (QB D [(cI, .int), (cT, .object RX9)] W sz) (va_A W sz)) 14 11072 (va_A W sz) := by
  obtain ⟨ox, ob3, og, oq, ow, ft, xt, xp, xi, xq, xm, wt, rfl, htp, ht9, hp9, hi9, hq9, hm9, hok9, hex9, hpm⟩ := id hC
  rcases pick hok9 z2 with hno2 | ⟨k2, b2, hk2, rfl, hft2, hT2⟩
  · exact absurd hn.1.2.1 (hex9.nth hno2)
  · by_cases hz : ((0 : Int32) ≤ z1 ∧ z1 < 4) ∧ z1 ≠ nI k2
    · obtain ⟨k, hk, rfl⟩ := in04 hz.1
      have hne : k ≠ k2 := fun e => hz.2 (by rw [e])
      have hc9 : cpC ex (nI k) (nI k2) := ⟨hz.1, hex9.th hk2 hft2, hz.2⟩
      obtain ⟨ob2, tb2, ts2, tg2, tl2, tc2, tr2, tu2, tv2, tw2, sd2, da2, db2, pr2, cn2, fk2, fv2, nb2, ka2, kb2, sm2, ln2, fh2, ff2, fa2, fs2, fj2, fr2, fo2, fx2, rfl, hTb2, hKv2, hwk2⟩ := hT2
      rcases hok9 k hk with ⟨hft0, hv, hv0⟩ | ⟨b, hft, hT⟩
      · skip
        exact lift_WCi (w_copy l D sz ox ob3 og oq ow ob2 cI cT tp ft tb2 ts2 tg2 tl2 tc2 tr2 tu2 tv2 tw2 sd2 da2 db2 pr2 cn2 fk2 fv2 nb2 ka2 kb2 sm2 ln2 fh2 ff2 fa2 fs2 fj2 fr2 fo2 fx2 k k2 (Ls k2) hk hft0 hk2 hft2 hne hTb2 hKv2) [0, 1] rfl (fun w h => h) ⟨(Nat.le_of_ble_eq_true rfl), (Nat.le_of_ble_eq_true rfl), (Nat.le_of_ble_eq_true rfl), (Nat.le_of_ble_eq_true rfl)⟩ ⟨(Nat.le_of_ble_eq_true rfl), (Nat.le_of_ble_eq_true rfl)⟩ (pf_cTz hk2 hk hne hwk2 hv hpm) (fun r u h => by
          rw [cpS_1 hk hk2 hc9, (cp_1 hc9).1, (cp_1 hc9).2]
          exact ⟨⟨ox, ob3, og, oq, ow, (va_up ft k (some (u.1 0))), _, _, _, _, _, _, rfl, htp, ht9, hp9, hi9, hq9, hm9, okW.new (okW.set0 hok9 hft2 ⟨ob2, tb2, ts2, tg2, tl2, tc2, tr2, tu2, tv2, tw2, sd2, da2, db2, pr2, cn2, fk2, fv2, nb2, ka2, kb2, sm2, ln2, fh2, ff2, fa2, fs2, fj2, fr2, fo2, fx2, rfl, hTb2, hKv2, rfl⟩) ⟨u.1, u.2.1, u.2.2.1, u.2.2.2.1, u.2.2.2.2.2.2.2.2.2.2.2.1, u.2.2.2.2.2.2.2.2.2.2.2.2.1, u.2.2.2.2.1, u.2.2.2.2.2.1, u.2.2.2.2.2.2.1, u.2.2.2.2.2.2.2.1, u.2.2.2.2.2.2.2.2.1, 0, 0, u.2.2.2.2.2.2.2.2.2.1, u.2.2.2.2.2.2.2.2.2.2.1, u.2.2.2.2.2.2.2.2.2.2.2.2.2.1, u.2.2.2.2.2.2.2.2.2.2.2.2.2.2.1, u.2.2.2.2.2.2.2.2.2.2.2.2.2.2.2.1, u.2.2.2.2.2.2.2.2.2.2.2.2.2.2.2.2.1, u.2.2.2.2.2.2.2.2.2.2.2.2.2.2.2.2.2.1, u.2.2.2.2.2.2.2.2.2.2.2.2.2.2.2.2.2.2.1, u.2.2.2.2.2.2.2.2.2.2.2.2.2.2.2.2.2.2.2.1, u.2.2.2.2.2.2.2.2.2.2.2.2.2.2.2.2.2.2.2.2.1, u.2.2.2.2.2.2.2.2.2.2.2.2.2.2.2.2.2.2.2.2.2.1, u.2.2.2.2.2.2.2.2.2.2.2.2.2.2.2.2.2.2.2.2.2.2.1, u.2.2.2.2.2.2.2.2.2.2.2.2.2.2.2.2.2.2.2.2.2.2.2.1, u.2.2.2.2.2.2.2.2.2.2.2.2.2.2.2.2.2.2.2.2.2.2.2.2.1, u.2.2.2.2.2.2.2.2.2.2.2.2.2.2.2.2.2.2.2.2.2.2.2.2.2, (fun _ => 0), (fun _ => 0), rfl, h.2.1, h.2.2, rfl⟩, hex9.new hk, List.Perm.symm (pr_cTU hk2 hk hne)⟩, h.1⟩)
      · exact absurd (hex9.th hk hft) hn.2
    · exact absurd ⟨hn.1.1, hn.1.2.2⟩ hz

