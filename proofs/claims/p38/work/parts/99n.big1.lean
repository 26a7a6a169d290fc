theorem pf_cz {W c t p i q m : va_W} {wt : Nat → va_W} {k : Nat} (hk : k < 4) (hv : wt k = []) (hp : W.Perm (catw c t p i q m wt)) : W.Perm (c ++ (t ++ (p ++ (i ++ (q ++ (m ++ (othr (upW wt k [])))))))) := by
  have h := pf_cT hk hv hp
  rwa [List.append_nil] at h
theorem pf_ctz {W c t p i q m : va_W} {wt : Nat → va_W} {k : Nat} (hk : k < 4) (hv : wt k = []) (hp : W.Perm (catw c t p i q m wt)) : W.Perm ((c ++ t) ++ (p ++ (i ++ (q ++ (m ++ (othr (upW wt k []))))))) := by
  have h := pf_ctT hk hv hp
  rwa [List.append_nil] at h
theorem pf_cTz {W c t p i q m : va_W} {wt : Nat → va_W} {k j : Nat} {w : va_W} (hk : k < 4) (hj : j < 4) (hn : j ≠ k) (hw : wt k = w) (hv : wt j = []) (hp : W.Perm (catw c t p i q m wt)) : W.Perm ((c ++ w) ++ (t ++ (p ++ (i ++ (q ++ (m ++ (othr (upW (upW wt k []) j [])))))))) := by
  have h := pf_cTU hk hj hn hw hv hp
  rwa [List.append_nil] at h
def wp_m_put : List Cond := wp_n_put ++ (wp_s_put)
set_option maxHeartbeats 4000000 in
theorem m_put (l : Launch) (D : va_G) (sz : Nat) (adK adV : Nat → Nat) (cI cT : ClassId) (a0 : Nat) (tp : Nat) (bt : Nat → Nat) (ex : Nat → Bool) (Ls : Nat → List (Nat × Int32)) (W : va_W) (z1 : Int32) (z2 : Int32) (z3 : Int32) (hC : CWd cI cT a0 tp bt ex Ls W) : Met l yX10_put wp_m_put ({ frames := 6, cells := 0, slots := 0, locals := 208 }) (PcWS D adK adV [.ref a0, .int z1, .int z2, .int z3] sz W [(cI, .int), (cT, .object RX9)]) (va_Qi (fun r (u : va_W) => CWd cI cT a0 tp bt ex (putS (thE ex z1) Ls z1 z2 z3) u) (QB D [(cI, .int), (cT, .object RX9)] W sz) (va_A W sz)) 0 0 (va_A W sz) := by
  obtain ⟨ox, ob3, og, oq, ow, ft, xt, xp, xi, xq, xm, wt, rfl, htp, ht9, hp9, hi9, hq9, hm9, hok9, hex9, hpm⟩ := id hC
  rcases pick hok9 z1 with hno | ⟨k, b, hk, rfl, hft, hT⟩
  · skip
    exact lift_RCi (n_put l D sz ox ob3 og oq ow cI cT tp ft z1 z2 z3 hno) [1] rfl (fun w h => List.mem_append_left _ h) ⟨(Nat.le_of_ble_eq_true rfl), (Nat.le_of_ble_eq_true rfl), (Nat.le_of_ble_eq_true rfl), (Nat.le_of_ble_eq_true rfl)⟩ ⟨(Nat.le_of_ble_eq_true rfl), (Nat.le_of_ble_eq_true rfl)⟩ (pf_c hpm) (fun r _ => hC.ls (putS_0 (fun q => (hex9.nth hno) q.1)).symm)
  · obtain ⟨ob, tb, ts, tg, tl, tc, tr, tu, tv, tw, sd, da, db, pr, cn, fk, fv, nb, ka, kb, sm, ln, fh, ff, fa, fs, fj, fr, fo, fx, rfl, hTb, hKv, hwk⟩ := hT
    have hth := hex9.th hk hft
    exact lift_WCi (s_put l D sz ox ob3 og oq ow ob cI cT tp ft tb ts tg tl tc tr tu tv tw sd da db pr cn fk fv nb ka kb sm ln fh ff fa fs fj fr fo fx k z2 z3 (Ls k) hk hft hTb hKv) [0, 1] rfl (fun w h => List.mem_append_right _ (h)) ⟨(Nat.le_of_ble_eq_true rfl), (Nat.le_of_ble_eq_true rfl), (Nat.le_of_ble_eq_true rfl), (Nat.le_of_ble_eq_true rfl)⟩ ⟨(Nat.le_of_ble_eq_true rfl), (Nat.le_of_ble_eq_true rfl)⟩ (pf_cT hk hwk hpm) (fun r u h => CWd.ls (Ls := updS Ls k (putS True (fun _ => Ls k) (nI k) z2 z3 k)) ⟨ox, ob3, og, oq, ow, ft, _, _, _, _, _, _, rfl, htp, ht9, hp9, hi9, hq9, hm9, okW.set hok9 hft ⟨ob, tb, ts, tg, u.2.1, u.2.2.1, u.1, u.2.2.2.1, u.2.2.2.2.1, u.2.2.2.2.2.1, u.2.2.2.2.2.2.1, u.2.2.2.2.2.2.2.1, u.2.2.2.2.2.2.2.2.1, u.2.2.2.2.2.2.2.2.2.1, u.2.2.2.2.2.2.2.2.2.2.1, u.2.2.2.2.2.2.2.2.2.2.2.1, u.2.2.2.2.2.2.2.2.2.2.2.2.1, u.2.2.2.2.2.2.2.2.2.2.2.2.2.1, u.2.2.2.2.2.2.2.2.2.2.2.2.2.2.1, u.2.2.2.2.2.2.2.2.2.2.2.2.2.2.2.1, u.2.2.2.2.2.2.2.2.2.2.2.2.2.2.2.2.1, u.2.2.2.2.2.2.2.2.2.2.2.2.2.2.2.2.2.1, u.2.2.2.2.2.2.2.2.2.2.2.2.2.2.2.2.2.2.1, u.2.2.2.2.2.2.2.2.2.2.2.2.2.2.2.2.2.2.2.1, u.2.2.2.2.2.2.2.2.2.2.2.2.2.2.2.2.2.2.2.2.1, u.2.2.2.2.2.2.2.2.2.2.2.2.2.2.2.2.2.2.2.2.2.1, u.2.2.2.2.2.2.2.2.2.2.2.2.2.2.2.2.2.2.2.2.2.2.1, u.2.2.2.2.2.2.2.2.2.2.2.2.2.2.2.2.2.2.2.2.2.2.2.1, u.2.2.2.2.2.2.2.2.2.2.2.2.2.2.2.2.2.2.2.2.2.2.2.2.1, u.2.2.2.2.2.2.2.2.2.2.2.2.2.2.2.2.2.2.2.2.2.2.2.2.2, rfl, h.1, h.2, rfl⟩, hex9, List.Perm.symm (pr_cT hk)⟩ (putS_m hk hth))

def wp_m_get : List Cond := wp_n_get ++ (wp_s_get)
set_option maxHeartbeats 4000000 in
theorem m_get (l : Launch) (D : va_G) (sz : Nat) (adK adV : Nat → Nat) (cI cT : ClassId) (a0 : Nat) (tp : Nat) (bt : Nat → Nat) (ex : Nat → Bool) (Ls : Nat → List (Nat × Int32)) (W : va_W) (z1 : Int32) (z2 : Int32) (hC : CWd cI cT a0 tp bt ex Ls W) : Met l yX10_get wp_m_get ({ frames := 3, cells := 0, slots := 0, locals := 65 }) (PcWS D adK adV [.ref a0, .int z1, .int z2] sz W [(cI, .int), (cT, .object RX9)]) (va_Ql (fun r (u : va_W) => CWd cI cT a0 tp bt ex Ls u ∧ r = getA (thE ex z1) Ls z1 z2) (QB D [(cI, .int), (cT, .object RX9)] W sz) (va_A W sz)) 0 0 (va_A W sz) := by
  obtain ⟨ox, ob3, og, oq, ow, ft, xt, xp, xi, xq, xm, wt, rfl, htp, ht9, hp9, hi9, hq9, hm9, hok9, hex9, hpm⟩ := id hC
  rcases pick hok9 z1 with hno | ⟨k, b, hk, rfl, hft, hT⟩
  · skip
    exact lift_RCl (n_get l D sz ox ob3 og oq ow cI cT tp ft z1 z2 hno) [1] rfl (fun w h => List.mem_append_left _ h) ⟨(Nat.le_of_ble_eq_true rfl), (Nat.le_of_ble_eq_true rfl), (Nat.le_of_ble_eq_true rfl), (Nat.le_of_ble_eq_true rfl)⟩ ⟨(Nat.le_of_ble_eq_true rfl), (Nat.le_of_ble_eq_true rfl)⟩ (pf_c hpm) (fun r h => ⟨hC, h.trans (getA_0 (fun q => (hex9.nth hno) q.1)).symm⟩)
  · obtain ⟨ob, tb, ts, tg, tl, tc, tr, tu, tv, tw, sd, da, db, pr, cn, fk, fv, nb, ka, kb, sm, ln, fh, ff, fa, fs, fj, fr, fo, fx, rfl, hTb, hKv, hwk⟩ := hT
    have hth := hex9.th hk hft
    exact lift_WCl (s_get l D sz ox ob3 og oq ow ob cI cT tp ft tb ts tg tl tc tr tu tv tw sd da db pr cn fk fv nb ka kb sm ln fh ff fa fs fj fr fo fx k z2 (Ls k) hk hft hTb hKv) [0, 1] rfl (fun w h => List.mem_append_right _ (h)) ⟨(Nat.le_of_ble_eq_true rfl), (Nat.le_of_ble_eq_true rfl), (Nat.le_of_ble_eq_true rfl), (Nat.le_of_ble_eq_true rfl)⟩ ⟨(Nat.le_of_ble_eq_true rfl), (Nat.le_of_ble_eq_true rfl)⟩ (pf_cT hk hwk hpm) (fun r u h => ⟨⟨ox, ob3, og, oq, ow, ft, _, _, _, _, _, _, rfl, htp, ht9, hp9, hi9, hq9, hm9, okW.set0 hok9 hft ⟨ob, tb, ts, tg, tl, tc, u, tu, tv, tw, sd, da, db, pr, cn, fk, fv, nb, ka, kb, sm, ln, fh, ff, fa, fs, fj, fr, fo, fx, rfl, hTb, hKv, rfl⟩, hex9, List.Perm.symm (pr_cT hk)⟩, h.trans (getA_m hk hth).symm⟩)

def wp_m_drop : List Cond := wp_n_drop ++ (wp_s_drop)
set_option maxHeartbeats 4000000 in
theorem m_drop (l : Launch) (D : va_G) (sz : Nat) (adK adV : Nat → Nat) (cI cT : ClassId) (a0 : Nat) (tp : Nat) (bt : Nat → Nat) (ex : Nat → Bool) (Ls : Nat → List (Nat × Int32)) (W : va_W) (z1 : Int32) (z2 : Int32) (hC : CWd cI cT a0 tp bt ex Ls W) : Met l yX10_drop wp_m_drop ({ frames := 6, cells := 0, slots := 0, locals := 205 }) (PcWS D adK adV [.ref a0, .int z1, .int z2] sz W [(cI, .int), (cT, .object RX9)]) (va_Qi (fun r (u : va_W) => CWd cI cT a0 tp bt ex (drpS (thE ex z1) Ls z1 z2) u) (QB D [(cI, .int), (cT, .object RX9)] W sz) (va_A W sz)) 0 0 (va_A W sz) := by
  obtain ⟨ox, ob3, og, oq, ow, ft, xt, xp, xi, xq, xm, wt, rfl, htp, ht9, hp9, hi9, hq9, hm9, hok9, hex9, hpm⟩ := id hC
  rcases pick hok9 z1 with hno | ⟨k, b, hk, rfl, hft, hT⟩
  · skip
    exact lift_RCi (n_drop l D sz ox ob3 og oq ow cI cT tp ft z1 z2 hno) [1] rfl (fun w h => List.mem_append_left _ h) ⟨(Nat.le_of_ble_eq_true rfl), (Nat.le_of_ble_eq_true rfl), (Nat.le_of_ble_eq_true rfl), (Nat.le_of_ble_eq_true rfl)⟩ ⟨(Nat.le_of_ble_eq_true rfl), (Nat.le_of_ble_eq_true rfl)⟩ (pf_c hpm) (fun r _ => hC.ls (drpS_0 (fun q => (hex9.nth hno) q.1)).symm)
  · obtain ⟨ob, tb, ts, tg, tl, tc, tr, tu, tv, tw, sd, da, db, pr, cn, fk, fv, nb, ka, kb, sm, ln, fh, ff, fa, fs, fj, fr, fo, fx, rfl, hTb, hKv, hwk⟩ := hT
    have hth := hex9.th hk hft
    exact lift_WCi (s_drop l D sz ox ob3 og oq ow ob cI cT tp ft tb ts tg tl tc tr tu tv tw sd da db pr cn fk fv nb ka kb sm ln fh ff fa fs fj fr fo fx k z2 (Ls k) hk hft hTb hKv) [0, 1] rfl (fun w h => List.mem_append_right _ (h)) ⟨(Nat.le_of_ble_eq_true rfl), (Nat.le_of_ble_eq_true rfl), (Nat.le_of_ble_eq_true rfl), (Nat.le_of_ble_eq_true rfl)⟩ ⟨(Nat.le_of_ble_eq_true rfl), (Nat.le_of_ble_eq_true rfl)⟩ (pf_cT hk hwk hpm) (fun r u h => CWd.ls (Ls := updS Ls k (drpS True (fun _ => Ls k) (nI k) z2 k)) ⟨ox, ob3, og, oq, ow, ft, _, _, _, _, _, _, rfl, htp, ht9, hp9, hi9, hq9, hm9, okW.set hok9 hft ⟨ob, tb, ts, tg, u.2.1, u.2.2.1, u.1, u.2.2.2.1, u.2.2.2.2.1, u.2.2.2.2.2.1, u.2.2.2.2.2.2.1, u.2.2.2.2.2.2.2.1, u.2.2.2.2.2.2.2.2.1, u.2.2.2.2.2.2.2.2.2.1, u.2.2.2.2.2.2.2.2.2.2.1, u.2.2.2.2.2.2.2.2.2.2.2.1, u.2.2.2.2.2.2.2.2.2.2.2.2.1, u.2.2.2.2.2.2.2.2.2.2.2.2.2.1, u.2.2.2.2.2.2.2.2.2.2.2.2.2.2.1, u.2.2.2.2.2.2.2.2.2.2.2.2.2.2.2.1, u.2.2.2.2.2.2.2.2.2.2.2.2.2.2.2.2.1, u.2.2.2.2.2.2.2.2.2.2.2.2.2.2.2.2.2.1, u.2.2.2.2.2.2.2.2.2.2.2.2.2.2.2.2.2.2.1, u.2.2.2.2.2.2.2.2.2.2.2.2.2.2.2.2.2.2.2.1, u.2.2.2.2.2.2.2.2.2.2.2.2.2.2.2.2.2.2.2.2.1, u.2.2.2.2.2.2.2.2.2.2.2.2.2.2.2.2.2.2.2.2.2.1, u.2.2.2.2.2.2.2.2.2.2.2.2.2.2.2.2.2.2.2.2.2.2.1, u.2.2.2.2.2.2.2.2.2.2.2.2.2.2.2.2.2.2.2.2.2.2.2.1, u.2.2.2.2.2.2.2.2.2.2.2.2.2.2.2.2.2.2.2.2.2.2.2.2.1, u.2.2.2.2.2.2.2.2.2.2.2.2.2.2.2.2.2.2.2.2.2.2.2.2.2, rfl, h.1, h.2, rfl⟩, hex9, List.Perm.symm (pr_cT hk)⟩ (drpS_m hk hth))

def wp_m_build : List Cond := wp_n_build ++ (wp_s_build)
set_option maxHeartbeats 4000000 in
theorem m_build (l : Launch) (D : va_G) (sz : Nat) (adK adV : Nat → Nat) (cI cT : ClassId) (a0 : Nat) (tp : Nat) (bt : Nat → Nat) (ex : Nat → Bool) (Ls : Nat → List (Nat × Int32)) (W : va_W) (z1 : Int32) (hC : CWd cI cT a0 tp bt ex Ls W) : Met l yX10_build wp_m_build ({ frames := 5, cells := 0, slots := 0, locals := 183 }) (PcWS D adK adV [.ref a0, .int z1] sz W [(cI, .int), (cT, .object RX9)]) (va_Qi (fun r (u : va_W) => CWd cI cT a0 tp bt ex Ls u) (QB D [(cI, .int), (cT, .object RX9)] W sz) (va_A W sz)) 0 0 (va_A W sz) := by
  obtain ⟨ox, ob3, og, oq, ow, ft, xt, xp, xi, xq, xm, wt, rfl, htp, ht9, hp9, hi9, hq9, hm9, hok9, hex9, hpm⟩ := id hC
  rcases pick hok9 z1 with hno | ⟨k, b, hk, rfl, hft, hT⟩
  · skip
    exact lift_RCi (n_build l D sz ox ob3 og oq ow cI cT tp ft z1 hno) [1] rfl (fun w h => List.mem_append_left _ h) ⟨(Nat.le_of_ble_eq_true rfl), (Nat.le_of_ble_eq_true rfl), (Nat.le_of_ble_eq_true rfl), (Nat.le_of_ble_eq_true rfl)⟩ ⟨(Nat.le_of_ble_eq_true rfl), (Nat.le_of_ble_eq_true rfl)⟩ (pf_c hpm) (fun r _ => hC)
  · obtain ⟨ob, tb, ts, tg, tl, tc, tr, tu, tv, tw, sd, da, db, pr, cn, fk, fv, nb, ka, kb, sm, ln, fh, ff, fa, fs, fj, fr, fo, fx, rfl, hTb, hKv, hwk⟩ := hT
    have hth := hex9.th hk hft
    exact lift_WCi (s_build l D sz ox ob3 og oq ow ob cI cT tp ft tb ts tg tl tc tr tu tv tw sd da db pr cn fk fv nb ka kb sm ln fh ff fa fs fj fr fo fx k hk hft hTb) [0, 1] rfl (fun w h => List.mem_append_right _ (h)) ⟨(Nat.le_of_ble_eq_true rfl), (Nat.le_of_ble_eq_true rfl), (Nat.le_of_ble_eq_true rfl), (Nat.le_of_ble_eq_true rfl)⟩ ⟨(Nat.le_of_ble_eq_true rfl), (Nat.le_of_ble_eq_true rfl)⟩ (pf_cT hk hwk hpm) (fun r u h => ⟨ox, ob3, og, oq, ow, ft, _, _, _, _, _, _, rfl, htp, ht9, hp9, hi9, hq9, hm9, okW.set0 hok9 hft ⟨ob, tb, ts, tg, u.2.1, u.2.2.1, tr, tu, u.1, u.2.2.2.1, u.2.2.2.2.1, u.2.2.2.2.2.1, u.2.2.2.2.2.2.1, u.2.2.2.2.2.2.2.1, cn, fk, fv, u.2.2.2.2.2.2.2.2.1, u.2.2.2.2.2.2.2.2.2.1, u.2.2.2.2.2.2.2.2.2.2.1, u.2.2.2.2.2.2.2.2.2.2.2.1, u.2.2.2.2.2.2.2.2.2.2.2.2.1, u.2.2.2.2.2.2.2.2.2.2.2.2.2.1, u.2.2.2.2.2.2.2.2.2.2.2.2.2.2.1, u.2.2.2.2.2.2.2.2.2.2.2.2.2.2.2.1, u.2.2.2.2.2.2.2.2.2.2.2.2.2.2.2.2.1, u.2.2.2.2.2.2.2.2.2.2.2.2.2.2.2.2.2.1, u.2.2.2.2.2.2.2.2.2.2.2.2.2.2.2.2.2.2.1, u.2.2.2.2.2.2.2.2.2.2.2.2.2.2.2.2.2.2.2.1, u.2.2.2.2.2.2.2.2.2.2.2.2.2.2.2.2.2.2.2.2, rfl, h, hKv, rfl⟩, hex9, List.Perm.symm (pr_cT hk)⟩)

def wp_m_has : List Cond := wp_n_has ++ (wp_s_has)
set_option maxHeartbeats 4000000 in
theorem m_has (l : Launch) (D : va_G) (sz : Nat) (adK adV : Nat → Nat) (cI cT : ClassId) (a0 : Nat) (tp : Nat) (bt : Nat → Nat) (ex : Nat → Bool) (Ls : Nat → List (Nat × Int32)) (W : va_W) (z1 : Int32) (z2 : Int32) (hC : CWd cI cT a0 tp bt ex Ls W) : Met l yX10_has wp_m_has ({ frames := 2, cells := 0, slots := 0, locals := 41 }) (PcWS D adK adV [.ref a0, .int z1, .int z2] sz W [(cI, .int), (cT, .object RX9)]) (va_Ql (fun r (u : va_W) => CWd cI cT a0 tp bt ex Ls u) (QB D [(cI, .int), (cT, .object RX9)] W sz) (va_A W sz)) 0 0 (va_A W sz) := by
  obtain ⟨ox, ob3, og, oq, ow, ft, xt, xp, xi, xq, xm, wt, rfl, htp, ht9, hp9, hi9, hq9, hm9, hok9, hex9, hpm⟩ := id hC
  rcases pick hok9 z1 with hno | ⟨k, b, hk, rfl, hft, hT⟩
  · skip
    exact lift_RCl (n_has l D sz ox ob3 og oq ow cI cT tp ft z1 z2 hno) [1] rfl (fun w h => List.mem_append_left _ h) ⟨(Nat.le_of_ble_eq_true rfl), (Nat.le_of_ble_eq_true rfl), (Nat.le_of_ble_eq_true rfl), (Nat.le_of_ble_eq_true rfl)⟩ ⟨(Nat.le_of_ble_eq_true rfl), (Nat.le_of_ble_eq_true rfl)⟩ (pf_c hpm) (fun r _ => hC)
  · obtain ⟨ob, tb, ts, tg, tl, tc, tr, tu, tv, tw, sd, da, db, pr, cn, fk, fv, nb, ka, kb, sm, ln, fh, ff, fa, fs, fj, fr, fo, fx, rfl, hTb, hKv, hwk⟩ := hT
    have hth := hex9.th hk hft
    exact lift_RCl (s_has l D sz ox ob3 og oq ow ob cI cT tp ft tb ts tg tl tc tr tu tv tw sd da db pr cn fk fv nb ka kb sm ln fh ff fa fs fj fr fo fx k z2 hk hft hTb) [0, 1] rfl (fun w h => List.mem_append_right _ (h)) ⟨(Nat.le_of_ble_eq_true rfl), (Nat.le_of_ble_eq_true rfl), (Nat.le_of_ble_eq_true rfl), (Nat.le_of_ble_eq_true rfl)⟩ ⟨(Nat.le_of_ble_eq_true rfl), (Nat.le_of_ble_eq_true rfl)⟩ (pf_cT hk hwk hpm) (fun r _ => hC)

def wp_m_bucket : List Cond := wp_n_bucket ++ (wp_s_bucket)
set_option maxHeartbeats 4000000 in
theorem m_bucket (l : Launch) (D : va_G) (sz : Nat) (adK adV : Nat → Nat) (cI cT : ClassId) (a0 : Nat) (tp : Nat) (bt : Nat → Nat) (ex : Nat → Bool) (Ls : Nat → List (Nat × Int32)) (W : va_W) (z1 : Int32) (z2 : Int32) (z3 : Int32) (hC : CWd cI cT a0 tp bt ex Ls W) : Met l yX10_bucket wp_m_bucket ({ frames := 2, cells := 0, slots := 0, locals := 41 }) (PcWS D adK adV [.ref a0, .int z1, .int z2, .int z3] sz W [(cI, .int), (cT, .object RX9)]) (va_Ql (fun r (u : va_W) => CWd cI cT a0 tp bt ex Ls u) (QB D [(cI, .int), (cT, .object RX9)] W sz) (va_A W sz)) 0 0 (va_A W sz) := by
  obtain ⟨ox, ob3, og, oq, ow, ft, xt, xp, xi, xq, xm, wt, rfl, htp, ht9, hp9, hi9, hq9, hm9, hok9, hex9, hpm⟩ := id hC
  rcases pick hok9 z1 with hno | ⟨k, b, hk, rfl, hft, hT⟩
  · skip
    exact lift_RCl (n_bucket l D sz ox ob3 og oq ow cI cT tp ft z1 z2 z3 hno) [1] rfl (fun w h => List.mem_append_left _ h) ⟨(Nat.le_of_ble_eq_true rfl), (Nat.le_of_ble_eq_true rfl), (Nat.le_of_ble_eq_true rfl), (Nat.le_of_ble_eq_true rfl)⟩ ⟨(Nat.le_of_ble_eq_true rfl), (Nat.le_of_ble_eq_true rfl)⟩ (pf_c hpm) (fun r _ => hC)
  · obtain ⟨ob, tb, ts, tg, tl, tc, tr, tu, tv, tw, sd, da, db, pr, cn, fk, fv, nb, ka, kb, sm, ln, fh, ff, fa, fs, fj, fr, fo, fx, rfl, hTb, hKv, hwk⟩ := hT
    have hth := hex9.th hk hft
    exact lift_RCl (s_bucket l D sz ox ob3 og oq ow ob cI cT tp ft tb ts tg tl tc tr tu tv tw sd da db pr cn fk fv nb ka kb sm ln fh ff fa fs fj fr fo fx k z2 z3 hk hft hTb) [0, 1] rfl (fun w h => List.mem_append_right _ (h)) ⟨(Nat.le_of_ble_eq_true rfl), (Nat.le_of_ble_eq_true rfl), (Nat.le_of_ble_eq_true rfl), (Nat.le_of_ble_eq_true rfl)⟩ ⟨(Nat.le_of_ble_eq_true rfl), (Nat.le_of_ble_eq_true rfl)⟩ (pf_cT hk hwk hpm) (fun r _ => hC)

def wp_m_room : List Cond := wp_n_room ++ (wp_s_room)
set_option maxHeartbeats 4000000 in
theorem m_room (l : Launch) (D : va_G) (sz : Nat) (adK adV : Nat → Nat) (cI cT : ClassId) (a0 : Nat) (tp : Nat) (bt : Nat → Nat) (ex : Nat → Bool) (Ls : Nat → List (Nat × Int32)) (W : va_W) (z1 : Int32) (z2 : Int32) (z3 : Int32) (hC : CWd cI cT a0 tp bt ex Ls W) : Met l yX10_room wp_m_room ({ frames := 2, cells := 0, slots := 0, locals := 41 }) (PcWS D adK adV [.ref a0, .int z1, .int z2, .int z3] sz W [(cI, .int), (cT, .object RX9)]) (va_Qi (fun r (u : va_W) => CWd cI cT a0 tp bt ex Ls u) (QB D [(cI, .int), (cT, .object RX9)] W sz) (va_A W sz)) 0 0 (va_A W sz) := by
  obtain ⟨ox, ob3, og, oq, ow, ft, xt, xp, xi, xq, xm, wt, rfl, htp, ht9, hp9, hi9, hq9, hm9, hok9, hex9, hpm⟩ := id hC
  rcases pick hok9 z1 with hno | ⟨k, b, hk, rfl, hft, hT⟩
  · skip
    exact lift_RCi (n_room l D sz ox ob3 og oq ow cI cT tp ft z1 z2 z3 hno) [1] rfl (fun w h => List.mem_append_left _ h) ⟨(Nat.le_of_ble_eq_true rfl), (Nat.le_of_ble_eq_true rfl), (Nat.le_of_ble_eq_true rfl), (Nat.le_of_ble_eq_true rfl)⟩ ⟨(Nat.le_of_ble_eq_true rfl), (Nat.le_of_ble_eq_true rfl)⟩ (pf_c hpm) (fun r _ => hC)
  · obtain ⟨ob, tb, ts, tg, tl, tc, tr, tu, tv, tw, sd, da, db, pr, cn, fk, fv, nb, ka, kb, sm, ln, fh, ff, fa, fs, fj, fr, fo, fx, rfl, hTb, hKv, hwk⟩ := hT
    have hth := hex9.th hk hft
    exact lift_RCi (s_room l D sz ox ob3 og oq ow ob cI cT tp ft tb ts tg tl tc tr tu tv tw sd da db pr cn fk fv nb ka kb sm ln fh ff fa fs fj fr fo fx k z2 z3 hk hft hTb) [0, 1] rfl (fun w h => List.mem_append_right _ (h)) ⟨(Nat.le_of_ble_eq_true rfl), (Nat.le_of_ble_eq_true rfl), (Nat.le_of_ble_eq_true rfl), (Nat.le_of_ble_eq_true rfl)⟩ ⟨(Nat.le_of_ble_eq_true rfl), (Nat.le_of_ble_eq_true rfl)⟩ (pf_cT hk hwk hpm) (fun r _ => hC)

def wp_m_place : List Cond := wp_n_place ++ (wp_s_place)
set_option maxHeartbeats 4000000 in
theorem m_place (l : Launch) (D : va_G) (sz : Nat) (adK adV : Nat → Nat) (cI cT : ClassId) (a0 : Nat) (tp : Nat) (bt : Nat → Nat) (ex : Nat → Bool) (Ls : Nat → List (Nat × Int32)) (W : va_W) (z1 : Int32) (z2 : Int32) (z3 : Int32) (hC : CWd cI cT a0 tp bt ex Ls W) : Met l yX10_place wp_m_place ({ frames := 2, cells := 0, slots := 0, locals := 46 }) (PcWS D adK adV [.ref a0, .int z1, .int z2, .int z3] sz W [(cI, .int), (cT, .object RX9)]) (va_Qi (fun r (u : va_W) => CWd cI cT a0 tp bt ex Ls u) (QB D [(cI, .int), (cT, .object RX9)] W sz) (va_A W sz)) 0 0 (va_A W sz) := by
  obtain ⟨ox, ob3, og, oq, ow, ft, xt, xp, xi, xq, xm, wt, rfl, htp, ht9, hp9, hi9, hq9, hm9, hok9, hex9, hpm⟩ := id hC
  rcases pick hok9 z1 with hno | ⟨k, b, hk, rfl, hft, hT⟩
  · skip
    exact lift_RCi (n_place l D sz ox ob3 og oq ow cI cT tp ft z1 z2 z3 hno) [1] rfl (fun w h => List.mem_append_left _ h) ⟨(Nat.le_of_ble_eq_true rfl), (Nat.le_of_ble_eq_true rfl), (Nat.le_of_ble_eq_true rfl), (Nat.le_of_ble_eq_true rfl)⟩ ⟨(Nat.le_of_ble_eq_true rfl), (Nat.le_of_ble_eq_true rfl)⟩ (pf_c hpm) (fun r _ => hC)
  · obtain ⟨ob, tb, ts, tg, tl, tc, tr, tu, tv, tw, sd, da, db, pr, cn, fk, fv, nb, ka, kb, sm, ln, fh, ff, fa, fs, fj, fr, fo, fx, rfl, hTb, hKv, hwk⟩ := hT
    have hth := hex9.th hk hft
    exact lift_RCi (s_place l D sz ox ob3 og oq ow ob cI cT tp ft tb ts tg tl tc tr tu tv tw sd da db pr cn fk fv nb ka kb sm ln fh ff fa fs fj fr fo fx k z2 z3 hk hft hTb) [0, 1] rfl (fun w h => List.mem_append_right _ (h)) ⟨(Nat.le_of_ble_eq_true rfl), (Nat.le_of_ble_eq_true rfl), (Nat.le_of_ble_eq_true rfl), (Nat.le_of_ble_eq_true rfl)⟩ ⟨(Nat.le_of_ble_eq_true rfl), (Nat.le_of_ble_eq_true rfl)⟩ (pf_cT hk hwk hpm) (fun r _ => hC)

def wp_m_key : List Cond := wp_n_key ++ (wp_s_key)
set_option maxHeartbeats 4000000 in
theorem m_key (l : Launch) (D : va_G) (sz : Nat) (adK adV : Nat → Nat) (cI cT : ClassId) (a0 : Nat) (tp : Nat) (bt : Nat → Nat) (ex : Nat → Bool) (Ls : Nat → List (Nat × Int32)) (W : va_W) (z1 : Int32) (z2 : Int32) (hC : CWd cI cT a0 tp bt ex Ls W) : Met l yX10_key wp_m_key ({ frames := 2, cells := 0, slots := 0, locals := 41 }) (PcWS D adK adV [.ref a0, .int z1, .int z2] sz W [(cI, .int), (cT, .object RX9)]) (va_Qi (fun r (u : va_W) => CWd cI cT a0 tp bt ex Ls u ∧ r = keyA (thE ex z1) Ls z1 z2) (QB D [(cI, .int), (cT, .object RX9)] W sz) (va_A W sz)) 0 0 (va_A W sz) := by
  obtain ⟨ox, ob3, og, oq, ow, ft, xt, xp, xi, xq, xm, wt, rfl, htp, ht9, hp9, hi9, hq9, hm9, hok9, hex9, hpm⟩ := id hC
  rcases pick hok9 z1 with hno | ⟨k, b, hk, rfl, hft, hT⟩
  · skip
    exact lift_RCi (n_key l D sz ox ob3 og oq ow cI cT tp ft z1 z2 hno) [1] rfl (fun w h => List.mem_append_left _ h) ⟨(Nat.le_of_ble_eq_true rfl), (Nat.le_of_ble_eq_true rfl), (Nat.le_of_ble_eq_true rfl), (Nat.le_of_ble_eq_true rfl)⟩ ⟨(Nat.le_of_ble_eq_true rfl), (Nat.le_of_ble_eq_true rfl)⟩ (pf_c hpm) (fun r h => ⟨hC, h.trans (keyA_0 (fun q => (hex9.nth hno) q.1)).symm⟩)
  · obtain ⟨ob, tb, ts, tg, tl, tc, tr, tu, tv, tw, sd, da, db, pr, cn, fk, fv, nb, ka, kb, sm, ln, fh, ff, fa, fs, fj, fr, fo, fx, rfl, hTb, hKv, hwk⟩ := hT
    have hth := hex9.th hk hft
    exact lift_RCi (s_key l D sz ox ob3 og oq ow ob cI cT tp ft tb ts tg tl tc tr tu tv tw sd da db pr cn fk fv nb ka kb sm ln fh ff fa fs fj fr fo fx k z2 (Ls k) hk hft hTb hKv) [0, 1] rfl (fun w h => List.mem_append_right _ (h)) ⟨(Nat.le_of_ble_eq_true rfl), (Nat.le_of_ble_eq_true rfl), (Nat.le_of_ble_eq_true rfl), (Nat.le_of_ble_eq_true rfl)⟩ ⟨(Nat.le_of_ble_eq_true rfl), (Nat.le_of_ble_eq_true rfl)⟩ (pf_cT hk hwk hpm) (fun r h => ⟨hC, h.trans (keyA_m hk hth).symm⟩)

def wp_m_walk : List Cond := wp_n_walk ++ (wp_s_walk)
set_option maxHeartbeats 4000000 in
theorem m_walk (l : Launch) (D : va_G) (sz : Nat) (adK adV : Nat → Nat) (cI cT : ClassId) (a0 : Nat) (tp : Nat) (bt : Nat → Nat) (ex : Nat → Bool) (Ls : Nat → List (Nat × Int32)) (W : va_W) (z1 : Int32) (z2 : Int32) (hC : CWd cI cT a0 tp bt ex Ls W) : Met l yX10_walk wp_m_walk ({ frames := 2, cells := 0, slots := 0, locals := 67 }) (PcWS D adK adV [.ref a0, .int z1, .int z2] sz W [(cI, .int), (cT, .object RX9)]) (va_Qi (fun r (u : va_W) => CWd cI cT a0 tp bt ex Ls u) (QB D [(cI, .int), (cT, .object RX9)] W sz) (va_A W sz)) 0 0 (va_A W sz) := by
  obtain ⟨ox, ob3, og, oq, ow, ft, xt, xp, xi, xq, xm, wt, rfl, htp, ht9, hp9, hi9, hq9, hm9, hok9, hex9, hpm⟩ := id hC
  rcases pick hok9 z1 with hno | ⟨k, b, hk, rfl, hft, hT⟩
  · skip
    exact lift_RCi (n_walk l D sz ox ob3 og oq ow cI cT tp ft z1 z2 hno) [1] rfl (fun w h => List.mem_append_left _ h) ⟨(Nat.le_of_ble_eq_true rfl), (Nat.le_of_ble_eq_true rfl), (Nat.le_of_ble_eq_true rfl), (Nat.le_of_ble_eq_true rfl)⟩ ⟨(Nat.le_of_ble_eq_true rfl), (Nat.le_of_ble_eq_true rfl)⟩ (pf_c hpm) (fun r _ => hC)
  · obtain ⟨ob, tb, ts, tg, tl, tc, tr, tu, tv, tw, sd, da, db, pr, cn, fk, fv, nb, ka, kb, sm, ln, fh, ff, fa, fs, fj, fr, fo, fx, rfl, hTb, hKv, hwk⟩ := hT
    have hth := hex9.th hk hft
    exact lift_WCi (s_walk l D sz ox ob3 og oq ow ob cI cT tp ft tb ts tg tl tc tr tu tv tw sd da db pr cn fk fv nb ka kb sm ln fh ff fa fs fj fr fo fx k z2 hk hft hTb) [0, 1] rfl (fun w h => List.mem_append_right _ (h)) ⟨(Nat.le_of_ble_eq_true rfl), (Nat.le_of_ble_eq_true rfl), (Nat.le_of_ble_eq_true rfl), (Nat.le_of_ble_eq_true rfl)⟩ ⟨(Nat.le_of_ble_eq_true rfl), (Nat.le_of_ble_eq_true rfl)⟩ (pf_cT hk hwk hpm) (fun r u h => ⟨ox, ob3, og, oq, ow, ft, _, _, _, _, _, _, rfl, htp, ht9, hp9, hi9, hq9, hm9, okW.set0 hok9 hft ⟨ob, tb, ts, tg, tl, tc, tr, tu, tv, tw, sd, da, db, pr, cn, fk, fv, nb, ka, kb, sm, ln, fh, ff, fa, fs, fj, fr, u, fx, rfl, h, hKv, rfl⟩, hex9, List.Perm.symm (pr_cT hk)⟩)

def wp_m_below : List Cond := wp_n_below ++ (wp_s_below)
set_option maxHeartbeats 4000000 in
theorem m_below (l : Launch) (D : va_G) (sz : Nat) (adK adV : Nat → Nat) (cI cT : ClassId) (a0 : Nat) (tp : Nat) (bt : Nat → Nat) (ex : Nat → Bool) (Ls : Nat → List (Nat × Int32)) (W : va_W) (z1 : Int32) (z2 : Int32) (hC : CWd cI cT a0 tp bt ex Ls W) : Met l yX10_below wp_m_below ({ frames := 2, cells := 0, slots := 0, locals := 41 }) (PcWS D adK adV [.ref a0, .int z1, .int z2] sz W [(cI, .int), (cT, .object RX9)]) (va_Qi (fun r (u : va_W) => CWd cI cT a0 tp bt ex Ls u ∧ r = belA (thE ex z1) Ls z1 z2) (QB D [(cI, .int), (cT, .object RX9)] W sz) (va_A W sz)) 0 0 (va_A W sz) := by
  obtain ⟨ox, ob3, og, oq, ow, ft, xt, xp, xi, xq, xm, wt, rfl, htp, ht9, hp9, hi9, hq9, hm9, hok9, hex9, hpm⟩ := id hC
  rcases pick hok9 z1 with hno | ⟨k, b, hk, rfl, hft, hT⟩
  · skip
    exact lift_RCi (n_below l D sz ox ob3 og oq ow cI cT tp ft z1 z2 hno) [1] rfl (fun w h => List.mem_append_left _ h) ⟨(Nat.le_of_ble_eq_true rfl), (Nat.le_of_ble_eq_true rfl), (Nat.le_of_ble_eq_true rfl), (Nat.le_of_ble_eq_true rfl)⟩ ⟨(Nat.le_of_ble_eq_true rfl), (Nat.le_of_ble_eq_true rfl)⟩ (pf_c hpm) (fun r h => ⟨hC, h.trans (belA_0 (fun q => (hex9.nth hno) q.1)).symm⟩)
  · obtain ⟨ob, tb, ts, tg, tl, tc, tr, tu, tv, tw, sd, da, db, pr, cn, fk, fv, nb, ka, kb, sm, ln, fh, ff, fa, fs, fj, fr, fo, fx, rfl, hTb, hKv, hwk⟩ := hT
    have hth := hex9.th hk hft
    exact lift_RCi (s_below l D sz ox ob3 og oq ow ob cI cT tp ft tb ts tg tl tc tr tu tv tw sd da db pr cn fk fv nb ka kb sm ln fh ff fa fs fj fr fo fx k z2 (Ls k) hk hft hTb hKv) [0, 1] rfl (fun w h => List.mem_append_right _ (h)) ⟨(Nat.le_of_ble_eq_true rfl), (Nat.le_of_ble_eq_true rfl), (Nat.le_of_ble_eq_true rfl), (Nat.le_of_ble_eq_true rfl)⟩ ⟨(Nat.le_of_ble_eq_true rfl), (Nat.le_of_ble_eq_true rfl)⟩ (pf_cT hk hwk hpm) (fun r h => ⟨hC, h.trans (belA_m hk hth).symm⟩)

def wp_m_nearest : List Cond := wp_n_nearest ++ (wp_s_nearest)
set_option maxHeartbeats 4000000 in
theorem m_nearest (l : Launch) (D : va_G) (sz : Nat) (adK adV : Nat → Nat) (cI cT : ClassId) (a0 : Nat) (tp : Nat) (bt : Nat → Nat) (ex : Nat → Bool) (Ls : Nat → List (Nat × Int32)) (W : va_W) (z1 : Int32) (z2 : Int32) (hC : CWd cI cT a0 tp bt ex Ls W) : Met l yX10_nearest wp_m_nearest ({ frames := 2, cells := 0, slots := 0, locals := 45 }) (PcWS D adK adV [.ref a0, .int z1, .int z2] sz W [(cI, .int), (cT, .object RX9)]) (va_Qi (fun r (u : va_W) => CWd cI cT a0 tp bt ex Ls u ∧ r = nrA (thE ex z1) Ls z1 z2) (QB D [(cI, .int), (cT, .object RX9)] W sz) (va_A W sz)) 0 0 (va_A W sz) := by
  obtain ⟨ox, ob3, og, oq, ow, ft, xt, xp, xi, xq, xm, wt, rfl, htp, ht9, hp9, hi9, hq9, hm9, hok9, hex9, hpm⟩ := id hC
  rcases pick hok9 z1 with hno | ⟨k, b, hk, rfl, hft, hT⟩
  · skip
    exact lift_RCi (n_nearest l D sz ox ob3 og oq ow cI cT tp ft z1 z2 hno) [1] rfl (fun w h => List.mem_append_left _ h) ⟨(Nat.le_of_ble_eq_true rfl), (Nat.le_of_ble_eq_true rfl), (Nat.le_of_ble_eq_true rfl), (Nat.le_of_ble_eq_true rfl)⟩ ⟨(Nat.le_of_ble_eq_true rfl), (Nat.le_of_ble_eq_true rfl)⟩ (pf_c hpm) (fun r h => ⟨hC, h.trans (nrA_0 (fun q => (hex9.nth hno) q.1)).symm⟩)
  · obtain ⟨ob, tb, ts, tg, tl, tc, tr, tu, tv, tw, sd, da, db, pr, cn, fk, fv, nb, ka, kb, sm, ln, fh, ff, fa, fs, fj, fr, fo, fx, rfl, hTb, hKv, hwk⟩ := hT
    have hth := hex9.th hk hft
    exact lift_RCi (s_nearest l D sz ox ob3 og oq ow ob cI cT tp ft tb ts tg tl tc tr tu tv tw sd da db pr cn fk fv nb ka kb sm ln fh ff fa fs fj fr fo fx k z2 (Ls k) hk hft hTb hKv) [0, 1] rfl (fun w h => List.mem_append_right _ (h)) ⟨(Nat.le_of_ble_eq_true rfl), (Nat.le_of_ble_eq_true rfl), (Nat.le_of_ble_eq_true rfl), (Nat.le_of_ble_eq_true rfl)⟩ ⟨(Nat.le_of_ble_eq_true rfl), (Nat.le_of_ble_eq_true rfl)⟩ (pf_cT hk hwk hpm) (fun r h => ⟨hC, h.trans (nrA_m hk hth).symm⟩)

def wp_m_many : List Cond := wp_n_many ++ (wp_s_many)
set_option maxHeartbeats 4000000 in
theorem m_many (l : Launch) (D : va_G) (sz : Nat) (adK adV : Nat → Nat) (cI cT : ClassId) (a0 : Nat) (tp : Nat) (bt : Nat → Nat) (ex : Nat → Bool) (Ls : Nat → List (Nat × Int32)) (W : va_W) (z1 : Int32) (z2 : Int32) (hC : CWd cI cT a0 tp bt ex Ls W) : Met l yX10_many wp_m_many ({ frames := 2, cells := 0, slots := 0, locals := 41 }) (PcWS D adK adV [.ref a0, .int z1, .int z2] sz W [(cI, .int), (cT, .object RX9)]) (va_Qi (fun r (u : va_W) => CWd cI cT a0 tp bt ex Ls u) (QB D [(cI, .int), (cT, .object RX9)] W sz) (va_A W sz)) 0 0 (va_A W sz) := by
  obtain ⟨ox, ob3, og, oq, ow, ft, xt, xp, xi, xq, xm, wt, rfl, htp, ht9, hp9, hi9, hq9, hm9, hok9, hex9, hpm⟩ := id hC
  rcases pick hok9 z1 with hno | ⟨k, b, hk, rfl, hft, hT⟩
  · skip
    exact lift_RCi (n_many l D sz ox ob3 og oq ow cI cT tp ft z1 z2 hno) [1] rfl (fun w h => List.mem_append_left _ h) ⟨(Nat.le_of_ble_eq_true rfl), (Nat.le_of_ble_eq_true rfl), (Nat.le_of_ble_eq_true rfl), (Nat.le_of_ble_eq_true rfl)⟩ ⟨(Nat.le_of_ble_eq_true rfl), (Nat.le_of_ble_eq_true rfl)⟩ (pf_c hpm) (fun r _ => hC)
  · obtain ⟨ob, tb, ts, tg, tl, tc, tr, tu, tv, tw, sd, da, db, pr, cn, fk, fv, nb, ka, kb, sm, ln, fh, ff, fa, fs, fj, fr, fo, fx, rfl, hTb, hKv, hwk⟩ := hT
    have hth := hex9.th hk hft
    exact lift_RCi (s_many l D sz ox ob3 og oq ow ob cI cT tp ft tb ts tg tl tc tr tu tv tw sd da db pr cn fk fv nb ka kb sm ln fh ff fa fs fj fr fo fx k z2 hk hft hTb) [0, 1] rfl (fun w h => List.mem_append_right _ (h)) ⟨(Nat.le_of_ble_eq_true rfl), (Nat.le_of_ble_eq_true rfl), (Nat.le_of_ble_eq_true rfl), (Nat.le_of_ble_eq_true rfl)⟩ ⟨(Nat.le_of_ble_eq_true rfl), (Nat.le_of_ble_eq_true rfl)⟩ (pf_cT hk hwk hpm) (fun r _ => hC)

def wp_m_crowd : List Cond := wp_n_crowd ++ (wp_s_crowd)
set_option maxHeartbeats 4000000 in
theorem m_crowd (l : Launch) (D : va_G) (sz : Nat) (adK adV : Nat → Nat) (cI cT : ClassId) (a0 : Nat) (tp : Nat) (bt : Nat → Nat) (ex : Nat → Bool) (Ls : Nat → List (Nat × Int32)) (W : va_W) (z1 : Int32) (z2 : Int32) (hC : CWd cI cT a0 tp bt ex Ls W) : Met l yX10_crowd wp_m_crowd ({ frames := 2, cells := 0, slots := 0, locals := 41 }) (PcWS D adK adV [.ref a0, .int z1, .int z2] sz W [(cI, .int), (cT, .object RX9)]) (va_Qi (fun r (u : va_W) => CWd cI cT a0 tp bt ex Ls u) (QB D [(cI, .int), (cT, .object RX9)] W sz) (va_A W sz)) 0 0 (va_A W sz) := by
  obtain ⟨ox, ob3, og, oq, ow, ft, xt, xp, xi, xq, xm, wt, rfl, htp, ht9, hp9, hi9, hq9, hm9, hok9, hex9, hpm⟩ := id hC
  rcases pick hok9 z1 with hno | ⟨k, b, hk, rfl, hft, hT⟩
  · skip
    exact lift_RCi (n_crowd l D sz ox ob3 og oq ow cI cT tp ft z1 z2 hno) [1] rfl (fun w h => List.mem_append_left _ h) ⟨(Nat.le_of_ble_eq_true rfl), (Nat.le_of_ble_eq_true rfl), (Nat.le_of_ble_eq_true rfl), (Nat.le_of_ble_eq_true rfl)⟩ ⟨(Nat.le_of_ble_eq_true rfl), (Nat.le_of_ble_eq_true rfl)⟩ (pf_c hpm) (fun r _ => hC)
  · obtain ⟨ob, tb, ts, tg, tl, tc, tr, tu, tv, tw, sd, da, db, pr, cn, fk, fv, nb, ka, kb, sm, ln, fh, ff, fa, fs, fj, fr, fo, fx, rfl, hTb, hKv, hwk⟩ := hT
    have hth := hex9.th hk hft
    exact lift_RCi (s_crowd l D sz ox ob3 og oq ow ob cI cT tp ft tb ts tg tl tc tr tu tv tw sd da db pr cn fk fv nb ka kb sm ln fh ff fa fs fj fr fo fx k z2 hk hft hTb) [0, 1] rfl (fun w h => List.mem_append_right _ (h)) ⟨(Nat.le_of_ble_eq_true rfl), (Nat.le_of_ble_eq_true rfl), (Nat.le_of_ble_eq_true rfl), (Nat.le_of_ble_eq_true rfl)⟩ ⟨(Nat.le_of_ble_eq_true rfl), (Nat.le_of_ble_eq_true rfl)⟩ (pf_cT hk hwk hpm) (fun r _ => hC)

def wp_m_empty : List Cond := wp_n_empty ++ (wp_s_empty)
set_option maxHeartbeats 4000000 in
theorem m_empty (l : Launch) (D : va_G) (sz : Nat) (adK adV : Nat → Nat) (cI cT : ClassId) (a0 : Nat) (tp : Nat) (bt : Nat → Nat) (ex : Nat → Bool) (Ls : Nat → List (Nat × Int32)) (W : va_W) (z1 : Int32) (hC : CWd cI cT a0 tp bt ex Ls W) : Met l yX10_empty wp_m_empty ({ frames := 2, cells := 0, slots := 0, locals := 41 }) (PcWS D adK adV [.ref a0, .int z1] sz W [(cI, .int), (cT, .object RX9)]) (va_Qi (fun r (u : va_W) => CWd cI cT a0 tp bt ex Ls u) (QB D [(cI, .int), (cT, .object RX9)] W sz) (va_A W sz)) 0 0 (va_A W sz) := by
  obtain ⟨ox, ob3, og, oq, ow, ft, xt, xp, xi, xq, xm, wt, rfl, htp, ht9, hp9, hi9, hq9, hm9, hok9, hex9, hpm⟩ := id hC
  rcases pick hok9 z1 with hno | ⟨k, b, hk, rfl, hft, hT⟩
  · skip
    exact lift_RCi (n_empty l D sz ox ob3 og oq ow cI cT tp ft z1 hno) [1] rfl (fun w h => List.mem_append_left _ h) ⟨(Nat.le_of_ble_eq_true rfl), (Nat.le_of_ble_eq_true rfl), (Nat.le_of_ble_eq_true rfl), (Nat.le_of_ble_eq_true rfl)⟩ ⟨(Nat.le_of_ble_eq_true rfl), (Nat.le_of_ble_eq_true rfl)⟩ (pf_c hpm) (fun r _ => hC)
  · obtain ⟨ob, tb, ts, tg, tl, tc, tr, tu, tv, tw, sd, da, db, pr, cn, fk, fv, nb, ka, kb, sm, ln, fh, ff, fa, fs, fj, fr, fo, fx, rfl, hTb, hKv, hwk⟩ := hT
    have hth := hex9.th hk hft
    exact lift_RCi (s_empty l D sz ox ob3 og oq ow ob cI cT tp ft tb ts tg tl tc tr tu tv tw sd da db pr cn fk fv nb ka kb sm ln fh ff fa fs fj fr fo fx k hk hft hTb) [0, 1] rfl (fun w h => List.mem_append_right _ (h)) ⟨(Nat.le_of_ble_eq_true rfl), (Nat.le_of_ble_eq_true rfl), (Nat.le_of_ble_eq_true rfl), (Nat.le_of_ble_eq_true rfl)⟩ ⟨(Nat.le_of_ble_eq_true rfl), (Nat.le_of_ble_eq_true rfl)⟩ (pf_cT hk hwk hpm) (fun r _ => hC)

def wp_m_left : List Cond := wp_n_left ++ (wp_s_left)
set_option maxHeartbeats 4000000 in
theorem m_left (l : Launch) (D : va_G) (sz : Nat) (adK adV : Nat → Nat) (cI cT : ClassId) (a0 : Nat) (tp : Nat) (bt : Nat → Nat) (ex : Nat → Bool) (Ls : Nat → List (Nat × Int32)) (W : va_W) (z1 : Int32) (hC : CWd cI cT a0 tp bt ex Ls W) : Met l yX10_left wp_m_left ({ frames := 2, cells := 0, slots := 0, locals := 41 }) (PcWS D adK adV [.ref a0, .int z1] sz W [(cI, .int), (cT, .object RX9)]) (va_Qi (fun r (u : va_W) => CWd cI cT a0 tp bt ex Ls u) (QB D [(cI, .int), (cT, .object RX9)] W sz) (va_A W sz)) 0 0 (va_A W sz) := by
  obtain ⟨ox, ob3, og, oq, ow, ft, xt, xp, xi, xq, xm, wt, rfl, htp, ht9, hp9, hi9, hq9, hm9, hok9, hex9, hpm⟩ := id hC
  rcases pick hok9 z1 with hno | ⟨k, b, hk, rfl, hft, hT⟩
  · skip
    exact lift_RCi (n_left l D sz ox ob3 og oq ow cI cT tp ft z1 hno) [1] rfl (fun w h => List.mem_append_left _ h) ⟨(Nat.le_of_ble_eq_true rfl), (Nat.le_of_ble_eq_true rfl), (Nat.le_of_ble_eq_true rfl), (Nat.le_of_ble_eq_true rfl)⟩ ⟨(Nat.le_of_ble_eq_true rfl), (Nat.le_of_ble_eq_true rfl)⟩ (pf_c hpm) (fun r _ => hC)
  · obtain ⟨ob, tb, ts, tg, tl, tc, tr, tu, tv, tw, sd, da, db, pr, cn, fk, fv, nb, ka, kb, sm, ln, fh, ff, fa, fs, fj, fr, fo, fx, rfl, hTb, hKv, hwk⟩ := hT
    have hth := hex9.th hk hft
    exact lift_RCi (s_left l D sz ox ob3 og oq ow ob cI cT tp ft tb ts tg tl tc tr tu tv tw sd da db pr cn fk fv nb ka kb sm ln fh ff fa fs fj fr fo fx k hk hft hTb) [0, 1] rfl (fun w h => List.mem_append_right _ (h)) ⟨(Nat.le_of_ble_eq_true rfl), (Nat.le_of_ble_eq_true rfl), (Nat.le_of_ble_eq_true rfl), (Nat.le_of_ble_eq_true rfl)⟩ ⟨(Nat.le_of_ble_eq_true rfl), (Nat.le_of_ble_eq_true rfl)⟩ (pf_cT hk hwk hpm) (fun r _ => hC)

def wp_m_outer : List Cond := wp_n_outer ++ (wp_s_outer)
set_option maxHeartbeats 4000000 in
theorem m_outer (l : Launch) (D : va_G) (sz : Nat) (adK adV : Nat → Nat) (cI cT : ClassId) (a0 : Nat) (tp : Nat) (bt : Nat → Nat) (ex : Nat → Bool) (Ls : Nat → List (Nat × Int32)) (W : va_W) (z1 : Int32) (z2 : Int32) (z3 : Int32) (z4 : Int32) (z5 : Int32) (hC : CWd cI cT a0 tp bt ex Ls W) : Met l yX10_outer wp_m_outer ({ frames := 3, cells := 0, slots := 0, locals := 113 }) (PcWS D adK adV [.ref a0, .int z1, .int z2, .int z3, .int z4, .int z5] sz W [(cI, .int), (cT, .object RX9)]) (va_Ql (fun r (u : va_W) => CWd cI cT a0 tp bt ex Ls u) (QB D [(cI, .int), (cT, .object RX9)] W sz) (va_A W sz)) 0 0 (va_A W sz) := by
  obtain ⟨ox, ob3, og, oq, ow, ft, xt, xp, xi, xq, xm, wt, rfl, htp, ht9, hp9, hi9, hq9, hm9, hok9, hex9, hpm⟩ := id hC
  rcases pick hok9 z1 with hno | ⟨k, b, hk, rfl, hft, hT⟩
  · skip
    exact lift_RCl (n_outer l D sz ox ob3 og oq ow cI cT tp ft z1 z2 z3 z4 z5 hno) [1] rfl (fun w h => List.mem_append_left _ h) ⟨(Nat.le_of_ble_eq_true rfl), (Nat.le_of_ble_eq_true rfl), (Nat.le_of_ble_eq_true rfl), (Nat.le_of_ble_eq_true rfl)⟩ ⟨(Nat.le_of_ble_eq_true rfl), (Nat.le_of_ble_eq_true rfl)⟩ (pf_c hpm) (fun r _ => hC)
  · obtain ⟨ob, tb, ts, tg, tl, tc, tr, tu, tv, tw, sd, da, db, pr, cn, fk, fv, nb, ka, kb, sm, ln, fh, ff, fa, fs, fj, fr, fo, fx, rfl, hTb, hKv, hwk⟩ := hT
    have hth := hex9.th hk hft
    obtain ⟨po3, sd3, da3, db3, pr3, nb3, ka3, kb3, sm3, ln3, fh3, ff3, fa3, fs3, fj3, fr3, fo3, fx3, hL3, hO3, rfl⟩ := hp9
    exact lift_WCl (s_outer l D sz ox ob3 og oq ow ob cI cT tp ft po3 sd3 da3 db3 pr3 nb3 ka3 kb3 sm3 ln3 fh3 ff3 fa3 fs3 fj3 fr3 fo3 fx3 tb ts tg tl tc tr tu tv tw sd da db pr cn fk fv nb ka kb sm ln fh ff fa fs fj fr fo fx k z2 z3 z4 z5 hk hft hTb hL3 hO3) [0, 1] rfl (fun w h => List.mem_append_right _ (h)) ⟨(Nat.le_of_ble_eq_true rfl), (Nat.le_of_ble_eq_true rfl), (Nat.le_of_ble_eq_true rfl), (Nat.le_of_ble_eq_true rfl)⟩ ⟨(Nat.le_of_ble_eq_true rfl), (Nat.le_of_ble_eq_true rfl)⟩ (pf_cpT hk hwk hpm) (fun r u h => ⟨ox, ob3, og, oq, ow, ft, _, _, _, _, _, _, rfl, htp, ht9, ⟨po3, sd3, da3, db3, pr3, u.1, u.2.1, u.2.2.1, sm3, u.2.2.2.1, u.2.2.2.2.1, ff3, fa3, fs3, u.2.2.2.2.2, fr3, fo3, fx3, h.1, h.2, rfl⟩, hi9, hq9, hm9, okW.set0 hok9 hft ⟨ob, tb, ts, tg, tl, tc, tr, tu, tv, tw, sd, da, db, pr, cn, fk, fv, nb, ka, kb, sm, ln, fh, ff, fa, fs, fj, fr, fo, fx, rfl, hTb, hKv, rfl⟩, hex9, List.Perm.symm (pr_cpT hk)⟩)

def wp_m_best : List Cond := wp_n_best ++ (wp_s_best)
set_option maxHeartbeats 4000000 in
theorem m_best (l : Launch) (D : va_G) (sz : Nat) (adK adV : Nat → Nat) (cI cT : ClassId) (a0 : Nat) (tp : Nat) (bt : Nat → Nat) (ex : Nat → Bool) (Ls : Nat → List (Nat × Int32)) (W : va_W) (z1 : Int32) (z2 : Int32) (y3 : Int64) (z4 : Int32) (hC : CWd cI cT a0 tp bt ex Ls W) : Met l yX10_best wp_m_best ({ frames := 4, cells := 0, slots := 0, locals := 150 }) (PcWS D adK adV [.ref a0, .int z1, .int z2, .long y3, .int z4] sz W [(cI, .int), (cT, .object RX9)]) (va_Ql (fun r (u : va_W) => CWd cI cT a0 tp bt ex Ls u) (QB D [(cI, .int), (cT, .object RX9)] W sz) (va_A W sz)) 0 0 (va_A W sz) := by
  obtain ⟨ox, ob3, og, oq, ow, ft, xt, xp, xi, xq, xm, wt, rfl, htp, ht9, hp9, hi9, hq9, hm9, hok9, hex9, hpm⟩ := id hC
  rcases pick hok9 z1 with hno | ⟨k, b, hk, rfl, hft, hT⟩
  · skip
    exact lift_RCl (n_best l D sz ox ob3 og oq ow cI cT tp ft z1 z2 y3 z4 hno) [1] rfl (fun w h => List.mem_append_left _ h) ⟨(Nat.le_of_ble_eq_true rfl), (Nat.le_of_ble_eq_true rfl), (Nat.le_of_ble_eq_true rfl), (Nat.le_of_ble_eq_true rfl)⟩ ⟨(Nat.le_of_ble_eq_true rfl), (Nat.le_of_ble_eq_true rfl)⟩ (pf_c hpm) (fun r _ => hC)
  · obtain ⟨ob, tb, ts, tg, tl, tc, tr, tu, tv, tw, sd, da, db, pr, cn, fk, fv, nb, ka, kb, sm, ln, fh, ff, fa, fs, fj, fr, fo, fx, rfl, hTb, hKv, hwk⟩ := hT
    have hth := hex9.th hk hft
    obtain ⟨po3, sd3, da3, db3, pr3, nb3, ka3, kb3, sm3, ln3, fh3, ff3, fa3, fs3, fj3, fr3, fo3, fx3, hL3, hO3, rfl⟩ := hp9
    exact lift_WCl (s_best l D sz ox ob3 og oq ow ob cI cT tp ft po3 sd3 da3 db3 pr3 nb3 ka3 kb3 sm3 ln3 fh3 ff3 fa3 fs3 fj3 fr3 fo3 fx3 tb ts tg tl tc tr tu tv tw sd da db pr cn fk fv nb ka kb sm ln fh ff fa fs fj fr fo fx k z2 y3 z4 hk hft hTb hL3 hO3) [0, 1] rfl (fun w h => List.mem_append_right _ (h)) ⟨(Nat.le_of_ble_eq_true rfl), (Nat.le_of_ble_eq_true rfl), (Nat.le_of_ble_eq_true rfl), (Nat.le_of_ble_eq_true rfl)⟩ ⟨(Nat.le_of_ble_eq_true rfl), (Nat.le_of_ble_eq_true rfl)⟩ (pf_cpT hk hwk hpm) (fun r u h => ⟨ox, ob3, og, oq, ow, ft, _, _, _, _, _, _, rfl, htp, ht9, ⟨po3, u.1, u.2.1, u.2.2.1, u.2.2.2.1, u.2.2.2.2.1, u.2.2.2.2.2.1, u.2.2.2.2.2.2.1, sm3, u.2.2.2.2.2.2.2.1, u.2.2.2.2.2.2.2.2.1, ff3, fa3, fs3, u.2.2.2.2.2.2.2.2.2, fr3, fo3, fx3, h.1, h.2, rfl⟩, hi9, hq9, hm9, okW.set0 hok9 hft ⟨ob, tb, ts, tg, tl, tc, tr, tu, tv, tw, sd, da, db, pr, cn, fk, fv, nb, ka, kb, sm, ln, fh, ff, fa, fs, fj, fr, fo, fx, rfl, hTb, hKv, rfl⟩, hex9, List.Perm.symm (pr_cpT hk)⟩)

def wp_m_inner : List Cond := wp_n_inner ++ (wp_s_inner)
set_option maxHeartbeats 4000000 in
theorem m_inner (l : Launch) (D : va_G) (sz : Nat) (adK adV : Nat → Nat) (cI cT : ClassId) (a0 : Nat) (tp : Nat) (bt : Nat → Nat) (ex : Nat → Bool) (Ls : Nat → List (Nat × Int32)) (W : va_W) (z1 : Int32) (z2 : Int32) (z3 : Int32) (z4 : Int32) (hC : CWd cI cT a0 tp bt ex Ls W) : Met l yX10_inner wp_m_inner ({ frames := 3, cells := 0, slots := 0, locals := 114 }) (PcWS D adK adV [.ref a0, .int z1, .int z2, .int z3, .int z4] sz W [(cI, .int), (cT, .object RX9)]) (va_Qi (fun r (u : va_W) => CWd cI cT a0 tp bt ex Ls u) (QB D [(cI, .int), (cT, .object RX9)] W sz) (va_A W sz)) 0 0 (va_A W sz) := by
  obtain ⟨ox, ob3, og, oq, ow, ft, xt, xp, xi, xq, xm, wt, rfl, htp, ht9, hp9, hi9, hq9, hm9, hok9, hex9, hpm⟩ := id hC
  rcases pick hok9 z1 with hno | ⟨k, b, hk, rfl, hft, hT⟩
  · skip
    exact lift_RCi (n_inner l D sz ox ob3 og oq ow cI cT tp ft z1 z2 z3 z4 hno) [1] rfl (fun w h => List.mem_append_left _ h) ⟨(Nat.le_of_ble_eq_true rfl), (Nat.le_of_ble_eq_true rfl), (Nat.le_of_ble_eq_true rfl), (Nat.le_of_ble_eq_true rfl)⟩ ⟨(Nat.le_of_ble_eq_true rfl), (Nat.le_of_ble_eq_true rfl)⟩ (pf_c hpm) (fun r _ => hC)
  · obtain ⟨ob, tb, ts, tg, tl, tc, tr, tu, tv, tw, sd, da, db, pr, cn, fk, fv, nb, ka, kb, sm, ln, fh, ff, fa, fs, fj, fr, fo, fx, rfl, hTb, hKv, hwk⟩ := hT
    have hth := hex9.th hk hft
    obtain ⟨po3, sd3, da3, db3, pr3, nb3, ka3, kb3, sm3, ln3, fh3, ff3, fa3, fs3, fj3, fr3, fo3, fx3, hL3, hO3, rfl⟩ := hp9
    exact lift_WCi (s_inner l D sz ox ob3 og oq ow ob cI cT tp ft po3 sd3 da3 db3 pr3 nb3 ka3 kb3 sm3 ln3 fh3 ff3 fa3 fs3 fj3 fr3 fo3 fx3 tb ts tg tl tc tr tu tv tw sd da db pr cn fk fv nb ka kb sm ln fh ff fa fs fj fr fo fx k z2 z3 z4 hk hft hTb hL3 hO3) [0, 1] rfl (fun w h => List.mem_append_right _ (h)) ⟨(Nat.le_of_ble_eq_true rfl), (Nat.le_of_ble_eq_true rfl), (Nat.le_of_ble_eq_true rfl), (Nat.le_of_ble_eq_true rfl)⟩ ⟨(Nat.le_of_ble_eq_true rfl), (Nat.le_of_ble_eq_true rfl)⟩ (pf_cpT hk hwk hpm) (fun r u h => ⟨ox, ob3, og, oq, ow, ft, _, _, _, _, _, _, rfl, htp, ht9, ⟨po3, sd3, da3, db3, pr3, nb3, ka3, kb3, sm3, ln3, fh3, ff3, fa3, fs3, fj3, u.1, fo3, fx3, hL3, hO3, rfl⟩, hi9, hq9, hm9, okW.set0 hok9 hft ⟨ob, tb, ts, tg, tl, tc, tr, tu, tv, tw, sd, da, db, pr, cn, fk, fv, nb, ka, kb, sm, ln, fh, ff, fa, fs, fj, fr, u.2, fx, rfl, h, hKv, rfl⟩, hex9, List.Perm.symm (pr_cpT hk)⟩)

def wp_m_tries : List Cond := wp_n_tries ++ (wp_s_tries)
set_option maxHeartbeats 4000000 in
theorem m_tries (l : Launch) (D : va_G) (sz : Nat) (adK adV : Nat → Nat) (cI cT : ClassId) (a0 : Nat) (tp : Nat) (bt : Nat → Nat) (ex : Nat → Bool) (Ls : Nat → List (Nat × Int32)) (W : va_W) (z1 : Int32) (z2 : Int32) (z3 : Int32) (y4 : Int64) (z5 : Int32) (hC : CWd cI cT a0 tp bt ex Ls W) : Met l yX10_tries wp_m_tries ({ frames := 4, cells := 0, slots := 0, locals := 171 }) (PcWS D adK adV [.ref a0, .int z1, .int z2, .int z3, .long y4, .int z5] sz W [(cI, .int), (cT, .object RX9)]) (va_Qi (fun r (u : va_W) => CWd cI cT a0 tp bt ex Ls u) (QB D [(cI, .int), (cT, .object RX9)] W sz) (va_A W sz)) 0 0 (va_A W sz) := by
  obtain ⟨ox, ob3, og, oq, ow, ft, xt, xp, xi, xq, xm, wt, rfl, htp, ht9, hp9, hi9, hq9, hm9, hok9, hex9, hpm⟩ := id hC
  rcases pick hok9 z1 with hno | ⟨k, b, hk, rfl, hft, hT⟩
  · skip
    exact lift_RCi (n_tries l D sz ox ob3 og oq ow cI cT tp ft z1 z2 z3 y4 z5 hno) [1] rfl (fun w h => List.mem_append_left _ h) ⟨(Nat.le_of_ble_eq_true rfl), (Nat.le_of_ble_eq_true rfl), (Nat.le_of_ble_eq_true rfl), (Nat.le_of_ble_eq_true rfl)⟩ ⟨(Nat.le_of_ble_eq_true rfl), (Nat.le_of_ble_eq_true rfl)⟩ (pf_c hpm) (fun r _ => hC)
  · obtain ⟨ob, tb, ts, tg, tl, tc, tr, tu, tv, tw, sd, da, db, pr, cn, fk, fv, nb, ka, kb, sm, ln, fh, ff, fa, fs, fj, fr, fo, fx, rfl, hTb, hKv, hwk⟩ := hT
    have hth := hex9.th hk hft
    obtain ⟨po3, sd3, da3, db3, pr3, nb3, ka3, kb3, sm3, ln3, fh3, ff3, fa3, fs3, fj3, fr3, fo3, fx3, hL3, hO3, rfl⟩ := hp9
    exact lift_WCi (s_tries l D sz ox ob3 og oq ow ob cI cT tp ft po3 sd3 da3 db3 pr3 nb3 ka3 kb3 sm3 ln3 fh3 ff3 fa3 fs3 fj3 fr3 fo3 fx3 tb ts tg tl tc tr tu tv tw sd da db pr cn fk fv nb ka kb sm ln fh ff fa fs fj fr fo fx k z2 z3 y4 z5 hk hft hTb hL3 hO3) [0, 1] rfl (fun w h => List.mem_append_right _ (h)) ⟨(Nat.le_of_ble_eq_true rfl), (Nat.le_of_ble_eq_true rfl), (Nat.le_of_ble_eq_true rfl), (Nat.le_of_ble_eq_true rfl)⟩ ⟨(Nat.le_of_ble_eq_true rfl), (Nat.le_of_ble_eq_true rfl)⟩ (pf_cpT hk hwk hpm) (fun r u h => ⟨ox, ob3, og, oq, ow, ft, _, _, _, _, _, _, rfl, htp, ht9, ⟨po3, u.2.2.1, u.2.2.2.1, u.2.2.2.2.1, u.2.2.2.2.2, nb3, ka3, kb3, sm3, ln3, fh3, ff3, fa3, fs3, fj3, u.1, fo3, fx3, hL3, hO3, rfl⟩, hi9, hq9, hm9, okW.set0 hok9 hft ⟨ob, tb, ts, tg, tl, tc, tr, tu, tv, tw, sd, da, db, pr, cn, fk, fv, nb, ka, kb, sm, ln, fh, ff, fa, fs, fj, fr, u.2.1, fx, rfl, h, hKv, rfl⟩, hex9, List.Perm.symm (pr_cpT hk)⟩)

def wp_m_would : List Cond := wp_n_would ++ (wp_s_would)
set_option maxHeartbeats 4000000 in
theorem m_would (l : Launch) (D : va_G) (sz : Nat) (adK adV : Nat → Nat) (cI cT : ClassId) (a0 : Nat) (tp : Nat) (bt : Nat → Nat) (ex : Nat → Bool) (Ls : Nat → List (Nat × Int32)) (W : va_W) (z1 : Int32) (z2 : Int32) (hC : CWd cI cT a0 tp bt ex Ls W) : Met l yX10_would wp_m_would ({ frames := 3, cells := 0, slots := 0, locals := 70 }) (PcWS D adK adV [.ref a0, .int z1, .int z2] sz W [(cI, .int), (cT, .object RX9)]) (va_Qi (fun r (u : va_W) => CWd cI cT a0 tp bt ex Ls u) (QB D [(cI, .int), (cT, .object RX9)] W sz) (va_A W sz)) 0 0 (va_A W sz) := by
  obtain ⟨ox, ob3, og, oq, ow, ft, xt, xp, xi, xq, xm, wt, rfl, htp, ht9, hp9, hi9, hq9, hm9, hok9, hex9, hpm⟩ := id hC
  rcases pick hok9 z1 with hno | ⟨k, b, hk, rfl, hft, hT⟩
  · skip
    exact lift_RCi (n_would l D sz ox ob3 og oq ow cI cT tp ft z1 z2 hno) [1] rfl (fun w h => List.mem_append_left _ h) ⟨(Nat.le_of_ble_eq_true rfl), (Nat.le_of_ble_eq_true rfl), (Nat.le_of_ble_eq_true rfl), (Nat.le_of_ble_eq_true rfl)⟩ ⟨(Nat.le_of_ble_eq_true rfl), (Nat.le_of_ble_eq_true rfl)⟩ (pf_c hpm) (fun r _ => hC)
  · obtain ⟨ob, tb, ts, tg, tl, tc, tr, tu, tv, tw, sd, da, db, pr, cn, fk, fv, nb, ka, kb, sm, ln, fh, ff, fa, fs, fj, fr, fo, fx, rfl, hTb, hKv, hwk⟩ := hT
    have hth := hex9.th hk hft
    exact lift_RCi (s_would l D sz ox ob3 og oq ow ob cI cT tp ft tb ts tg tl tc tr tu tv tw sd da db pr cn fk fv nb ka kb sm ln fh ff fa fs fj fr fo fx k z2 hk hft hTb) [0, 1] rfl (fun w h => List.mem_append_right _ (h)) ⟨(Nat.le_of_ble_eq_true rfl), (Nat.le_of_ble_eq_true rfl), (Nat.le_of_ble_eq_true rfl), (Nat.le_of_ble_eq_true rfl)⟩ ⟨(Nat.le_of_ble_eq_true rfl), (Nat.le_of_ble_eq_true rfl)⟩ (pf_cT hk hwk hpm) (fun r _ => hC)

def wp_m_frozen : List Cond := wp_n_frozen ++ (wp_s_frozen)
set_option maxHeartbeats 4000000 in
theorem m_frozen (l : Launch) (D : va_G) (sz : Nat) (adK adV : Nat → Nat) (cI cT : ClassId) (a0 : Nat) (tp : Nat) (bt : Nat → Nat) (ex : Nat → Bool) (Ls : Nat → List (Nat × Int32)) (W : va_W) (z1 : Int32) (y2 : Int64) (z3 : Int32) (hC : CWd cI cT a0 tp bt ex Ls W) : Met l yX10_frozen wp_m_frozen ({ frames := 5, cells := 0, slots := 0, locals := 176 }) (PcWS D adK adV [.ref a0, .int z1, .long y2, .int z3] sz W [(cI, .int), (cT, .object RX9)]) (va_Ql (fun r (u : va_W) => CWd cI cT a0 tp bt ex Ls u) (QB D [(cI, .int), (cT, .object RX9)] W sz) (va_A W sz)) 0 0 (va_A W sz) := by
  obtain ⟨ox, ob3, og, oq, ow, ft, xt, xp, xi, xq, xm, wt, rfl, htp, ht9, hp9, hi9, hq9, hm9, hok9, hex9, hpm⟩ := id hC
  rcases pick hok9 z1 with hno | ⟨k, b, hk, rfl, hft, hT⟩
  · skip
    exact lift_RCl (n_frozen l D sz ox ob3 og oq ow cI cT tp ft z1 y2 z3 hno) [1] rfl (fun w h => List.mem_append_left _ h) ⟨(Nat.le_of_ble_eq_true rfl), (Nat.le_of_ble_eq_true rfl), (Nat.le_of_ble_eq_true rfl), (Nat.le_of_ble_eq_true rfl)⟩ ⟨(Nat.le_of_ble_eq_true rfl), (Nat.le_of_ble_eq_true rfl)⟩ (pf_c hpm) (fun r _ => hC)
  · obtain ⟨ob, tb, ts, tg, tl, tc, tr, tu, tv, tw, sd, da, db, pr, cn, fk, fv, nb, ka, kb, sm, ln, fh, ff, fa, fs, fj, fr, fo, fx, rfl, hTb, hKv, hwk⟩ := hT
    have hth := hex9.th hk hft
    obtain ⟨po3, sd3, da3, db3, pr3, nb3, ka3, kb3, sm3, ln3, fh3, ff3, fa3, fs3, fj3, fr3, fo3, fx3, hL3, hO3, rfl⟩ := hp9
    exact lift_WCl (s_frozen l D sz ox ob3 og oq ow ob cI cT tp ft po3 sd3 da3 db3 pr3 nb3 ka3 kb3 sm3 ln3 fh3 ff3 fa3 fs3 fj3 fr3 fo3 fx3 tb ts tg tl tc tr tu tv tw sd da db pr cn fk fv nb ka kb sm ln fh ff fa fs fj fr fo fx k y2 z3 hk hft hTb hL3 hO3) [0, 1] rfl (fun w h => List.mem_append_right _ (h)) ⟨(Nat.le_of_ble_eq_true rfl), (Nat.le_of_ble_eq_true rfl), (Nat.le_of_ble_eq_true rfl), (Nat.le_of_ble_eq_true rfl)⟩ ⟨(Nat.le_of_ble_eq_true rfl), (Nat.le_of_ble_eq_true rfl)⟩ (pf_cpT hk hwk hpm) (fun r u h => ⟨ox, ob3, og, oq, ow, ft, _, _, _, _, _, _, rfl, htp, ht9, ⟨u.1, u.2.1, u.2.2.1, u.2.2.2.1, u.2.2.2.2.1, u.2.2.2.2.2.1, u.2.2.2.2.2.2.1, u.2.2.2.2.2.2.2.1, u.2.2.2.2.2.2.2.2.1, u.2.2.2.2.2.2.2.2.2.1, u.2.2.2.2.2.2.2.2.2.2.1, u.2.2.2.2.2.2.2.2.2.2.2.1, u.2.2.2.2.2.2.2.2.2.2.2.2.1, u.2.2.2.2.2.2.2.2.2.2.2.2.2.1, u.2.2.2.2.2.2.2.2.2.2.2.2.2.2.1, u.2.2.2.2.2.2.2.2.2.2.2.2.2.2.2.1, u.2.2.2.2.2.2.2.2.2.2.2.2.2.2.2.2.1, u.2.2.2.2.2.2.2.2.2.2.2.2.2.2.2.2.2, h.1, h.2, rfl⟩, hi9, hq9, hm9, okW.set0 hok9 hft ⟨ob, tb, ts, tg, tl, tc, tr, tu, tv, tw, sd, da, db, pr, cn, fk, fv, nb, ka, kb, sm, ln, fh, ff, fa, fs, fj, fr, fo, fx, rfl, hTb, hKv, rfl⟩, hex9, List.Perm.symm (pr_cpT hk)⟩)

def wp_m_frozenAt : List Cond := wp_n_frozenAt ++ (wp_s_frozenAt)
set_option maxHeartbeats 4000000 in
theorem m_frozenAt (l : Launch) (D : va_G) (sz : Nat) (adK adV : Nat → Nat) (cI cT : ClassId) (a0 : Nat) (tp : Nat) (bt : Nat → Nat) (ex : Nat → Bool) (Ls : Nat → List (Nat × Int32)) (W : va_W) (z1 : Int32) (y2 : Int64) (z3 : Int32) (hC : CWd cI cT a0 tp bt ex Ls W) : Met l yX10_frozenAt wp_m_frozenAt ({ frames := 5, cells := 0, slots := 0, locals := 176 }) (PcWS D adK adV [.ref a0, .int z1, .long y2, .int z3] sz W [(cI, .int), (cT, .object RX9)]) (va_Qi (fun r (u : va_W) => CWd cI cT a0 tp bt ex Ls u) (QB D [(cI, .int), (cT, .object RX9)] W sz) (va_A W sz)) 0 0 (va_A W sz) := by
  obtain ⟨ox, ob3, og, oq, ow, ft, xt, xp, xi, xq, xm, wt, rfl, htp, ht9, hp9, hi9, hq9, hm9, hok9, hex9, hpm⟩ := id hC
  rcases pick hok9 z1 with hno | ⟨k, b, hk, rfl, hft, hT⟩
  · skip
    exact lift_RCi (n_frozenAt l D sz ox ob3 og oq ow cI cT tp ft z1 y2 z3 hno) [1] rfl (fun w h => List.mem_append_left _ h) ⟨(Nat.le_of_ble_eq_true rfl), (Nat.le_of_ble_eq_true rfl), (Nat.le_of_ble_eq_true rfl), (Nat.le_of_ble_eq_true rfl)⟩ ⟨(Nat.le_of_ble_eq_true rfl), (Nat.le_of_ble_eq_true rfl)⟩ (pf_c hpm) (fun r _ => hC)
  · obtain ⟨ob, tb, ts, tg, tl, tc, tr, tu, tv, tw, sd, da, db, pr, cn, fk, fv, nb, ka, kb, sm, ln, fh, ff, fa, fs, fj, fr, fo, fx, rfl, hTb, hKv, hwk⟩ := hT
    have hth := hex9.th hk hft
    obtain ⟨po3, sd3, da3, db3, pr3, nb3, ka3, kb3, sm3, ln3, fh3, ff3, fa3, fs3, fj3, fr3, fo3, fx3, hL3, hO3, rfl⟩ := hp9
    exact lift_WCi (s_frozenAt l D sz ox ob3 og oq ow ob cI cT tp ft po3 sd3 da3 db3 pr3 nb3 ka3 kb3 sm3 ln3 fh3 ff3 fa3 fs3 fj3 fr3 fo3 fx3 tb ts tg tl tc tr tu tv tw sd da db pr cn fk fv nb ka kb sm ln fh ff fa fs fj fr fo fx k y2 z3 hk hft hTb hL3 hO3) [0, 1] rfl (fun w h => List.mem_append_right _ (h)) ⟨(Nat.le_of_ble_eq_true rfl), (Nat.le_of_ble_eq_true rfl), (Nat.le_of_ble_eq_true rfl), (Nat.le_of_ble_eq_true rfl)⟩ ⟨(Nat.le_of_ble_eq_true rfl), (Nat.le_of_ble_eq_true rfl)⟩ (pf_cpT hk hwk hpm) (fun r u h => ⟨ox, ob3, og, oq, ow, ft, _, _, _, _, _, _, rfl, htp, ht9, ⟨u.1, u.2.1, u.2.2.1, u.2.2.2.1, u.2.2.2.2.1, u.2.2.2.2.2.1, u.2.2.2.2.2.2.1, u.2.2.2.2.2.2.2.1, u.2.2.2.2.2.2.2.2.1, u.2.2.2.2.2.2.2.2.2.1, u.2.2.2.2.2.2.2.2.2.2.1, u.2.2.2.2.2.2.2.2.2.2.2.1, u.2.2.2.2.2.2.2.2.2.2.2.2.1, u.2.2.2.2.2.2.2.2.2.2.2.2.2.1, u.2.2.2.2.2.2.2.2.2.2.2.2.2.2.1, u.2.2.2.2.2.2.2.2.2.2.2.2.2.2.2.1, u.2.2.2.2.2.2.2.2.2.2.2.2.2.2.2.2.1, u.2.2.2.2.2.2.2.2.2.2.2.2.2.2.2.2.2, h.1, h.2, rfl⟩, hi9, hq9, hm9, okW.set0 hok9 hft ⟨ob, tb, ts, tg, tl, tc, tr, tu, tv, tw, sd, da, db, pr, cn, fk, fv, nb, ka, kb, sm, ln, fh, ff, fa, fs, fj, fr, fo, fx, rfl, hTb, hKv, rfl⟩, hex9, List.Perm.symm (pr_cpT hk)⟩)

def wp_m_values : List Cond := wp_n_values ++ (wp_s_values)
set_option maxHeartbeats 4000000 in
theorem m_values (l : Launch) (D : va_G) (sz : Nat) (adK adV : Nat → Nat) (cI cT : ClassId) (a0 : Nat) (tp : Nat) (bt : Nat → Nat) (ex : Nat → Bool) (Ls : Nat → List (Nat × Int32)) (W : va_W) (z1 : Int32) (z2 : Int32) (hC : CWd cI cT a0 tp bt ex Ls W) : Met l yX10_values wp_m_values ({ frames := 2, cells := 0, slots := 0, locals := 41 }) (PcWS D adK adV [.ref a0, .int z1, .int z2] sz W [(cI, .int), (cT, .object RX9)]) (va_Ql (fun r (u : va_W) => CWd cI cT a0 tp bt ex Ls u ∧ r = vaA (thE ex z1) Ls z1 z2) (QB D [(cI, .int), (cT, .object RX9)] W sz) (va_A W sz)) 0 0 (va_A W sz) := by
  obtain ⟨ox, ob3, og, oq, ow, ft, xt, xp, xi, xq, xm, wt, rfl, htp, ht9, hp9, hi9, hq9, hm9, hok9, hex9, hpm⟩ := id hC
  rcases pick hok9 z1 with hno | ⟨k, b, hk, rfl, hft, hT⟩
  · skip
    exact lift_RCl (n_values l D sz ox ob3 og oq ow cI cT tp ft z1 z2 hno) [1] rfl (fun w h => List.mem_append_left _ h) ⟨(Nat.le_of_ble_eq_true rfl), (Nat.le_of_ble_eq_true rfl), (Nat.le_of_ble_eq_true rfl), (Nat.le_of_ble_eq_true rfl)⟩ ⟨(Nat.le_of_ble_eq_true rfl), (Nat.le_of_ble_eq_true rfl)⟩ (pf_c hpm) (fun r h => ⟨hC, h.trans (vaA_0 (fun q => (hex9.nth hno) q.1)).symm⟩)
  · obtain ⟨ob, tb, ts, tg, tl, tc, tr, tu, tv, tw, sd, da, db, pr, cn, fk, fv, nb, ka, kb, sm, ln, fh, ff, fa, fs, fj, fr, fo, fx, rfl, hTb, hKv, hwk⟩ := hT
    have hth := hex9.th hk hft
    exact lift_RCl (s_values l D sz ox ob3 og oq ow ob cI cT tp ft tb ts tg tl tc tr tu tv tw sd da db pr cn fk fv nb ka kb sm ln fh ff fa fs fj fr fo fx k z2 (Ls k) hk hft hTb hKv) [0, 1] rfl (fun w h => List.mem_append_right _ (h)) ⟨(Nat.le_of_ble_eq_true rfl), (Nat.le_of_ble_eq_true rfl), (Nat.le_of_ble_eq_true rfl), (Nat.le_of_ble_eq_true rfl)⟩ ⟨(Nat.le_of_ble_eq_true rfl), (Nat.le_of_ble_eq_true rfl)⟩ (pf_cT hk hwk hpm) (fun r h => ⟨hC, h.trans (vaA_m hk hth).symm⟩)

def wp_m_run : List Cond := wp_n_run ++ (wp_s_run)
set_option maxHeartbeats 4000000 in
theorem m_run (l : Launch) (D : va_G) (sz : Nat) (adK adV : Nat → Nat) (cI cT : ClassId) (a0 : Nat) (tp : Nat) (bt : Nat → Nat) (ex : Nat → Bool) (Ls : Nat → List (Nat × Int32)) (W : va_W) (z1 : Int32) (hC : CWd cI cT a0 tp bt ex Ls W) : Met l yX10_run wp_m_run ({ frames := 11, cells := 0, slots := 0, locals := 364 }) (PcWS D adK adV [.ref a0, .int z1] sz W [(cI, .int), (cT, .object RX9)]) (va_Qi (fun r (u : va_W) => ∃ Lt, CWd cI cT a0 (rnT tp ex z1) bt ex Lt u ∧ crQ (thE ex z1) bt tp Ls Lt z1 r) (QB D [(cI, .int), (cT, .object RX9)] W sz) (va_A W sz)) 0 0 (va_A W sz) := by
  obtain ⟨ox, ob3, og, oq, ow, ft, xt, xp, xi, xq, xm, wt, rfl, htp, ht9, hp9, hi9, hq9, hm9, hok9, hex9, hpm⟩ := id hC
  rcases pick hok9 z1 with hno | ⟨k, b, hk, rfl, hft, hT⟩
  · skip
    exact lift_RSi (n_run l D sz adK adV ox ob3 og oq ow cI cT tp ft z1 hno) [1] rfl (fun w h => List.mem_append_left _ h) ⟨(Nat.le_of_ble_eq_true rfl), (Nat.le_of_ble_eq_true rfl), (Nat.le_of_ble_eq_true rfl), (Nat.le_of_ble_eq_true rfl)⟩ ⟨(Nat.le_of_ble_eq_true rfl), (Nat.le_of_ble_eq_true rfl)⟩ (pf_c hpm) (fun r h => by
      rw [rn_0 (hex9.nth hno)]
      exact ⟨Ls, hC, Or.inr ⟨(hex9.nth hno), rfl, h⟩⟩)
  · obtain ⟨ob, tb, ts, tg, tl, tc, tr, tu, tv, tw, sd, da, db, pr, cn, fk, fv, nb, ka, kb, sm, ln, fh, ff, fa, fs, fj, fr, fo, fx, rfl, hTb, hKv, hwk⟩ := hT
    have hth := hex9.th hk hft
    obtain ⟨fT, hbt, rfl⟩ := ht9
    obtain ⟨qf, qp, qd, qs, qt, qb, qh, qr, qn, bk, wz, pz, fK, fN, fL, tx, zl, ta, be, ki, nu, wo, fO, fW, rfl⟩ := hq9
    obtain ⟨st, rf, lt, en, lo, oz, fR, fP, rfl⟩ := hm9
    exact lift_WSi (s_run l D sz adK adV ox ob3 og oq ow ob cI cT tp ft fT qf qp qd qs qt qb qh qr qn bk wz pz fK fN fL tx zl ta be ki nu wo fO fW st rf lt en lo oz fR fP tb ts tg tl tc tr tu tv tw sd da db pr cn fk fv nb ka kb sm ln fh ff fa fs fj fr fo fx k bt (Ls k) hk hft hTb htp hbt hKv) [0, 1] rfl (fun w h => List.mem_append_right _ (h)) ⟨(Nat.le_of_ble_eq_true rfl), (Nat.le_of_ble_eq_true rfl), (Nat.le_of_ble_eq_true rfl), (Nat.le_of_ble_eq_true rfl)⟩ ⟨(Nat.le_of_ble_eq_true rfl), (Nat.le_of_ble_eq_true rfl)⟩ (pf_ctqmT hk hwk hpm) (fun r u h => by
      obtain ⟨Lz, hz1, hz2⟩ := h.2.2
      rw [rn_1 hth]
      exact ⟨updS Ls k Lz, CWd.to (t := u.1) ⟨ox, ob3, og, oq, ow, ft, _, _, _, _, _, _, rfl, (Nat.le_trans (Nat.le_of_eq h.1) (Nat.zero_le _)), ⟨fT, hbt, rfl⟩, hp9, hi9, ⟨u.2.1, u.2.2.1, u.2.2.2.1, u.2.2.2.2.1, u.2.2.2.2.2.1, u.2.2.2.2.2.2.1, u.2.2.2.2.2.2.2.1, u.2.2.2.2.2.2.2.2.1, u.2.2.2.2.2.2.2.2.2.1, u.2.2.2.2.2.2.2.2.2.2.1, u.2.2.2.2.2.2.2.2.2.2.2.1, u.2.2.2.2.2.2.2.2.2.2.2.2.2.2.1, u.2.2.2.2.2.2.2.2.2.2.2.2.2.2.2.1, u.2.2.2.2.2.2.2.2.2.2.2.2.2.2.2.2.1, u.2.2.2.2.2.2.2.2.2.2.2.2.2.2.2.2.2.1, u.2.2.2.2.2.2.2.2.2.2.2.2.2.2.2.2.2.2.1, u.2.2.2.2.2.2.2.2.2.2.2.2.2.2.2.2.2.2.2.1, u.2.2.2.2.2.2.2.2.2.2.2.2.2.2.2.2.2.2.2.2.1, u.2.2.2.2.2.2.2.2.2.2.2.2.2.2.2.2.2.2.2.2.2.1, u.2.2.2.2.2.2.2.2.2.2.2.2.2.2.2.2.2.2.2.2.2.2.1, u.2.2.2.2.2.2.2.2.2.2.2.2.2.2.2.2.2.2.2.2.2.2.2.1, u.2.2.2.2.2.2.2.2.2.2.2.2.2.2.2.2.2.2.2.2.2.2.2.2.1, u.2.2.2.2.2.2.2.2.2.2.2.2.1, u.2.2.2.2.2.2.2.2.2.2.2.2.2.1, rfl⟩, ⟨u.2.2.2.2.2.2.2.2.2.2.2.2.2.2.2.2.2.2.2.2.2.2.2.2.2.1, u.2.2.2.2.2.2.2.2.2.2.2.2.2.2.2.2.2.2.2.2.2.2.2.2.2.2.1, u.2.2.2.2.2.2.2.2.2.2.2.2.2.2.2.2.2.2.2.2.2.2.2.2.2.2.2.1, u.2.2.2.2.2.2.2.2.2.2.2.2.2.2.2.2.2.2.2.2.2.2.2.2.2.2.2.2.1, u.2.2.2.2.2.2.2.2.2.2.2.2.2.2.2.2.2.2.2.2.2.2.2.2.2.2.2.2.2.1, u.2.2.2.2.2.2.2.2.2.2.2.2.2.2.2.2.2.2.2.2.2.2.2.2.2.2.2.2.2.2.1, u.2.2.2.2.2.2.2.2.2.2.2.2.2.2.2.2.2.2.2.2.2.2.2.2.2.2.2.2.2.2.2.1, u.2.2.2.2.2.2.2.2.2.2.2.2.2.2.2.2.2.2.2.2.2.2.2.2.2.2.2.2.2.2.2.2.1, rfl⟩, okW.set hok9 hft ⟨ob, tb, ts, tg, u.2.2.2.2.2.2.2.2.2.2.2.2.2.2.2.2.2.2.2.2.2.2.2.2.2.2.2.2.2.2.2.2.2.2.1, u.2.2.2.2.2.2.2.2.2.2.2.2.2.2.2.2.2.2.2.2.2.2.2.2.2.2.2.2.2.2.2.2.2.2.2.1, u.2.2.2.2.2.2.2.2.2.2.2.2.2.2.2.2.2.2.2.2.2.2.2.2.2.2.2.2.2.2.2.2.2.1, u.2.2.2.2.2.2.2.2.2.2.2.2.2.2.2.2.2.2.2.2.2.2.2.2.2.2.2.2.2.2.2.2.2.2.2.2.1, u.2.2.2.2.2.2.2.2.2.2.2.2.2.2.2.2.2.2.2.2.2.2.2.2.2.2.2.2.2.2.2.2.2.2.2.2.2.1, u.2.2.2.2.2.2.2.2.2.2.2.2.2.2.2.2.2.2.2.2.2.2.2.2.2.2.2.2.2.2.2.2.2.2.2.2.2.2.1, u.2.2.2.2.2.2.2.2.2.2.2.2.2.2.2.2.2.2.2.2.2.2.2.2.2.2.2.2.2.2.2.2.2.2.2.2.2.2.2.1, u.2.2.2.2.2.2.2.2.2.2.2.2.2.2.2.2.2.2.2.2.2.2.2.2.2.2.2.2.2.2.2.2.2.2.2.2.2.2.2.2.1, u.2.2.2.2.2.2.2.2.2.2.2.2.2.2.2.2.2.2.2.2.2.2.2.2.2.2.2.2.2.2.2.2.2.2.2.2.2.2.2.2.2.1, u.2.2.2.2.2.2.2.2.2.2.2.2.2.2.2.2.2.2.2.2.2.2.2.2.2.2.2.2.2.2.2.2.2.2.2.2.2.2.2.2.2.2.1, u.2.2.2.2.2.2.2.2.2.2.2.2.2.2.2.2.2.2.2.2.2.2.2.2.2.2.2.2.2.2.2.2.2.2.2.2.2.2.2.2.2.2.2.1, u.2.2.2.2.2.2.2.2.2.2.2.2.2.2.2.2.2.2.2.2.2.2.2.2.2.2.2.2.2.2.2.2.2.2.2.2.2.2.2.2.2.2.2.2.1, u.2.2.2.2.2.2.2.2.2.2.2.2.2.2.2.2.2.2.2.2.2.2.2.2.2.2.2.2.2.2.2.2.2.2.2.2.2.2.2.2.2.2.2.2.2.1, u.2.2.2.2.2.2.2.2.2.2.2.2.2.2.2.2.2.2.2.2.2.2.2.2.2.2.2.2.2.2.2.2.2.2.2.2.2.2.2.2.2.2.2.2.2.2.1, u.2.2.2.2.2.2.2.2.2.2.2.2.2.2.2.2.2.2.2.2.2.2.2.2.2.2.2.2.2.2.2.2.2.2.2.2.2.2.2.2.2.2.2.2.2.2.2.1, u.2.2.2.2.2.2.2.2.2.2.2.2.2.2.2.2.2.2.2.2.2.2.2.2.2.2.2.2.2.2.2.2.2.2.2.2.2.2.2.2.2.2.2.2.2.2.2.2.1, u.2.2.2.2.2.2.2.2.2.2.2.2.2.2.2.2.2.2.2.2.2.2.2.2.2.2.2.2.2.2.2.2.2.2.2.2.2.2.2.2.2.2.2.2.2.2.2.2.2.1, u.2.2.2.2.2.2.2.2.2.2.2.2.2.2.2.2.2.2.2.2.2.2.2.2.2.2.2.2.2.2.2.2.2.2.2.2.2.2.2.2.2.2.2.2.2.2.2.2.2.2.1, u.2.2.2.2.2.2.2.2.2.2.2.2.2.2.2.2.2.2.2.2.2.2.2.2.2.2.2.2.2.2.2.2.2.2.2.2.2.2.2.2.2.2.2.2.2.2.2.2.2.2.2.1, u.2.2.2.2.2.2.2.2.2.2.2.2.2.2.2.2.2.2.2.2.2.2.2.2.2.2.2.2.2.2.2.2.2.2.2.2.2.2.2.2.2.2.2.2.2.2.2.2.2.2.2.2.1, u.2.2.2.2.2.2.2.2.2.2.2.2.2.2.2.2.2.2.2.2.2.2.2.2.2.2.2.2.2.2.2.2.2.2.2.2.2.2.2.2.2.2.2.2.2.2.2.2.2.2.2.2.2.1, u.2.2.2.2.2.2.2.2.2.2.2.2.2.2.2.2.2.2.2.2.2.2.2.2.2.2.2.2.2.2.2.2.2.2.2.2.2.2.2.2.2.2.2.2.2.2.2.2.2.2.2.2.2.2.1, u.2.2.2.2.2.2.2.2.2.2.2.2.2.2.2.2.2.2.2.2.2.2.2.2.2.2.2.2.2.2.2.2.2.2.2.2.2.2.2.2.2.2.2.2.2.2.2.2.2.2.2.2.2.2.2.1, u.2.2.2.2.2.2.2.2.2.2.2.2.2.2.2.2.2.2.2.2.2.2.2.2.2.2.2.2.2.2.2.2.2.2.2.2.2.2.2.2.2.2.2.2.2.2.2.2.2.2.2.2.2.2.2.2.1, u.2.2.2.2.2.2.2.2.2.2.2.2.2.2.2.2.2.2.2.2.2.2.2.2.2.2.2.2.2.2.2.2.2.2.2.2.2.2.2.2.2.2.2.2.2.2.2.2.2.2.2.2.2.2.2.2.2.1, u.2.2.2.2.2.2.2.2.2.2.2.2.2.2.2.2.2.2.2.2.2.2.2.2.2.2.2.2.2.2.2.2.2.2.2.2.2.2.2.2.2.2.2.2.2.2.2.2.2.2.2.2.2.2.2.2.2.2, rfl, h.2.1, hz1, rfl⟩, hex9, List.Perm.symm (pr_ctqmT hk)⟩ h.1, crQ_1 hk hth hz2⟩)

def wp_m_image : List Cond := wp_n_image ++ (wp_s_image)
set_option maxHeartbeats 4000000 in
theorem m_image (l : Launch) (D : va_G) (sz : Nat) (adK adV : Nat → Nat) (cI cT : ClassId) (a0 : Nat) (tp : Nat) (bt : Nat → Nat) (ex : Nat → Bool) (Ls : Nat → List (Nat × Int32)) (W : va_W) (z1 : Int32) (hC : CWd cI cT a0 tp bt ex Ls W) : Met l yX10_image wp_m_image ({ frames := 2, cells := 0, slots := 0, locals := 84 }) (PcWS D adK adV [.ref a0, .int z1] sz W [(cI, .int), (cT, .object RX9)]) (va_Qi (fun r (u : va_W) => CWd cI cT a0 tp bt ex Ls u ∧ r = imA (thE ex z1) Ls z1) (QB D [(cI, .int), (cT, .object RX9)] W sz) (va_A W sz)) 0 0 (va_A W sz) := by
  obtain ⟨ox, ob3, og, oq, ow, ft, xt, xp, xi, xq, xm, wt, rfl, htp, ht9, hp9, hi9, hq9, hm9, hok9, hex9, hpm⟩ := id hC
  rcases pick hok9 z1 with hno | ⟨k, b, hk, rfl, hft, hT⟩
  · skip
    exact lift_RCi (n_image l D sz ox ob3 og oq ow cI cT tp ft z1 hno) [1] rfl (fun w h => List.mem_append_left _ h) ⟨(Nat.le_of_ble_eq_true rfl), (Nat.le_of_ble_eq_true rfl), (Nat.le_of_ble_eq_true rfl), (Nat.le_of_ble_eq_true rfl)⟩ ⟨(Nat.le_of_ble_eq_true rfl), (Nat.le_of_ble_eq_true rfl)⟩ (pf_c hpm) (fun r h => ⟨hC, h.trans (imA_0 (hex9.nth hno)).symm⟩)
  · obtain ⟨ob, tb, ts, tg, tl, tc, tr, tu, tv, tw, sd, da, db, pr, cn, fk, fv, nb, ka, kb, sm, ln, fh, ff, fa, fs, fj, fr, fo, fx, rfl, hTb, hKv, hwk⟩ := hT
    have hth := hex9.th hk hft
    obtain ⟨il, fi, hil, rfl⟩ := hi9
    exact lift_WCi (s_image l D sz ox ob3 og oq ow ob cI cT tp ft il fi tb ts tg tl tc tr tu tv tw sd da db pr cn fk fv nb ka kb sm ln fh ff fa fs fj fr fo fx k hk hft hTb) [0, 1] rfl (fun w h => List.mem_append_right _ (h)) ⟨(Nat.le_of_ble_eq_true rfl), (Nat.le_of_ble_eq_true rfl), (Nat.le_of_ble_eq_true rfl), (Nat.le_of_ble_eq_true rfl)⟩ ⟨(Nat.le_of_ble_eq_true rfl), (Nat.le_of_ble_eq_true rfl)⟩ (pf_ciT hk hwk hpm) (fun r u h => ⟨⟨ox, ob3, og, oq, ow, ft, _, _, _, _, _, _, rfl, htp, ht9, hp9, ⟨u.1, u.2, h.1, rfl⟩, hq9, hm9, okW.set0 hok9 hft ⟨ob, tb, ts, tg, tl, tc, tr, tu, tv, tw, sd, da, db, pr, cn, fk, fv, nb, ka, kb, sm, ln, fh, ff, fa, fs, fj, fr, fo, fx, rfl, hTb, hKv, rfl⟩, hex9, List.Perm.symm (pr_ciT hk)⟩, h.2.trans (by rw [imA_m hk hth, hKv.len])⟩)

