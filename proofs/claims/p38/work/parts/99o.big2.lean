theorem lift_WCg {l : Launch} {y : MethodName} {ws : List Cond} {rm : Room} {D : va_G} {av : List Value} {sz mc ms : Nat} {wc : va_W} {tysc : List (ClassId × FieldType)} {S : Type} {post : Int32 → S → Prop} {Bv : S → State → Prop} (h : Met l y ws rm (PcWC D av sz wc tysc) (va_Qi post Bv (va_A wc sz)) mc ms (va_A wc sz)) (w1 : S → va_W) (hB : ∀ u t, Bv u t → va_P D vwCl (w1 u) t.heap ∧ va_D (va_A wc sz) (w1 u)) {ws' : List Cond} {rm' : Room} {mc' ms' : Nat} {adK adV : Nat → Nat} {W R : va_W} {tys : List (ClassId × FieldType)} (isT : List Nat) (hT : isT.filterMap (fun i => tys[i]?) = tysc) (hws : ∀ w ∈ ws, w ∈ ws') (hr : rm.frames ≤ rm'.frames ∧ rm.locals ≤ rm'.locals ∧ rm.cells ≤ rm'.cells ∧ rm.slots ≤ rm'.slots) (hm : mc ≤ mc' ∧ ms ≤ ms') (hp : W.Perm (wc ++ R)) {post' : Int32 → va_W → Prop} (hpo : ∀ r u, post r u → post' r (w1 u ++ R)) : Met l y ws' rm' (PcWS D adK adV av sz W tys) (va_Qi post' (QB D tys W sz) (va_A W sz)) mc' ms' (va_A W sz) := by
  refine Met.up h hws hr hm ?_ (fun q hq => va_A.pm hp hq) ?_
  · rintro a s ⟨ha, hsz, hP, hK, hD, hN, hST⟩
    exact ⟨ha, hsz, (hP.pm hp).lf, hK.sub isT hT, (hD.pm hp).lf, hN⟩
  · rintro a s o t ⟨ha, hsz, hP, hK, hD, hN, hST⟩ hW ⟨⟨r, u, ho, hq, hBv⟩, hF⟩
    subst hsz
    have hj := va_jp hP (hD.own (sz := s.heap.size)) hp hF.2 (fun q hq => va_A.pm hp hq) (hB u t hBv).1 (hB u t hBv).2
    exact ⟨⟨r, w1 u ++ R, ho, hpo r u hq, hj.1, va_K.moved hW.alike hK, hj.2⟩, hF.1, fun q h1 h2 => hF.2 q h1 (fun z => h2 (va_A.pm hp z))⟩
theorem okW.no {cI : ClassId} {ft : Nat → Option Nat} {Ls : Nat → List (Nat × Int32)} {wt : Nat → va_W} {k : Nat} (h : okW cI ft Ls wt) (hf : ft k = none) (hL : Ls k = []) : okW cI ft Ls (upW wt k []) := by
  intro j hj
  by_cases e : j = k
  · subst e
    exact Or.inl ⟨hf, by simp only [upW, if_true], hL⟩
  · simp only [upW, if_neg e]
    exact h j hj
def wp_m_feed : List Cond := wp_x_feed
set_option maxHeartbeats 4000000 in
theorem m_feed (l : Launch) (D : va_G) (sz : Nat) (adK adV : Nat → Nat) (cI cT : ClassId) (a0 : Nat) (tp : Nat) (bt : Nat → Nat) (ex : Nat → Bool) (Ls : Nat → List (Nat × Int32)) (W : va_W) (z1 : Int32) (z2 : Int32) (z3 : Int32) (z4 : Int32) (z5 : Int32) (hC : CWd cI cT a0 tp bt ex Ls W) : Met l yX10_feed wp_m_feed ({ frames := 1, cells := 0, slots := 0, locals := 23 }) (PcWS D adK adV [.ref a0, .int z1, .int z2, .int z3, .int z4, .int z5] sz W [(cI, .int), (cT, .object RX9)]) (va_Qi (fun r (u : va_W) => CWd cI cT a0 (fdT tp) (fdB bt tp z1 z2 z3 z4 z5) ex Ls u ∧ r = fdA tp) (QB D [(cI, .int), (cT, .object RX9)] W sz) (va_A W sz)) 0 0 (va_A W sz) := by
  obtain ⟨ox, ob3, og, oq, ow, ft, xt, xp, xi, xq, xm, wt, rfl, htp, ht9, hp9, hi9, hq9, hm9, hok9, hex9, hpm⟩ := id hC
  obtain ⟨fT, hbt, rfl⟩ := ht9
  exact lift_WCi (x_feed l D sz ox ob3 og oq ow cI cT tp ft fT z1 z2 z3 z4 z5 htp) [0, 1] rfl (fun w h => h) ⟨(Nat.le_of_ble_eq_true rfl), (Nat.le_of_ble_eq_true rfl), (Nat.le_of_ble_eq_true rfl), (Nat.le_of_ble_eq_true rfl)⟩ ⟨(Nat.le_of_ble_eq_true rfl), (Nat.le_of_ble_eq_true rfl)⟩ (pf_ct hpm) (fun r u h => by
      obtain ⟨u1, u2⟩ := u
      rcases h with ⟨h1, h2, h3, h4⟩ | ⟨h1, h2, h3, h4⟩
      · obtain rfl : u1 = tp + 20 := h3
        obtain rfl : u2 = wrI5 fT tp z1 z2 z3 z4 z5 := h4
        rw [(fd_1 (bt := bt) (z1 := z1) (z2 := z2) (z3 := z3) (z4 := z4) (z5 := z5) h1).1, (fd_1 h1).2.1, (fd_1 (bt := bt) (z1 := z1) (z2 := z2) (z3 := z3) (z4 := z4) (z5 := z5) h1).2.2]
        exact ⟨⟨ox, ob3, og, oq, ow, ft, _, _, _, _, _, _, rfl, h1, ⟨(wrI5 fT tp z1 z2 z3 z4 z5), hbt.wr5 _ _ _ _ _ _, rfl⟩, hp9, hi9, hq9, hm9, hok9, hex9, List.Perm.symm pr_ct⟩, h2⟩
      · obtain rfl : u1 = tp := h3
        obtain rfl : u2 = fT := h4
        rw [(fd_0 (bt := bt) (z1 := z1) (z2 := z2) (z3 := z3) (z4 := z4) (z5 := z5) h1).1, (fd_0 h1).2.1, (fd_0 (bt := bt) (z1 := z1) (z2 := z2) (z3 := z3) (z4 := z4) (z5 := z5) h1).2.2]
        exact ⟨⟨ox, ob3, og, oq, ow, ft, _, _, _, _, _, _, rfl, htp, ⟨_, hbt, rfl⟩, hp9, hi9, hq9, hm9, hok9, hex9, List.Perm.symm pr_ct⟩, h2⟩)

def wp_m_end : List Cond := wp_x_end
set_option maxHeartbeats 4000000 in
theorem m_end (l : Launch) (D : va_G) (sz : Nat) (adK adV : Nat → Nat) (cI cT : ClassId) (a0 : Nat) (tp : Nat) (bt : Nat → Nat) (ex : Nat → Bool) (Ls : Nat → List (Nat × Int32)) (W : va_W) (z1 : Int32) (hC : CWd cI cT a0 tp bt ex Ls W) : Met l yX10_end wp_m_end ({ frames := 0, cells := 0, slots := 0, locals := 0 }) (PcWS D adK adV [.ref a0, .int z1] sz W [(cI, .int), (cT, .object RX9)]) (va_Qi (fun r (u : va_W) => CWd cI cT a0 (enT tp z1) bt ex Ls u ∧ r = enA tp z1) (QB D [(cI, .int), (cT, .object RX9)] W sz) (va_A W sz)) 0 0 (va_A W sz) := by
  obtain ⟨ox, ob3, og, oq, ow, ft, xt, xp, xi, xq, xm, wt, rfl, htp, ht9, hp9, hi9, hq9, hm9, hok9, hex9, hpm⟩ := id hC
  exact lift_WCi (x_end l D sz ox ob3 og oq ow cI cT tp ft z1 htp) [1] rfl (fun w h => h) ⟨(Nat.le_of_ble_eq_true rfl), (Nat.le_of_ble_eq_true rfl), (Nat.le_of_ble_eq_true rfl), (Nat.le_of_ble_eq_true rfl)⟩ ⟨(Nat.le_of_ble_eq_true rfl), (Nat.le_of_ble_eq_true rfl)⟩ (pf_c hpm) (fun r v h => by
      rcases h with ⟨h1, h2, h3⟩ | ⟨h1, h2, h3⟩
      · subst h2
        rw [(en_1 htp h3).1, (en_1 htp h3).2]
        exact ⟨⟨ox, ob3, og, oq, ow, ft, _, _, _, _, _, _, rfl, (Nat.le_trans h3 htp), ht9, hp9, hi9, hq9, hm9, hok9, hex9, List.Perm.symm pr_c⟩, h1⟩
      · obtain rfl : v = tp := h2
        rw [(en_0 h3).1, (en_0 h3).2]
        exact ⟨⟨ox, ob3, og, oq, ow, ft, _, _, _, _, _, _, rfl, htp, ht9, hp9, hi9, hq9, hm9, hok9, hex9, List.Perm.symm pr_c⟩, h1⟩)

def wp_m_ran : List Cond := wp_x_ran
set_option maxHeartbeats 4000000 in
theorem m_ran (l : Launch) (D : va_G) (sz : Nat) (adK adV : Nat → Nat) (cI cT : ClassId) (a0 : Nat) (tp : Nat) (bt : Nat → Nat) (ex : Nat → Bool) (Ls : Nat → List (Nat × Int32)) (W : va_W) (z1 : Int32) (hC : CWd cI cT a0 tp bt ex Ls W) : Met l yX10_ran wp_m_ran ({ frames := 0, cells := 0, slots := 0, locals := 0 }) (PcWS D adK adV [.ref a0, .int z1] sz W [(cI, .int), (cT, .object RX9)]) (va_Ql (fun r (u : va_W) => CWd cI cT a0 tp bt ex Ls u) (QB D [(cI, .int), (cT, .object RX9)] W sz) (va_A W sz)) 0 0 (va_A W sz) := by
  obtain ⟨ox, ob3, og, oq, ow, ft, xt, xp, xi, xq, xm, wt, rfl, htp, ht9, hp9, hi9, hq9, hm9, hok9, hex9, hpm⟩ := id hC
  obtain ⟨qf, qp, qd, qs, qt, qb, qh, qr, qn, bk, wz, pz, fK, fN, fL, tx, zl, ta, be, ki, nu, wo, fO, fW, rfl⟩ := hq9
  obtain ⟨st, rf, lt, en, lo, oz, fR, fP, rfl⟩ := hm9
  exact lift_RCl (x_ran l D sz ox ob3 og oq ow cI cT tp ft qf qp qd qs qt qb qh qr qn bk wz pz fK fN fL tx zl ta be ki nu wo fO fW st rf lt en lo oz fR fP z1 ) [0, 1] rfl (fun w h => h) ⟨(Nat.le_of_ble_eq_true rfl), (Nat.le_of_ble_eq_true rfl), (Nat.le_of_ble_eq_true rfl), (Nat.le_of_ble_eq_true rfl)⟩ ⟨(Nat.le_of_ble_eq_true rfl), (Nat.le_of_ble_eq_true rfl)⟩ (pf_cqm hpm) (fun r _ => hC)

def wp_m_octet : List Cond := wp_x_octet
set_option maxHeartbeats 4000000 in
theorem m_octet (l : Launch) (D : va_G) (sz : Nat) (adK adV : Nat → Nat) (cI cT : ClassId) (a0 : Nat) (tp : Nat) (bt : Nat → Nat) (ex : Nat → Bool) (Ls : Nat → List (Nat × Int32)) (W : va_W) (z1 : Int32) (hC : CWd cI cT a0 tp bt ex Ls W) : Met l yX10_octet wp_m_octet ({ frames := 0, cells := 0, slots := 0, locals := 0 }) (PcWS D adK adV [.ref a0, .int z1] sz W [(cI, .int), (cT, .object RX9)]) (va_Qi (fun r (u : va_W) => CWd cI cT a0 tp bt ex Ls u) (QB D [(cI, .int), (cT, .object RX9)] W sz) (va_A W sz)) 0 0 (va_A W sz) := by
  obtain ⟨ox, ob3, og, oq, ow, ft, xt, xp, xi, xq, xm, wt, rfl, htp, ht9, hp9, hi9, hq9, hm9, hok9, hex9, hpm⟩ := id hC
  obtain ⟨il, fi, hil, rfl⟩ := hi9
  exact lift_RCi (x_octet l D sz ox ob3 og oq ow cI cT tp ft il fi z1 hil) [0, 1] rfl (fun w h => h) ⟨(Nat.le_of_ble_eq_true rfl), (Nat.le_of_ble_eq_true rfl), (Nat.le_of_ble_eq_true rfl), (Nat.le_of_ble_eq_true rfl)⟩ ⟨(Nat.le_of_ble_eq_true rfl), (Nat.le_of_ble_eq_true rfl)⟩ (pf_ci hpm) (fun r _ => hC)

def wp_m_make : List Cond := wp_s_make ++ (wp_n_make)
set_option maxHeartbeats 4000000 in
theorem m_make (l : Launch) (D : va_G) (sz : Nat) (adK adV : Nat → Nat) (cI cT : ClassId) (a0 : Nat) (tp : Nat) (bt : Nat → Nat) (ex : Nat → Bool) (Ls : Nat → List (Nat × Int32)) (W : va_W) (z1 : Int32) (z2 : Int32) (z3 : Int32) (z4 : Int32) (y5 : Int64) (hC : CWd cI cT a0 tp bt ex Ls W) (hn : ¬ mkNew ex z1 z2 z3 z4) : Met l yX10_make wp_m_make ({ frames := 5, cells := 0, slots := 0, locals := 183 }) (PcWS D adK adV [.ref a0, .int z1, .int z2, .int z3, .int z4, .long y5] sz W [(cI, .int), (cT, .object RX9)]) (va_Qi (fun r (u : va_W) => CWd cI cT a0 tp bt (mkE ex z1 z2 z3 z4) (mkS Ls (mkF z1 z2 z3 z4) z1) u ∧ r = mkF z1 z2 z3 z4) (QB D [(cI, .int), (cT, .object RX9)] W sz) (va_A W sz)) 0 0 (va_A W sz) := by
  obtain ⟨ox, ob3, og, oq, ow, ft, xt, xp, xi, xq, xm, wt, rfl, htp, ht9, hp9, hi9, hq9, hm9, hok9, hex9, hpm⟩ := id hC
  by_cases hg : ((0 : Int32) ≤ z1 ∧ z1 < 4) ∧ okS z2 z3 z4
  · have hm1 : mkF z1 z2 z3 z4 = 1 := if_pos hg
    have hm2 : mkE ex z1 z2 z3 z4 = exZ ex z1 := if_pos hm1
    obtain ⟨k, hk, rfl⟩ := in04 hg.1
    rcases hok9 k hk with ⟨hft0, hv, hv0⟩ | ⟨b, hft, hT⟩
    · exact absurd ⟨hm1, hex9.nth (fun j hj e => by obtain rfl := (nI_eq (by omega) (by omega)).mp e; exact hft0)⟩ hn
    · obtain ⟨ob, tb, ts, tg, tl, tc, tr, tu, tv, tw, sd, da, db, pr, cn, fk, fv, nb, ka, kb, sm, ln, fh, ff, fa, fs, fj, fr, fo, fx, rfl, hTb, hKv, hwk⟩ := hT
      exact lift_WCi (s_make l D sz ox ob3 og oq ow ob cI cT tp ft tb ts tg tl tc tr tu tv tw sd da db pr cn fk fv nb ka kb sm ln fh ff fa fs fj fr fo fx k z2 z3 z4 y5 hk hft hTb hg.2) [0, 1] rfl (fun w h => List.mem_append_left _ h) ⟨(Nat.le_of_ble_eq_true rfl), (Nat.le_of_ble_eq_true rfl), (Nat.le_of_ble_eq_true rfl), (Nat.le_of_ble_eq_true rfl)⟩ ⟨(Nat.le_of_ble_eq_true rfl), (Nat.le_of_ble_eq_true rfl)⟩ (pf_cT hk hwk hpm) (fun r u h => by
        rw [mkS_1 hm1 hk, hm1, hm2]
        exact ⟨⟨ox, ob3, og, oq, ow, ft, _, _, _, _, _, _, rfl, htp, ht9, hp9, hi9, hq9, hm9, okW.set hok9 hft ⟨ob, u.1, u.2.1, u.2.2.1, u.2.2.2.2.2.2.2.1, u.2.2.2.2.2.2.2.2.1, u.2.2.2.1, u.2.2.2.2.1, u.2.2.2.2.2.1, u.2.2.2.2.2.2.2.2.2.1, u.2.2.2.2.2.2.2.2.2.2.1, u.2.2.2.2.2.2.2.2.2.2.2.1, u.2.2.2.2.2.2.2.2.2.2.2.2.1, u.2.2.2.2.2.2.2.2.2.2.2.2.2.1, u.2.2.2.2.2.2.1, fk, fv, u.2.2.2.2.2.2.2.2.2.2.2.2.2.2.1, u.2.2.2.2.2.2.2.2.2.2.2.2.2.2.2.1, u.2.2.2.2.2.2.2.2.2.2.2.2.2.2.2.2.1, u.2.2.2.2.2.2.2.2.2.2.2.2.2.2.2.2.2.1, u.2.2.2.2.2.2.2.2.2.2.2.2.2.2.2.2.2.2.1, u.2.2.2.2.2.2.2.2.2.2.2.2.2.2.2.2.2.2.2.1, u.2.2.2.2.2.2.2.2.2.2.2.2.2.2.2.2.2.2.2.2.1, u.2.2.2.2.2.2.2.2.2.2.2.2.2.2.2.2.2.2.2.2.2.1, u.2.2.2.2.2.2.2.2.2.2.2.2.2.2.2.2.2.2.2.2.2.2.1, u.2.2.2.2.2.2.2.2.2.2.2.2.2.2.2.2.2.2.2.2.2.2.2.1, u.2.2.2.2.2.2.2.2.2.2.2.2.2.2.2.2.2.2.2.2.2.2.2.2.1, u.2.2.2.2.2.2.2.2.2.2.2.2.2.2.2.2.2.2.2.2.2.2.2.2.2.1, u.2.2.2.2.2.2.2.2.2.2.2.2.2.2.2.2.2.2.2.2.2.2.2.2.2.2, rfl, h.2.1, h.2.2, rfl⟩, hex9.old hk hft, List.Perm.symm (pr_cT hk)⟩, h.1⟩)
  · have hm1 : mkF z1 z2 z3 z4 = -2 := if_neg hg
    have hm2 : mkE ex z1 z2 z3 z4 = ex := if_neg (by rw [hm1]; decide)
    exact lift_RCi (n_make l D sz ox ob3 og oq ow cI cT tp ft z1 z2 z3 z4 y5 hg) [1] rfl (fun w h => List.mem_append_right _ (h)) ⟨(Nat.le_of_ble_eq_true rfl), (Nat.le_of_ble_eq_true rfl), (Nat.le_of_ble_eq_true rfl), (Nat.le_of_ble_eq_true rfl)⟩ ⟨(Nat.le_of_ble_eq_true rfl), (Nat.le_of_ble_eq_true rfl)⟩ (pf_c hpm) (fun r h => by
      rw [mkS_0 (by rw [hm1]; decide), hm1, hm2]
      exact ⟨hC, h⟩)

def wp_m_makeW : List Cond := wp_w_make
set_option maxHeartbeats 4000000 in
theorem m_makeW (l : Launch) (D : va_G) (sz : Nat) (adK adV : Nat → Nat) (cI cT : ClassId) (a0 : Nat) (tp : Nat) (bt : Nat → Nat) (ex : Nat → Bool) (Ls : Nat → List (Nat × Int32)) (W : va_W) (z1 : Int32) (z2 : Int32) (z3 : Int32) (z4 : Int32) (y5 : Int64) (hC : CWd cI cT a0 tp bt ex Ls W) (hn : mkNew ex z1 z2 z3 z4) : Met l yX10_make wp_m_makeW ({ frames := 5, cells := 14, slots := 11072, locals := 183 }) (PcWS D adK adV [.ref a0, .int z1, .int z2, .int z3, .int z4, .long y5] sz W [(cI, .int), (cT, .object RX9)]) (va_Qi (fun r (u : va_W) => CWd cI cT a0 tp bt (mkE ex z1 z2 z3 z4) (mkS Ls (mkF z1 z2 z3 z4) z1) u ∧ r = mkF z1 z2 z3 z4) (QB D [(cI, .int), (cT, .object RX9)] W sz) (va_A W sz)) 14 11072 (va_A W sz) := by
  obtain ⟨ox, ob3, og, oq, ow, ft, xt, xp, xi, xq, xm, wt, rfl, htp, ht9, hp9, hi9, hq9, hm9, hok9, hex9, hpm⟩ := id hC
  by_cases hg : ((0 : Int32) ≤ z1 ∧ z1 < 4) ∧ okS z2 z3 z4
  · have hm1 : mkF z1 z2 z3 z4 = 1 := if_pos hg
    have hm2 : mkE ex z1 z2 z3 z4 = exZ ex z1 := if_pos hm1
    obtain ⟨k, hk, rfl⟩ := in04 hg.1
    rcases hok9 k hk with ⟨hft0, hv, hv0⟩ | ⟨b, hft, hT⟩
    · skip
      exact lift_WCi (w_make l D sz ox ob3 og oq ow cI cT tp ft k z2 z3 z4 y5 hk hft0 hg.2) [0, 1] rfl (fun w h => h) ⟨(Nat.le_of_ble_eq_true rfl), (Nat.le_of_ble_eq_true rfl), (Nat.le_of_ble_eq_true rfl), (Nat.le_of_ble_eq_true rfl)⟩ ⟨(Nat.le_of_ble_eq_true rfl), (Nat.le_of_ble_eq_true rfl)⟩ (pf_cz hk hv hpm) (fun r u h => by
        rw [mkS_1 hm1 hk, hm1, hm2]
        exact ⟨⟨ox, ob3, og, oq, ow, (va_up ft k (some (u.1 0))), _, _, _, _, _, _, rfl, htp, ht9, hp9, hi9, hq9, hm9, okW.new hok9 ⟨u.1, u.2.1, u.2.2.1, u.2.2.2.1, u.2.2.2.2.2.2.2.2.1, u.2.2.2.2.2.2.2.2.2.1, u.2.2.2.2.1, u.2.2.2.2.2.1, u.2.2.2.2.2.2.1, u.2.2.2.2.2.2.2.2.2.2.1, u.2.2.2.2.2.2.2.2.2.2.2.1, u.2.2.2.2.2.2.2.2.2.2.2.2.1, u.2.2.2.2.2.2.2.2.2.2.2.2.2.1, u.2.2.2.2.2.2.2.2.2.2.2.2.2.2.1, u.2.2.2.2.2.2.2.1, (fun _ => 0), (fun _ => 0), u.2.2.2.2.2.2.2.2.2.2.2.2.2.2.2.1, u.2.2.2.2.2.2.2.2.2.2.2.2.2.2.2.2.1, u.2.2.2.2.2.2.2.2.2.2.2.2.2.2.2.2.2.1, u.2.2.2.2.2.2.2.2.2.2.2.2.2.2.2.2.2.2.1, u.2.2.2.2.2.2.2.2.2.2.2.2.2.2.2.2.2.2.2.1, u.2.2.2.2.2.2.2.2.2.2.2.2.2.2.2.2.2.2.2.2.1, u.2.2.2.2.2.2.2.2.2.2.2.2.2.2.2.2.2.2.2.2.2.1, u.2.2.2.2.2.2.2.2.2.2.2.2.2.2.2.2.2.2.2.2.2.2.1, u.2.2.2.2.2.2.2.2.2.2.2.2.2.2.2.2.2.2.2.2.2.2.2.1, u.2.2.2.2.2.2.2.2.2.2.2.2.2.2.2.2.2.2.2.2.2.2.2.2.1, u.2.2.2.2.2.2.2.2.2.2.2.2.2.2.2.2.2.2.2.2.2.2.2.2.2.1, u.2.2.2.2.2.2.2.2.2.2.2.2.2.2.2.2.2.2.2.2.2.2.2.2.2.2.1, u.2.2.2.2.2.2.2.2.2.2.2.2.2.2.2.2.2.2.2.2.2.2.2.2.2.2.2, rfl, h.2.1, h.2.2, rfl⟩, hex9.new hk, List.Perm.symm (pr_cT hk)⟩, h.1⟩)
    · exact absurd (hex9.th hk hft) hn.2
  · exact absurd (hn.1.symm.trans (if_neg hg)) (by decide)

