def ist (cI : ClassId) (ox : Nat → Nat) (bt : Nat → Nat) (w : va_W) : Prop := ∃ (fT : Nat → Int32), TieC fT bt ∧ w = [(ox 2, .inl (cI, 1400, .inl fT))]
def isp (cI : ClassId) (ob3 : Nat → Nat) (w : va_W) : Prop := ∃ (po3 : Int32) (sd3 : Int64) (da3 : Nat) (db3 : Nat) (pr3 : Int32) (nb3 : Nat) (ka3 : Nat) (kb3 : Nat) (sm3 : Int32) (ln3 : Nat) (fh3 : Nat → Int32) (ff3 : Nat → Int32) (fa3 : Nat → Int32) (fs3 : Nat → Int32) (fj3 : Nat → Int32) (fr3 : Nat → Int32) (fo3 : Nat → Int32) (fx3 : Nat → Int32), LyH fj3 fh3 nb3 ln3 ∧ OrC fo3 ∧ w = [(ob3 0, .inr (5, [.ref (ob3 1), .ref (ob3 5), .int po3])), (ob3 1, .inr (0, [.long sd3, .int (nI da3), .int (nI db3), .int pr3])), (ob3 5, .inr (3, gY ob3 (nI nb3) (nI ka3) (nI kb3) sm3 (nI ln3))), (ob3 6, .inl (cI, 2048, .inl fh3)), (ob3 7, .inl (cI, 2048, .inl ff3)), (ob3 8, .inl (cI, 2048, .inl fa3)), (ob3 9, .inl (cI, 2048, .inl fs3)), (ob3 10, .inl (cI, 160, .inl fj3)), (ob3 11, .inl (cI, 160, .inl fr3)), (ob3 12, .inl (cI, 160, .inl fo3)), (ob3 13, .inl (cI, 2048, .inl fx3))]
def isi (cI : ClassId) (og : Nat → Nat) (w : va_W) : Prop := ∃ (il : Nat) (fi : Nat → Int32), il ≤ 1294 ∧ w = [(og 0, .inr (1, [.int (nI il), .ref (og 1)])), (og 1, .inl (cI, 1294, .inl fi))]
def isq (cI : ClassId) (oq : Nat → Nat) (w : va_W) : Prop := ∃ (qf : Int32) (qp : Int32) (qd : Int32) (qs : Int32) (qt : Int32) (qb : Int32) (qh : Int32) (qr : Int32) (qn : Int32) (bk : Nat) (wz : Nat) (pz : Nat) (fK : Nat → Int32) (fN : Nat → Int32) (fL : Nat → Int32) (tx : Value) (zl : Int32) (ta : Int32) (be : Int32) (ki : Int32) (nu : Int32) (wo : Int32) (fO : Nat → Int32) (fW : Nat → Int32), w = [(oq 0, .inr (6, gPs oq qf qp qd qs qt qb qh qr qn (nI bk) (nI wz))), (oq 1, .inr (7, [.int (nI pz), .ref (oq 2), .ref (oq 3), .ref (oq 4)])), (oq 2, .inl (cI, 600, .inl fK)), (oq 3, .inl (cI, 600, .inl fN)), (oq 4, .inl (cI, 600, .inl fL)), (oq 5, .inr (8, [tx, .int zl, .int ta, .int be, .int ki, .int nu, .int wo])), (oq 6, .inl (cI, 5, .inl fO)), (oq 7, .inl (cI, 600, .inl fW))]
def ism (cI : ClassId) (ow : Nat → Nat) (w : va_W) : Prop := ∃ (st : Nat) (rf : Int32) (lt : Int32) (en : Int32) (lo : Nat) (oz : Nat) (fR : Nat → Int32) (fP : Nat → Int32), w = [(ow 0, .inr (4, gMa ow (nI st) rf lt en (nI lo) (nI oz))), (ow 1, .inl (cI, 5, .inl fR)), (ow 2, .inl (cI, 64, .inl fP))]
def isT (cI : ClassId) (b : Nat) (L : List (Nat × Int32)) (w : va_W) : Prop := ∃ (ob : Nat → Nat) (tb : Int32) (ts : Int32) (tg : Int32) (tl : Int32) (tc : Int32) (tr : Int32) (tu : Int32) (tv : Int32) (tw : Int32) (sd : Int64) (da : Nat) (db : Nat) (pr : Int32) (cn : Nat) (fk : Nat → Int32) (fv : Nat → Int32) (nb : Nat) (ka : Nat) (kb : Nat) (sm : Int32) (ln : Nat) (fh : Nat → Int32) (ff : Nat → Int32) (fa : Nat → Int32) (fs : Nat → Int32) (fj : Nat → Int32) (fr : Nat → Int32) (fo : Nat → Int32) (fx : Nat → Int32), b = ob 0 ∧ TbI fk fj fh fo cn nb ka kb ln da db ∧ KvT fk fv cn L ∧ w = [(ob 0, .inr (9, gT ob tb ts tg tl tc tr tu tv tw)), (ob 1, .inr (0, [.long sd, .int (nI da), .int (nI db), .int pr])), (ob 2, .inr (2, [.int (nI cn), .ref (ob 3), .ref (ob 4)])), (ob 3, .inl (cI, 160, .inl fk)), (ob 4, .inl (cI, 160, .inl fv)), (ob 5, .inr (3, gY ob (nI nb) (nI ka) (nI kb) sm (nI ln))), (ob 6, .inl (cI, 2048, .inl fh)), (ob 7, .inl (cI, 2048, .inl ff)), (ob 8, .inl (cI, 2048, .inl fa)), (ob 9, .inl (cI, 2048, .inl fs)), (ob 10, .inl (cI, 160, .inl fj)), (ob 11, .inl (cI, 160, .inl fr)), (ob 12, .inl (cI, 160, .inl fo)), (ob 13, .inl (cI, 2048, .inl fx))]
noncomputable abbrev bq9 : BEq (Nat × va_E) := @instBEqOfDecidableEq _ (fun a b => Classical.propDecidable (a = b))
theorem lw9 : @LawfulBEq (Nat × va_E) bq9 := by
  letI := bq9
  exact { eq_of_beq := fun {a b} h => @of_decide_eq_true _ (Classical.propDecidable _) h, rfl := fun {a} => @decide_eq_true _ (Classical.propDecidable _) rfl }
noncomputable def cn9 (x : Nat × va_E) (l : va_W) : Nat := @List.count _ bq9 x l
theorem cn9_app {x : Nat × va_E} {a b : va_W} : cn9 x (a ++ b) = cn9 x a + cn9 x b := by
  letI := bq9
  exact List.count_append
theorem cn9_nil {x : Nat × va_E} : cn9 x [] = 0 := by
  letI := bq9
  exact List.count_nil
theorem perm9 {a b : va_W} : a.Perm b ↔ ∀ x, cn9 x a = cn9 x b := @List.perm_iff_count _ bq9 lw9 a b
def cC (ox ob3 og oq ow : Nat → Nat) (cT : ClassId) (tp : Nat) (ft : Nat → Option Nat) : va_W := [(ox 0, .inr (10, [.ref (ox 1), .ref (ox 2), .int (nI tp), .ref (ob3 0), .ref (og 0), .ref (oq 0), .ref (ow 0)])), (ox 1, .inl (cT, 4, .inr (.inr (.inr (.inr ft)))))]
def othr (wt : Nat → va_W) : va_W := wt 0 ++ (wt 1 ++ (wt 2 ++ wt 3))
def catw (c t p i q m : va_W) (wt : Nat → va_W) : va_W := c ++ (t ++ (p ++ (i ++ (q ++ (m ++ othr wt)))))
def upW (wt : Nat → va_W) (k : Nat) (w : va_W) : Nat → va_W := fun j => if j = k then w else wt j
def okW (cI : ClassId) (ft : Nat → Option Nat) (Ls : Nat → List (Nat × Int32)) (wt : Nat → va_W) : Prop := ∀ k, k < 4 → (ft k = none ∧ wt k = [] ∧ Ls k = []) ∨ ∃ b, ft k = some b ∧ isT cI b (Ls k) (wt k)
def CWd (cI cT : ClassId) (a0 tp : Nat) (bt : Nat → Nat) (ex : Nat → Bool) (Ls : Nat → List (Nat × Int32)) (W : va_W) : Prop := ∃ (ox ob3 og oq ow : Nat → Nat) (ft : Nat → Option Nat) (t p i q m : va_W) (wt : Nat → va_W), a0 = ox 0 ∧ tp ≤ 1400 ∧ ist cI ox bt t ∧ isp cI ob3 p ∧ isi cI og i ∧ isq cI oq q ∧ ism cI ow m ∧ okW cI ft Ls wt ∧ ExC ex ft ∧ W.Perm (catw (cC ox ob3 og oq ow cT tp ft) t p i q m wt)
theorem CWd.to {cI cT : ClassId} {a0 t t' : Nat} {bt : Nat → Nat} {ex : Nat → Bool} {Ls : Nat → List (Nat × Int32)} {W : va_W} (h : CWd cI cT a0 t bt ex Ls W) (e : t = t') : CWd cI cT a0 t' bt ex Ls W := by
  subst e
  exact h
theorem CWd.ls {cI cT : ClassId} {a0 t : Nat} {bt : Nat → Nat} {ex : Nat → Bool} {Ls Lt : Nat → List (Nat × Int32)} {W : va_W} (h : CWd cI cT a0 t bt ex Ls W) (e : Ls = Lt) : CWd cI cT a0 t bt ex Lt W := by
  subst e
  exact h
theorem okW.set {cI : ClassId} {ft : Nat → Option Nat} {Ls : Nat → List (Nat × Int32)} {wt : Nat → va_W} {k b : Nat} {L : List (Nat × Int32)} {w : va_W} (h : okW cI ft Ls wt) (hf : ft k = some b) (hi : isT cI b L w) : okW cI ft (updS Ls k L) (upW wt k w) := by
  intro j hj
  by_cases e : j = k
  · subst e
    exact Or.inr ⟨b, hf, by simp only [upW, if_true, updS_s]; exact hi⟩
  · simp only [upW, if_neg e, updS_n e]
    exact h j hj
theorem okW.set0 {cI : ClassId} {ft : Nat → Option Nat} {Ls : Nat → List (Nat × Int32)} {wt : Nat → va_W} {k b : Nat} {w : va_W} (h : okW cI ft Ls wt) (hf : ft k = some b) (hi : isT cI b (Ls k) w) : okW cI ft Ls (upW wt k w) := by
  have := h.set hf hi
  rwa [updS_id] at this
theorem okW.new {cI : ClassId} {ft : Nat → Option Nat} {Ls : Nat → List (Nat × Int32)} {wt : Nat → va_W} {k b : Nat} {L : List (Nat × Int32)} {w : va_W} (h : okW cI ft Ls wt) (hi : isT cI b L w) : okW cI (va_up ft k (some b)) (updS Ls k L) (upW wt k w) := by
  intro j hj
  by_cases e : j = k
  · subst e
    exact Or.inr ⟨b, va_up_self _ _ _, by simp only [upW, if_true, updS_s]; exact hi⟩
  · simp only [upW, if_neg e, va_up_ne _ _ e, updS_n e]
    exact h j hj
theorem ot_k {wt : Nat → va_W} {k : Nat} {w : va_W} (hk : k < 4) (hw : wt k = w) : (othr wt).Perm (w ++ othr (upW wt k [])) := by
  subst hw
  rw [perm9]
  intro x
  rcases (show k = 0 ∨ k = 1 ∨ k = 2 ∨ k = 3 by omega) with e | e | e | e <;> subst e <;> simp only [othr, upW, cn9_app, cn9_nil] <;> simp [cn9_nil] <;> omega
theorem ot_u {wt : Nat → va_W} {k : Nat} {w : va_W} (hk : k < 4) : (w ++ othr (upW wt k [])).Perm (othr (upW wt k w)) := by
  rw [perm9]
  intro x
  rcases (show k = 0 ∨ k = 1 ∨ k = 2 ∨ k = 3 by omega) with e | e | e | e <;> subst e <;> simp only [othr, upW, cn9_app, cn9_nil] <;> simp [cn9_nil] <;> omega
theorem upW_upW {wt : Nat → va_W} {k j : Nat} {v w : va_W} (h : j ≠ k) : upW (upW wt k v) j w = upW (upW wt j w) k v := by
  funext x
  simp only [upW]
  by_cases e1 : x = j
  · subst e1
    simp [h]
  · by_cases e2 : x = k
    · subst e2
      simp [e1]
    · simp [e1, e2]
theorem ot_kk {wt : Nat → va_W} {k j : Nat} {w v : va_W} (hk : k < 4) (hj : j < 4) (hn : j ≠ k) (hw : wt k = w) (hv : wt j = v) : (othr wt).Perm (w ++ (v ++ othr (upW (upW wt k []) j []))) := (ot_k hk hw).trans (List.Perm.append_left _ (ot_k hj (by simp only [upW, if_neg hn]; exact hv)))
theorem ot_uu {wt : Nat → va_W} {k j : Nat} {w v : va_W} (hk : k < 4) (hj : j < 4) (hn : j ≠ k) : (w ++ (v ++ othr (upW (upW wt k []) j []))).Perm (othr (upW (upW wt k w) j v)) := by
  refine (List.Perm.append_left _ (ot_u hj)).trans ?_
  rw [upW_upW hn, upW_upW hn]
  exact ot_u hk
theorem pick {cI : ClassId} {ft : Nat → Option Nat} {Ls : Nat → List (Nat × Int32)} {wt : Nat → va_W} (h : okW cI ft Ls wt) (z : Int32) : (∀ k, k < 4 → z = nI k → ft k = none) ∨ ∃ k b, k < 4 ∧ z = nI k ∧ ft k = some b ∧ isT cI b (Ls k) (wt k) := by
  by_cases hz : (0 : Int32) ≤ z ∧ z < 4
  · obtain ⟨k, hk, rfl⟩ := in04 hz
    rcases h k hk with ⟨h1, h2, -⟩ | ⟨b, h1, h2⟩
    · refine Or.inl (fun j hj e => ?_)
      obtain rfl := (nI_eq (by omega) (by omega)).mp e
      exact h1
    · exact Or.inr ⟨k, b, hk, rfl, h1, h2⟩
  · refine Or.inl (fun j hj e => absurd ?_ hz)
    subst e
    exact ⟨nI_pos' (by omega), nI_lt (b := 4) hj (by decide)⟩
theorem pf_c {W c t p i q m : va_W} {wt : Nat → va_W} (hp : W.Perm (catw c t p i q m wt)) : W.Perm ((c) ++ (t ++ (p ++ (i ++ (q ++ (m ++ (othr wt))))))) := by
  refine hp.trans ?_
  rw [perm9]
  intro x
  simp only [catw, cn9_app] 
  try omega
theorem pb_c {c t p i q m : va_W} {wt : Nat → va_W} : ((c) ++ (t ++ (p ++ (i ++ (q ++ (m ++ (othr wt))))))).Perm (catw c t p i q m (wt)) := by
  rw [perm9]
  intro x
  simp only [catw, cn9_app] 
  try omega
theorem pr_c {c t p i q m : va_W} {wt : Nat → va_W} : (catw c t p i q m (wt)).Perm ((c) ++ (t ++ (p ++ (i ++ (q ++ (m ++ (othr wt))))))) := (pb_c).symm
theorem pf_ct {W c t p i q m : va_W} {wt : Nat → va_W} (hp : W.Perm (catw c t p i q m wt)) : W.Perm ((c ++ (t)) ++ (p ++ (i ++ (q ++ (m ++ (othr wt)))))) := by
  refine hp.trans ?_
  rw [perm9]
  intro x
  simp only [catw, cn9_app] 
  try omega
theorem pb_ct {c t p i q m : va_W} {wt : Nat → va_W} : ((c ++ (t)) ++ (p ++ (i ++ (q ++ (m ++ (othr wt)))))).Perm (catw c t p i q m (wt)) := by
  rw [perm9]
  intro x
  simp only [catw, cn9_app] 
  try omega
theorem pr_ct {c t p i q m : va_W} {wt : Nat → va_W} : (catw c t p i q m (wt)).Perm ((c ++ (t)) ++ (p ++ (i ++ (q ++ (m ++ (othr wt)))))) := (pb_ct).symm
theorem pf_ci {W c t p i q m : va_W} {wt : Nat → va_W} (hp : W.Perm (catw c t p i q m wt)) : W.Perm ((c ++ (i)) ++ (t ++ (p ++ (q ++ (m ++ (othr wt)))))) := by
  refine hp.trans ?_
  rw [perm9]
  intro x
  simp only [catw, cn9_app] 
  try omega
theorem pb_ci {c t p i q m : va_W} {wt : Nat → va_W} : ((c ++ (i)) ++ (t ++ (p ++ (q ++ (m ++ (othr wt)))))).Perm (catw c t p i q m (wt)) := by
  rw [perm9]
  intro x
  simp only [catw, cn9_app] 
  try omega
theorem pr_ci {c t p i q m : va_W} {wt : Nat → va_W} : (catw c t p i q m (wt)).Perm ((c ++ (i)) ++ (t ++ (p ++ (q ++ (m ++ (othr wt)))))) := (pb_ci).symm
theorem pf_cqm {W c t p i q m : va_W} {wt : Nat → va_W} (hp : W.Perm (catw c t p i q m wt)) : W.Perm ((c ++ (q ++ (m))) ++ (t ++ (p ++ (i ++ (othr wt))))) := by
  refine hp.trans ?_
  rw [perm9]
  intro x
  simp only [catw, cn9_app] 
  try omega
theorem pb_cqm {c t p i q m : va_W} {wt : Nat → va_W} : ((c ++ (q ++ (m))) ++ (t ++ (p ++ (i ++ (othr wt))))).Perm (catw c t p i q m (wt)) := by
  rw [perm9]
  intro x
  simp only [catw, cn9_app] 
  try omega
theorem pr_cqm {c t p i q m : va_W} {wt : Nat → va_W} : (catw c t p i q m (wt)).Perm ((c ++ (q ++ (m))) ++ (t ++ (p ++ (i ++ (othr wt))))) := (pb_cqm).symm
theorem pf_cT {W c t p i q m : va_W} {wt : Nat → va_W} {k : Nat} {w : va_W} (hk : k < 4) (hw : wt k = w) (hp : W.Perm (catw c t p i q m wt)) : W.Perm ((c ++ (w)) ++ (t ++ (p ++ (i ++ (q ++ (m ++ (othr (upW wt k [])))))))) := by
  refine hp.trans ?_
  rw [perm9]
  intro x
  have h9 := perm9.mp (ot_k hk hw) x
  simp only [catw, cn9_app] at h9 ⊢
  try omega
theorem pb_cT {c t p i q m : va_W} {wt : Nat → va_W} {k : Nat} {w : va_W} (hk : k < 4) : ((c ++ (w)) ++ (t ++ (p ++ (i ++ (q ++ (m ++ (othr (upW wt k [])))))))).Perm (catw c t p i q m (upW wt k w)) := by
  rw [perm9]
  intro x
  have h9 := perm9.mp (ot_u (wt := wt) (w := w) hk) x
  simp only [catw, cn9_app] at h9 ⊢
  try omega
theorem pr_cT {c t p i q m : va_W} {wt : Nat → va_W} {k : Nat} {w : va_W} (hk : k < 4) : (catw c t p i q m (upW wt k w)).Perm ((c ++ (w)) ++ (t ++ (p ++ (i ++ (q ++ (m ++ (othr (upW wt k [])))))))) := (pb_cT hk).symm
theorem pf_ctT {W c t p i q m : va_W} {wt : Nat → va_W} {k : Nat} {w : va_W} (hk : k < 4) (hw : wt k = w) (hp : W.Perm (catw c t p i q m wt)) : W.Perm ((c ++ (t ++ (w))) ++ (p ++ (i ++ (q ++ (m ++ (othr (upW wt k []))))))) := by
  refine hp.trans ?_
  rw [perm9]
  intro x
  have h9 := perm9.mp (ot_k hk hw) x
  simp only [catw, cn9_app] at h9 ⊢
  try omega
theorem pb_ctT {c t p i q m : va_W} {wt : Nat → va_W} {k : Nat} {w : va_W} (hk : k < 4) : ((c ++ (t ++ (w))) ++ (p ++ (i ++ (q ++ (m ++ (othr (upW wt k []))))))).Perm (catw c t p i q m (upW wt k w)) := by
  rw [perm9]
  intro x
  have h9 := perm9.mp (ot_u (wt := wt) (w := w) hk) x
  simp only [catw, cn9_app] at h9 ⊢
  try omega
theorem pr_ctT {c t p i q m : va_W} {wt : Nat → va_W} {k : Nat} {w : va_W} (hk : k < 4) : (catw c t p i q m (upW wt k w)).Perm ((c ++ (t ++ (w))) ++ (p ++ (i ++ (q ++ (m ++ (othr (upW wt k []))))))) := (pb_ctT hk).symm
theorem pf_cpT {W c t p i q m : va_W} {wt : Nat → va_W} {k : Nat} {w : va_W} (hk : k < 4) (hw : wt k = w) (hp : W.Perm (catw c t p i q m wt)) : W.Perm ((c ++ (p ++ (w))) ++ (t ++ (i ++ (q ++ (m ++ (othr (upW wt k []))))))) := by
  refine hp.trans ?_
  rw [perm9]
  intro x
  have h9 := perm9.mp (ot_k hk hw) x
  simp only [catw, cn9_app] at h9 ⊢
  try omega
theorem pb_cpT {c t p i q m : va_W} {wt : Nat → va_W} {k : Nat} {w : va_W} (hk : k < 4) : ((c ++ (p ++ (w))) ++ (t ++ (i ++ (q ++ (m ++ (othr (upW wt k []))))))).Perm (catw c t p i q m (upW wt k w)) := by
  rw [perm9]
  intro x
  have h9 := perm9.mp (ot_u (wt := wt) (w := w) hk) x
  simp only [catw, cn9_app] at h9 ⊢
  try omega
theorem pr_cpT {c t p i q m : va_W} {wt : Nat → va_W} {k : Nat} {w : va_W} (hk : k < 4) : (catw c t p i q m (upW wt k w)).Perm ((c ++ (p ++ (w))) ++ (t ++ (i ++ (q ++ (m ++ (othr (upW wt k []))))))) := (pb_cpT hk).symm
theorem pf_ciT {W c t p i q m : va_W} {wt : Nat → va_W} {k : Nat} {w : va_W} (hk : k < 4) (hw : wt k = w) (hp : W.Perm (catw c t p i q m wt)) : W.Perm ((c ++ (i ++ (w))) ++ (t ++ (p ++ (q ++ (m ++ (othr (upW wt k []))))))) := by
  refine hp.trans ?_
  rw [perm9]
  intro x
  have h9 := perm9.mp (ot_k hk hw) x
  simp only [catw, cn9_app] at h9 ⊢
  try omega
theorem pb_ciT {c t p i q m : va_W} {wt : Nat → va_W} {k : Nat} {w : va_W} (hk : k < 4) : ((c ++ (i ++ (w))) ++ (t ++ (p ++ (q ++ (m ++ (othr (upW wt k []))))))).Perm (catw c t p i q m (upW wt k w)) := by
  rw [perm9]
  intro x
  have h9 := perm9.mp (ot_u (wt := wt) (w := w) hk) x
  simp only [catw, cn9_app] at h9 ⊢
  try omega
theorem pr_ciT {c t p i q m : va_W} {wt : Nat → va_W} {k : Nat} {w : va_W} (hk : k < 4) : (catw c t p i q m (upW wt k w)).Perm ((c ++ (i ++ (w))) ++ (t ++ (p ++ (q ++ (m ++ (othr (upW wt k []))))))) := (pb_ciT hk).symm
theorem pf_ctqmT {W c t p i q m : va_W} {wt : Nat → va_W} {k : Nat} {w : va_W} (hk : k < 4) (hw : wt k = w) (hp : W.Perm (catw c t p i q m wt)) : W.Perm ((c ++ (t ++ (q ++ (m ++ (w))))) ++ (p ++ (i ++ (othr (upW wt k []))))) := by
  refine hp.trans ?_
  rw [perm9]
  intro x
  have h9 := perm9.mp (ot_k hk hw) x
  simp only [catw, cn9_app] at h9 ⊢
  try omega
theorem pb_ctqmT {c t p i q m : va_W} {wt : Nat → va_W} {k : Nat} {w : va_W} (hk : k < 4) : ((c ++ (t ++ (q ++ (m ++ (w))))) ++ (p ++ (i ++ (othr (upW wt k []))))).Perm (catw c t p i q m (upW wt k w)) := by
  rw [perm9]
  intro x
  have h9 := perm9.mp (ot_u (wt := wt) (w := w) hk) x
  simp only [catw, cn9_app] at h9 ⊢
  try omega
theorem pr_ctqmT {c t p i q m : va_W} {wt : Nat → va_W} {k : Nat} {w : va_W} (hk : k < 4) : (catw c t p i q m (upW wt k w)).Perm ((c ++ (t ++ (q ++ (m ++ (w))))) ++ (p ++ (i ++ (othr (upW wt k []))))) := (pb_ctqmT hk).symm
theorem pf_cTU {W c t p i q m : va_W} {wt : Nat → va_W} {k j : Nat} {w v : va_W} (hk : k < 4) (hj : j < 4) (hn : j ≠ k) (hw : wt k = w) (hv : wt j = v) (hp : W.Perm (catw c t p i q m wt)) : W.Perm ((c ++ (w ++ (v))) ++ (t ++ (p ++ (i ++ (q ++ (m ++ (othr (upW (upW wt k []) j [])))))))) := by
  refine hp.trans ?_
  rw [perm9]
  intro x
  have h9 := perm9.mp (ot_kk hk hj hn hw hv) x
  simp only [catw, cn9_app] at h9 ⊢
  try omega
theorem pb_cTU {c t p i q m : va_W} {wt : Nat → va_W} {k j : Nat} {w v : va_W} (hk : k < 4) (hj : j < 4) (hn : j ≠ k) : ((c ++ (w ++ (v))) ++ (t ++ (p ++ (i ++ (q ++ (m ++ (othr (upW (upW wt k []) j [])))))))).Perm (catw c t p i q m (upW (upW wt k w) j v)) := by
  rw [perm9]
  intro x
  have h9 := perm9.mp (ot_uu (wt := wt) (w := w) (v := v) hk hj hn) x
  simp only [catw, cn9_app] at h9 ⊢
  try omega
theorem pr_cTU {c t p i q m : va_W} {wt : Nat → va_W} {k j : Nat} {w v : va_W} (hk : k < 4) (hj : j < 4) (hn : j ≠ k) : (catw c t p i q m (upW (upW wt k w) j v)).Perm ((c ++ (w ++ (v))) ++ (t ++ (p ++ (i ++ (q ++ (m ++ (othr (upW (upW wt k []) j [])))))))) := (pb_cTU hk hj hn).symm

