def tyM (cm : Nat → ClassId) : List (ClassId × FieldType) := [(cm 1, .byte), (cm 3, .long), (cm 4, .int), (cm 5, .int), (cm 6, .int), (cm 7, .int), (cm 8, .int), (cm 9, .int), (cm 10, .long), (cm 11, .long), (cm 16, .int), (cm 19, .int), (cm 28, .int), (cm 29, .int), (cm 38, .int), (cm 40, .int), (cm 41, .int), (cm 45, .int)]
def RWd (cm : Nat → ClassId) (h0 tp : Nat) (bt : Nat → Nat) (ex : Nat → Bool) (Ls : Nat → List (Nat × Int32)) (V : va_W) : Prop := ∃ (a : Nat → Nat) (i : Nat → Int32) (g : Nat → Int64) (no : Nat) (fT : Nat → Int32) (fn : Nat → Int64) (fk : Nat → Int32) (fv : Nat → Int32) (fb : Nat → Int32) (fr : Nat → Int32) (ff : Nat → Int32) (fh : Nat → Int32) (fa : Nat → Int64) (fs : Nat → Int64) (fp : Nat → Int32) (fc : Nat → Int32) (fo : Nat → Int32) (fl : Nat → Int32) (fw : Nat → Int32) (fq : Nat → Int32) (fx : Nat → Int32) (fy : Nat → Int32), i 2 = nI tp ∧ tp ≤ 1400 ∧ i 46 = nI no ∧ no ≤ 1400 ∧ MInv fn fk fb ff fh fa fs ∧ (TieR fT bt ∧ TieB fT bt) ∧ ExR ex fn ∧ Ls = lsR fn fk fv ∧ V.Perm [(h0, .inr (11, gM a i g)), (a 1, .inl (cm 1, 1400, .inl fT)), (a 3, .inl (cm 3, 85, .inr (.inl fn))), (a 4, .inl (cm 4, 800, .inl fk)), (a 5, .inl (cm 5, 800, .inl fv)), (a 6, .inl (cm 6, 800, .inl fb)), (a 7, .inl (cm 7, 800, .inl fr)), (a 8, .inl (cm 8, 10240, .inl ff)), (a 9, .inl (cm 9, 10240, .inl fh)), (a 10, .inl (cm 10, 10240, .inr (.inl fa))), (a 11, .inl (cm 11, 10240, .inr (.inl fs))), (a 16, .inl (cm 16, 2048, .inl fp)), (a 19, .inl (cm 19, 2000, .inl fc)), (a 28, .inl (cm 28, 6, .inl fo)), (a 29, .inl (cm 29, 700, .inl fl)), (a 38, .inl (cm 38, 700, .inl fw)), (a 40, .inl (cm 40, 6, .inl fq)), (a 41, .inl (cm 41, 6, .inl fx)), (a 45, .inl (cm 45, 1400, .inl fy))]
theorem dec_ex {p : Prop} [Decidable p] {b : Bool} (h : p ↔ b = true) : decide p = b := by
  cases b with
  | true => exact decide_eq_true (h.mpr rfl)
  | false => exact decide_eq_false (fun q => by have := h.mp q; contradiction)
theorem tb_of {w : Int32} {n : Nat} (h : w &&& 255 = nI n) (hn : n ≤ 255) (h1 : -128 ≤ w.toInt) (h2 : w.toInt ≤ 127) : (n ≤ 127 → w = nI n) ∧ (127 < n → w.toInt < 0) ∧ n ≤ 255 := by
  rw [pk_and _ 8 (by decide)] at h
  have e : w.toBitVec.toNat % 256 = n := (nI_eq (by omega) (by omega)).mp h
  have c : w.toInt = if 2 * w.toBitVec.toNat < 4294967296 then (w.toBitVec.toNat : Int) else (w.toBitVec.toNat : Int) - 4294967296 := BitVec.toInt_eq_toNat_cond _
  have b := w.toBitVec.isLt
  refine ⟨fun q => ?_, fun q => ?_, hn⟩
  · apply Int32.toInt_inj.mp
    rw [nI_toInt (by omega)]
    split at c <;> omega
  · split at c <;> omega
theorem TieB.up {f : Nat → Int32} {fb : Nat → Nat} (h : TieB f fb) (i : Nat) {w : Int32} {v : Nat} (hw : (v ≤ 127 → w = nI v) ∧ (127 < v → w.toInt < 0) ∧ v ≤ 255) : TieB (upd f i w) (updN fb i v) := by
  intro j
  by_cases e : j = i
  · subst e
    rw [pk_us]
    simp only [updN, if_true]
    exact hw
  · rw [pk_un e]
    simp only [updN, if_neg e]
    exact h j
theorem nar_rg (x : Int32) : -128 ≤ (vp_nar .byte (x.toInt8.toInt32)).toInt ∧ (vp_nar .byte (x.toInt8.toInt32)).toInt ≤ 127 := by
  rw [vp_nar_byte, Int8.toInt_toInt32]
  exact ⟨by have := Int8.le_toInt (x.toInt8.toInt32.toInt8); omega, by have := Int8.toInt_lt (x.toInt8.toInt32.toInt8); omega⟩
theorem TieB.wr {f : Nat → Int32} {fb : Nat → Nat} (h : TieB f fb) (x : Nat) (z : Int32) : TieB (wrM f x z) (wr4 fb x z) := (((h.up _ (tb_of (bvM0 z) (byN_le z 0) (nar_rg _).1 (nar_rg _).2)).up _ (tb_of (bvM1 z) (byN_le z 1) (nar_rg _).1 (nar_rg _).2)).up _ (tb_of (bvM2 z) (byN_le z 2) (nar_rg _).1 (nar_rg _).2)).up _ (tb_of (bvM3 z) (byN_le z 3) (nar_rg _).1 (nar_rg _).2)
theorem TieB.wr5 {f : Nat → Int32} {fb : Nat → Nat} (h : TieB f fb) (x : Nat) (z1 z2 z3 z4 z5 : Int32) : TieB (wrM5 f x z1 z2 z3 z4 z5) (wr5 fb x z1 z2 z3 z4 z5) := ((((h.wr _ _).wr _ _).wr _ _).wr _ _).wr _ _
theorem perm_pos {L L' : va_W} {n : Nat} (is : List Nat) (h : is.Perm (List.range n)) (hn : L.length = n) (e : is.filterMap (fun i => L[i]?) = L') : L.Perm L' := by
  subst e
  have h2 := h.filterMap (fun i => L[i]?)
  have h3 : (List.range n).filterMap (fun i => L[i]?) = L := by
    subst hn
    apply List.ext_getElem?
    intro k
    have e1 : ∀ (M : va_W), (List.range M.length).filterMap (fun i => M[i]?) = M := by
      intro M
      induction M with
      | nil => rfl
      | cons x M ih =>
        rw [List.length_cons, List.range_succ_eq_map, List.filterMap_cons]
        simp only [List.getElem?_cons_zero, List.filterMap_map]
        congr 1
    rw [e1]
  rw [h3] at h2
  exact h2.symm
theorem lift_Wi {l : Launch} {y : MethodName} {ws : List Cond} {rm : Room} {D : va_G} {av : List Value} {sz mc ms : Nat} {wc : va_W} {tysc : List (ClassId × FieldType)} {S : Type} {post : Int32 → S → Prop} {w1 : S → va_W} (h : Met l y ws rm (PcW D av sz wc tysc) (va_Qi post (fun u t => va_P D vwCl (w1 u) t.heap ∧ va_K D vwCl tysc t ∧ va_D (va_A wc sz) (w1 u)) (va_A wc sz)) mc ms (va_A wc sz)) {W R : va_W} {tys : List (ClassId × FieldType)} (isT : List Nat) (hT : isT.filterMap (fun i => tys[i]?) = tysc) (hp : W.Perm (wc ++ R)) {post' : Int32 → va_W → Prop} (hpo : ∀ r u, post r u → post' r (w1 u ++ R)) : Met l y ws rm (PcW D av sz W tys) (va_Qi post' (QB D tys W sz) (va_A W sz)) mc ms (va_A W sz) := by
  refine Met.up h (fun _ h => h) ⟨Nat.le_refl _, Nat.le_refl _, Nat.le_refl _, Nat.le_refl _⟩ ⟨Nat.le_refl _, Nat.le_refl _⟩ ?_ (fun q hq => va_A.pm hp hq) ?_
  · rintro a s ⟨ha, hsz, hP, hK, hD⟩
    exact ⟨ha, hsz, (hP.pm hp).lf, hK.sub isT hT, (hD.pm hp).lf⟩
  · rintro a s o t ⟨ha, hsz, hP, hK, hD⟩ hW ⟨⟨r, u, ho, hq, hP1, hK1, hD1⟩, hF⟩
    subst hsz
    have hj := va_jp hP (hD.own (sz := s.heap.size)) hp hF.2 (fun q hq => va_A.pm hp hq) hP1 hD1
    exact ⟨⟨r, w1 u ++ R, ho, hpo r u hq, hj.1, va_K.moved hW.alike hK, hj.2⟩, hF.1, fun q h1 h2 => hF.2 q h1 (fun z => h2 (va_A.pm hp z))⟩
theorem lift_Wl {l : Launch} {y : MethodName} {ws : List Cond} {rm : Room} {D : va_G} {av : List Value} {sz mc ms : Nat} {wc : va_W} {tysc : List (ClassId × FieldType)} {S : Type} {post : Int64 → S → Prop} {w1 : S → va_W} (h : Met l y ws rm (PcW D av sz wc tysc) (va_Ql post (fun u t => va_P D vwCl (w1 u) t.heap ∧ va_K D vwCl tysc t ∧ va_D (va_A wc sz) (w1 u)) (va_A wc sz)) mc ms (va_A wc sz)) {W R : va_W} {tys : List (ClassId × FieldType)} (isT : List Nat) (hT : isT.filterMap (fun i => tys[i]?) = tysc) (hp : W.Perm (wc ++ R)) {post' : Int64 → va_W → Prop} (hpo : ∀ r u, post r u → post' r (w1 u ++ R)) : Met l y ws rm (PcW D av sz W tys) (va_Ql post' (QB D tys W sz) (va_A W sz)) mc ms (va_A W sz) := by
  refine Met.up h (fun _ h => h) ⟨Nat.le_refl _, Nat.le_refl _, Nat.le_refl _, Nat.le_refl _⟩ ⟨Nat.le_refl _, Nat.le_refl _⟩ ?_ (fun q hq => va_A.pm hp hq) ?_
  · rintro a s ⟨ha, hsz, hP, hK, hD⟩
    exact ⟨ha, hsz, (hP.pm hp).lf, hK.sub isT hT, (hD.pm hp).lf⟩
  · rintro a s o t ⟨ha, hsz, hP, hK, hD⟩ hW ⟨⟨r, u, ho, hq, hP1, hK1, hD1⟩, hF⟩
    subst hsz
    have hj := va_jp hP (hD.own (sz := s.heap.size)) hp hF.2 (fun q hq => va_A.pm hp hq) hP1 hD1
    exact ⟨⟨r, w1 u ++ R, ho, hpo r u hq, hj.1, va_K.moved hW.alike hK, hj.2⟩, hF.1, fun q h1 h2 => hF.2 q h1 (fun z => h2 (va_A.pm hp z))⟩

