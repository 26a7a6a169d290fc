theorem rm_up {s : State} {pl : Platform} {r r' : Room} (h : r.frames ≤ r'.frames ∧ r.locals ≤ r'.locals ∧ r.cells ≤ r'.cells ∧ r.slots ≤ r'.slots) (hr : s.hasRoom pl r' = true) : s.hasRoom pl r = true := by
  obtain ⟨h1, h2, h3, h4⟩ := h
  unfold State.hasRoom at hr ⊢
  simp only [Bool.and_eq_true, decide_eq_true_eq] at hr ⊢
  rcases hr with ⟨⟨⟨⟨y1, y2, y3, y4, y5, y6⟩, y7⟩, y8⟩, y9⟩
  refine ⟨⟨⟨⟨?_, ?_, ?_, ?_, ?_, ?_⟩, ?_⟩, ?_⟩, ?_⟩ <;> first | assumption | omega
theorem met_up {l : Launch} {x : MethodName} {S S' : Spec} {P : Array Value → State → Prop} {K : Program → Env → List Frame → State → Array Value → Prop} {Q : Array Value → State → Outcome → State → Prop} (h : MetFree l x S P K Q) (hp : ∀ a s, S'.pre.before a s = true → S.pre.before a s = true) (hr : S.room.frames ≤ S'.room.frames ∧ S.room.locals ≤ S'.room.locals ∧ S.room.cells ≤ S'.room.cells ∧ S.room.slots ≤ S'.room.slots) : MetFree l x S' P K Q := fun p e h1 h2 h3 s m args below hf ha => h p e h1 h2 h3 s m args below hf (by
  have q := (Spec.appliesLoose_iff hf).mp ha
  exact (Spec.appliesLoose_iff hf).mpr ⟨q.1, q.2.1, q.2.2.1, q.2.2.2.1, q.2.2.2.2.1, q.2.2.2.2.2.1, rm_up hr q.2.2.2.2.2.2.1, hp _ _ q.2.2.2.2.2.2.2⟩)
theorem Met.up {l : Launch} {y : MethodName} {ws ws' : List Cond} {rm rm' : Room} {Pc Pc' : Array Value → State → Prop} {Qc Qc' : Array Value → State → Outcome → State → Prop} {mc ms mc' ms' : Nat} {free free' : Addr → Prop} (h : Met l y ws rm Pc Qc mc ms free) (hws : ∀ w ∈ ws, w ∈ ws') (hr : rm.frames ≤ rm'.frames ∧ rm.locals ≤ rm'.locals ∧ rm.cells ≤ rm'.cells ∧ rm.slots ≤ rm'.slots) (hm : mc ≤ mc' ∧ ms ≤ ms') (hP : ∀ a s, Pc' a s → Pc a s) (hf : ∀ q, free q → free' q) (hQ : ∀ a s o t, Pc' a s → s.WarmedH t.vm → Qc a s o t → Qc' a s o t) : Met l y ws' rm' Pc' Qc' mc' ms' free' := by
  refine (met_up (S' := headSpec ws' rm') h ?_ hr).mono hP (fun _ _ _ _ _ h => h) ?_
  · intro a s hb
    exact atoms_intro (fun c hc => atoms_spec hb c (hws c hc))
  · rintro a s o t hp ⟨hq, L, hF, hL⟩
    exact ⟨hQ a s o t hp hF.2.1 hq, L, ⟨hF.1, hF.2.1, hF.2.2.mono hm.1 hm.2⟩, fun q hq => hf _ (hL q hq)⟩
theorem va_P.pm {D : va_G} {cl : List vw_C} {ws ws' : va_W} {H : Heap} (hp : ws.Perm ws') (h : va_P D cl ws H) : va_P D cl ws' H := by
  intro k q hk
  obtain ⟨j, hj⟩ := List.getElem?_of_mem (hp.mem_iff.mpr (List.mem_of_getElem? hk))
  exact h j q hj
theorem va_D_iff {A : Nat → Prop} {ws : va_W} : va_D A ws ↔ ws.Pairwise (fun x y => x.1 ≠ y.1) ∧ ∀ q ∈ ws, A q.1 := by
  constructor
  · intro h
    refine ⟨List.pairwise_iff_getElem.mpr (fun i j hi hj hij e => ?_), fun q hq => ?_⟩
    · have := h.1 i j _ _ (List.getElem?_eq_getElem hi) (List.getElem?_eq_getElem hj) e
      omega
    · obtain ⟨k, hk⟩ := List.getElem?_of_mem hq
      exact h.2 k q hk
  · rintro ⟨h1, h2⟩
    refine ⟨fun i j p q hp hq e => ?_, fun k q hk => h2 q (List.mem_of_getElem? hk)⟩
    obtain ⟨hi, rfl⟩ := List.getElem?_eq_some_iff.mp hp
    obtain ⟨hj, rfl⟩ := List.getElem?_eq_some_iff.mp hq
    rcases Nat.lt_trichotomy i j with z | z | z
    · exact absurd e (List.pairwise_iff_getElem.mp h1 i j hi hj z)
    · exact z
    · exact absurd e.symm (List.pairwise_iff_getElem.mp h1 j i hj hi z)
theorem va_D.pm {A : Nat → Prop} {ws ws' : va_W} (hp : ws.Perm ws') (h : va_D A ws) : va_D A ws' := by
  obtain ⟨h1, h2⟩ := va_D_iff.mp h
  exact va_D_iff.mpr ⟨(hp.pairwise_iff (fun h => Ne.symm h)).mp h1, fun q hq => h2 q (hp.mem_iff.mpr hq)⟩
theorem va_A.pm {W wc R : va_W} {sz q : Nat} (hp : W.Perm (wc ++ R)) (h : va_A wc sz q) : va_A W sz q := by
  rcases h with ⟨k, e, hk⟩ | h
  · obtain ⟨j, hj⟩ := List.getElem?_of_mem (hp.mem_iff.mpr (List.mem_append_left R (List.mem_of_getElem? hk)))
    exact Or.inl ⟨j, e, hj⟩
  · exact Or.inr h
theorem va_D.own {A : Nat → Prop} {W : va_W} {sz : Nat} (h : va_D A W) : va_D (va_A W sz) W := ⟨h.1, fun _ _ hk => va_A.in hk⟩
theorem va_P.lf {D : va_G} {cl : List vw_C} {a b : va_W} {H : Heap} (h : va_P D cl (a ++ b) H) : va_P D cl a H := fun k q hk => h k q (by rw [List.getElem?_append_left (List.getElem?_eq_some_iff.mp hk).1]; exact hk)
theorem va_D.lf {A : Nat → Prop} {a b : va_W} (h : va_D A (a ++ b)) : va_D A a := by
  have h2 := va_D_iff.mp h
  exact va_D_iff.mpr ⟨(List.pairwise_append.mp h2.1).1, fun q hq => h2.2 q (List.mem_append_left b hq)⟩
theorem va_jp {A0 : Nat → Prop} {D : va_G} {cl : List vw_C} {ws wc wr w1 : va_W} {H H1 : Heap} (hP : va_P D cl ws H) (hD : va_D A0 ws) (hp : ws.Perm (wc ++ wr)) (hk : ∀ q : Nat, q < H.size → ¬ va_A wc H.size q → H1[q]? = H[q]?) (hF : ∀ q, va_A wc H.size q → A0 q) (hP1 : va_P D cl w1 H1) (hD1 : va_D (va_A wc H.size) w1) : va_P D cl (w1 ++ wr) H1 ∧ va_D A0 (w1 ++ wr) := by
  have hC : (List.range wc.length).map (fun i => wc[i]?) = wc.map some := by
    apply List.ext_getElem
    · simp
    · intro n h1 h2
      simp at h1 ⊢
  exact va_joinQ (X := wc) (cx := wc) (wr := []) (pl := wr) (hP.pm hp) (hD.pm hp) (List.range wc.length) [] hC rfl rfl (fun i hi => absurd hi (by simp)) hk hF hP1 hD1
def QB (D : va_G) (tys : List (ClassId × FieldType)) (W : va_W) (sz : Nat) : va_W → State → Prop := fun u t => va_P D vwCl u t.heap ∧ va_K D vwCl tys t ∧ va_D (va_A W sz) u
theorem va_A0s {W : va_W} {sz q : Nat} (h : va_A [] sz q) : va_A W sz q := Or.inr (va_A0 h)
theorem lift_WCi {l : Launch} {y : MethodName} {ws : List Cond} {rm : Room} {D : va_G} {av : List Value} {sz mc ms : Nat} {wc : va_W} {tysc : List (ClassId × FieldType)} {S : Type} {post : Int32 → S → Prop} {w1 : S → va_W} (h : Met l y ws rm (PcWC D av sz wc tysc) (va_Qi post (fun u t => va_P D vwCl (w1 u) t.heap ∧ va_K D vwCl tysc t ∧ va_D (va_A wc sz) (w1 u)) (va_A wc sz)) mc ms (va_A wc sz)) {ws' : List Cond} {rm' : Room} {mc' ms' : Nat} {adK adV : Nat → Nat} {W R : va_W} {tys : List (ClassId × FieldType)} (isT : List Nat) (hT : isT.filterMap (fun i => tys[i]?) = tysc) (hws : ∀ w ∈ ws, w ∈ ws') (hr : rm.frames ≤ rm'.frames ∧ rm.locals ≤ rm'.locals ∧ rm.cells ≤ rm'.cells ∧ rm.slots ≤ rm'.slots) (hm : mc ≤ mc' ∧ ms ≤ ms') (hp : W.Perm (wc ++ R)) {post' : Int32 → va_W → Prop} (hpo : ∀ r u, post r u → post' r (w1 u ++ R)) : Met l y ws' rm' (PcWS D adK adV av sz W tys) (va_Qi post' (QB D tys W sz) (va_A W sz)) mc' ms' (va_A W sz) := by
  refine Met.up h hws hr hm ?_ (fun q hq => va_A.pm hp hq) ?_
  · rintro a s ⟨ha, hsz, hP, hK, hD, hN, hST⟩
    exact ⟨ha, hsz, (hP.pm hp).lf, hK.sub isT hT, (hD.pm hp).lf, hN⟩
  · rintro a s o t ⟨ha, hsz, hP, hK, hD, hN, hST⟩ hW ⟨⟨r, u, ho, hq, hP1, hK1, hD1⟩, hF⟩
    subst hsz
    have hj := va_jp hP (hD.own (sz := s.heap.size)) hp hF.2 (fun q hq => va_A.pm hp hq) hP1 hD1
    exact ⟨⟨r, w1 u ++ R, ho, hpo r u hq, hj.1, va_K.moved hW.alike hK, hj.2⟩, hF.1, fun q h1 h2 => hF.2 q h1 (fun z => h2 (va_A.pm hp z))⟩
theorem lift_RCi {l : Launch} {y : MethodName} {ws : List Cond} {rm : Room} {D : va_G} {av : List Value} {sz mc ms : Nat} {wc : va_W} {tysc : List (ClassId × FieldType)} {post : Int32 → Unit → Prop} (h : Met l y ws rm (PcRC D av sz wc tysc) (va_Qi post (fun (_ : Unit) _ => True) (va_A [] sz)) mc ms (va_A [] sz)) {ws' : List Cond} {rm' : Room} {mc' ms' : Nat} {adK adV : Nat → Nat} {W R : va_W} {tys : List (ClassId × FieldType)} (isT : List Nat) (hT : isT.filterMap (fun i => tys[i]?) = tysc) (hws : ∀ w ∈ ws, w ∈ ws') (hr : rm.frames ≤ rm'.frames ∧ rm.locals ≤ rm'.locals ∧ rm.cells ≤ rm'.cells ∧ rm.slots ≤ rm'.slots) (hm : mc ≤ mc' ∧ ms ≤ ms') (hp : W.Perm (wc ++ R)) {post' : Int32 → va_W → Prop} (hpo : ∀ r, post r () → post' r W) : Met l y ws' rm' (PcWS D adK adV av sz W tys) (va_Qi post' (QB D tys W sz) (va_A W sz)) mc' ms' (va_A W sz) := by
  refine Met.up h hws hr hm ?_ (fun q hq => va_A0s hq) ?_
  · rintro a s ⟨ha, hsz, hP, hK, hD, hN, hST⟩
    exact ⟨ha, hsz, (hP.pm hp).lf, hK.sub isT hT, hN⟩
  · rintro a s o t ⟨ha, hsz, hP, hK, hD, hN, hST⟩ hW ⟨⟨r, u, ho, hq, -⟩, hF⟩
    subst hsz
    exact ⟨⟨r, W, ho, hpo r hq, fun k q hk => (hP k q hk).kept (hF.2 q.1 (hP k q hk).lt (fun z => absurd (va_A0 z) (Nat.not_le.mpr (hP k q hk).lt))), va_K.moved hW.alike hK, hD.own⟩, hF.1, fun q h1 h2 => hF.2 q h1 (fun z => h2 (va_A0s z))⟩
theorem lift_WCl {l : Launch} {y : MethodName} {ws : List Cond} {rm : Room} {D : va_G} {av : List Value} {sz mc ms : Nat} {wc : va_W} {tysc : List (ClassId × FieldType)} {S : Type} {post : Int64 → S → Prop} {w1 : S → va_W} (h : Met l y ws rm (PcWC D av sz wc tysc) (va_Ql post (fun u t => va_P D vwCl (w1 u) t.heap ∧ va_K D vwCl tysc t ∧ va_D (va_A wc sz) (w1 u)) (va_A wc sz)) mc ms (va_A wc sz)) {ws' : List Cond} {rm' : Room} {mc' ms' : Nat} {adK adV : Nat → Nat} {W R : va_W} {tys : List (ClassId × FieldType)} (isT : List Nat) (hT : isT.filterMap (fun i => tys[i]?) = tysc) (hws : ∀ w ∈ ws, w ∈ ws') (hr : rm.frames ≤ rm'.frames ∧ rm.locals ≤ rm'.locals ∧ rm.cells ≤ rm'.cells ∧ rm.slots ≤ rm'.slots) (hm : mc ≤ mc' ∧ ms ≤ ms') (hp : W.Perm (wc ++ R)) {post' : Int64 → va_W → Prop} (hpo : ∀ r u, post r u → post' r (w1 u ++ R)) : Met l y ws' rm' (PcWS D adK adV av sz W tys) (va_Ql post' (QB D tys W sz) (va_A W sz)) mc' ms' (va_A W sz) := by
  refine Met.up h hws hr hm ?_ (fun q hq => va_A.pm hp hq) ?_
  · rintro a s ⟨ha, hsz, hP, hK, hD, hN, hST⟩
    exact ⟨ha, hsz, (hP.pm hp).lf, hK.sub isT hT, (hD.pm hp).lf, hN⟩
  · rintro a s o t ⟨ha, hsz, hP, hK, hD, hN, hST⟩ hW ⟨⟨r, u, ho, hq, hP1, hK1, hD1⟩, hF⟩
    subst hsz
    have hj := va_jp hP (hD.own (sz := s.heap.size)) hp hF.2 (fun q hq => va_A.pm hp hq) hP1 hD1
    exact ⟨⟨r, w1 u ++ R, ho, hpo r u hq, hj.1, va_K.moved hW.alike hK, hj.2⟩, hF.1, fun q h1 h2 => hF.2 q h1 (fun z => h2 (va_A.pm hp z))⟩
theorem lift_RCl {l : Launch} {y : MethodName} {ws : List Cond} {rm : Room} {D : va_G} {av : List Value} {sz mc ms : Nat} {wc : va_W} {tysc : List (ClassId × FieldType)} {post : Int64 → Unit → Prop} (h : Met l y ws rm (PcRC D av sz wc tysc) (va_Ql post (fun (_ : Unit) _ => True) (va_A [] sz)) mc ms (va_A [] sz)) {ws' : List Cond} {rm' : Room} {mc' ms' : Nat} {adK adV : Nat → Nat} {W R : va_W} {tys : List (ClassId × FieldType)} (isT : List Nat) (hT : isT.filterMap (fun i => tys[i]?) = tysc) (hws : ∀ w ∈ ws, w ∈ ws') (hr : rm.frames ≤ rm'.frames ∧ rm.locals ≤ rm'.locals ∧ rm.cells ≤ rm'.cells ∧ rm.slots ≤ rm'.slots) (hm : mc ≤ mc' ∧ ms ≤ ms') (hp : W.Perm (wc ++ R)) {post' : Int64 → va_W → Prop} (hpo : ∀ r, post r () → post' r W) : Met l y ws' rm' (PcWS D adK adV av sz W tys) (va_Ql post' (QB D tys W sz) (va_A W sz)) mc' ms' (va_A W sz) := by
  refine Met.up h hws hr hm ?_ (fun q hq => va_A0s hq) ?_
  · rintro a s ⟨ha, hsz, hP, hK, hD, hN, hST⟩
    exact ⟨ha, hsz, (hP.pm hp).lf, hK.sub isT hT, hN⟩
  · rintro a s o t ⟨ha, hsz, hP, hK, hD, hN, hST⟩ hW ⟨⟨r, u, ho, hq, -⟩, hF⟩
    subst hsz
    exact ⟨⟨r, W, ho, hpo r hq, fun k q hk => (hP k q hk).kept (hF.2 q.1 (hP k q hk).lt (fun z => absurd (va_A0 z) (Nat.not_le.mpr (hP k q hk).lt))), va_K.moved hW.alike hK, hD.own⟩, hF.1, fun q h1 h2 => hF.2 q h1 (fun z => h2 (va_A0s z))⟩
theorem lift_WSi {l : Launch} {y : MethodName} {ws : List Cond} {rm : Room} {D : va_G} {adK adV : Nat → Nat} {av : List Value} {sz mc ms : Nat} {wc : va_W} {tysc : List (ClassId × FieldType)} {S : Type} {post : Int32 → S → Prop} {w1 : S → va_W} (h : Met l y ws rm (PcWS D adK adV av sz wc tysc) (va_Qi post (fun u t => va_P D vwCl (w1 u) t.heap ∧ va_K D vwCl tysc t ∧ va_D (va_A wc sz) (w1 u)) (va_A wc sz)) mc ms (va_A wc sz)) {ws' : List Cond} {rm' : Room} {mc' ms' : Nat} {W R : va_W} {tys : List (ClassId × FieldType)} (isT : List Nat) (hT : isT.filterMap (fun i => tys[i]?) = tysc) (hws : ∀ w ∈ ws, w ∈ ws') (hr : rm.frames ≤ rm'.frames ∧ rm.locals ≤ rm'.locals ∧ rm.cells ≤ rm'.cells ∧ rm.slots ≤ rm'.slots) (hm : mc ≤ mc' ∧ ms ≤ ms') (hp : W.Perm (wc ++ R)) {post' : Int32 → va_W → Prop} (hpo : ∀ r u, post r u → post' r (w1 u ++ R)) : Met l y ws' rm' (PcWS D adK adV av sz W tys) (va_Qi post' (QB D tys W sz) (va_A W sz)) mc' ms' (va_A W sz) := by
  refine Met.up h hws hr hm ?_ (fun q hq => va_A.pm hp hq) ?_
  · rintro a s ⟨ha, hsz, hP, hK, hD, hN, hST⟩
    exact ⟨ha, hsz, (hP.pm hp).lf, hK.sub isT hT, (hD.pm hp).lf, hN, hST.narrow (fun q h => va_A.pm hp h)⟩
  · rintro a s o t ⟨ha, hsz, hP, hK, hD, hN, hST⟩ hW ⟨⟨r, u, ho, hq, hP1, hK1, hD1⟩, hF⟩
    subst hsz
    have hj := va_jp hP (hD.own (sz := s.heap.size)) hp hF.2 (fun q hq => va_A.pm hp hq) hP1 hD1
    exact ⟨⟨r, w1 u ++ R, ho, hpo r u hq, hj.1, va_K.moved hW.alike hK, hj.2⟩, hF.1, fun q h1 h2 => hF.2 q h1 (fun z => h2 (va_A.pm hp z))⟩
theorem lift_RSi {l : Launch} {y : MethodName} {ws : List Cond} {rm : Room} {D : va_G} {adK adV : Nat → Nat} {av : List Value} {sz mc ms : Nat} {wc : va_W} {tysc : List (ClassId × FieldType)} {post : Int32 → Unit → Prop} (h : Met l y ws rm (PcRS D adK adV av sz wc tysc) (va_Qi post (fun (_ : Unit) _ => True) (va_A [] sz)) mc ms (va_A [] sz)) {ws' : List Cond} {rm' : Room} {mc' ms' : Nat} {W R : va_W} {tys : List (ClassId × FieldType)} (isT : List Nat) (hT : isT.filterMap (fun i => tys[i]?) = tysc) (hws : ∀ w ∈ ws, w ∈ ws') (hr : rm.frames ≤ rm'.frames ∧ rm.locals ≤ rm'.locals ∧ rm.cells ≤ rm'.cells ∧ rm.slots ≤ rm'.slots) (hm : mc ≤ mc' ∧ ms ≤ ms') (hp : W.Perm (wc ++ R)) {post' : Int32 → va_W → Prop} (hpo : ∀ r, post r () → post' r W) : Met l y ws' rm' (PcWS D adK adV av sz W tys) (va_Qi post' (QB D tys W sz) (va_A W sz)) mc' ms' (va_A W sz) := by
  refine Met.up h hws hr hm ?_ (fun q hq => va_A0s hq) ?_
  · rintro a s ⟨ha, hsz, hP, hK, hD, hN, hST⟩
    exact ⟨ha, hsz, (hP.pm hp).lf, hK.sub isT hT, hN, hST.narrow (fun q h => va_A0s h)⟩
  · rintro a s o t ⟨ha, hsz, hP, hK, hD, hN, hST⟩ hW ⟨⟨r, u, ho, hq, -⟩, hF⟩
    subst hsz
    exact ⟨⟨r, W, ho, hpo r hq, fun k q hk => (hP k q hk).kept (hF.2 q.1 (hP k q hk).lt (fun z => absurd (va_A0 z) (Nat.not_le.mpr (hP k q hk).lt))), va_K.moved hW.alike hK, hD.own⟩, hF.1, fun q h1 h2 => hF.2 q h1 (fun z => h2 (va_A0s z))⟩

