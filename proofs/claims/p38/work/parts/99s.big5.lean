theorem mem_oth {x : Nat × va_E} {wt : Nat → va_W} {k : Nat} (hk : k < 4) (h : x ∈ wt k) : x ∈ othr wt := by
  simp only [othr, List.mem_append]
  rcases (show k = 0 ∨ k = 1 ∨ k = 2 ∨ k = 3 by omega) with e | e | e | e <;> subst e
  · exact Or.inl h
  · exact Or.inr (Or.inl h)
  · exact Or.inr (Or.inr (Or.inl h))
  · exact Or.inr (Or.inr (Or.inr h))
theorem cuA_x {th tg : Nat → Bool} {Ls : Nat → List (Nat × Int32)} {a z : Int32} (h : ∀ k, k < 4 → th k = tg k) : cuA th Ls a z = cuA tg Ls a z := by
  unfold cuA
  rw [cuF_eq 4 h]
theorem pf_c0 {W c t p i q m : va_W} {wt : Nat → va_W} (hp : W.Perm (catw c t p i q m wt)) : W.Perm ((c ++ (t ++ (p ++ (i ++ (q ++ (m ++ othr wt)))))) ++ []) := by
  rw [List.append_nil]
  exact hp
def wp_m_count : List Cond := wp_x_count
set_option maxHeartbeats 4000000 in
theorem m_count (l : Launch) (D : va_G) (sz : Nat) (adK adV : Nat → Nat) (cI cT : ClassId) (a0 : Nat) (tp : Nat) (bt : Nat → Nat) (ex : Nat → Bool) (Ls : Nat → List (Nat × Int32)) (W : va_W) (z1 : Int32) (hC : CWd cI cT a0 tp bt ex Ls W) : Met l yX10_count wp_m_count ({ frames := 1, cells := 0, slots := 0, locals := 22 }) (PcWS D adK adV [.ref a0, .int z1] sz W [(cI, .int), (cT, .object RX9)]) (va_Qi (fun r (u : va_W) => CWd cI cT a0 tp bt ex Ls u ∧ r = cuA ex Ls (nI tp) z1) (QB D [(cI, .int), (cT, .object RX9)] W sz) (va_A W sz)) 0 0 (va_A W sz) := by
  obtain ⟨ox, ob3, og, oq, ow, ft, xt, xp, xi, xq, xm, wt, rfl, htp, ht9, hp9, hi9, hq9, hm9, hok9, hex9, hpm⟩ := id hC
  have hG : ∀ k, k < 4 → ∀ b, ft k = some b → ∃ (o : Nat → Nat) (tb ts tg tl tc tr tu tv tw : Int32) (cn : Nat), b = o 0 ∧ (o 0, .inr (9, gT o tb ts tg tl tc tr tu tv tw)) ∈ (xt ++ (xp ++ (xi ++ (xq ++ (xm ++ othr wt))))) ∧ (o 2, .inr (2, [.int (nI cn), .ref (o 3), .ref (o 4)])) ∈ (xt ++ (xp ++ (xi ++ (xq ++ (xm ++ othr wt))))) ∧ (Ls k).length = cn := by
    intro k hk b hb
    rcases hok9 k hk with ⟨h1, _, _⟩ | ⟨b9, h1, hT⟩
    · rw [h1] at hb
      cases hb
    · obtain rfl : b9 = b := Option.some.inj (h1.symm.trans hb)
      obtain ⟨ob, tb, ts, tg, tl, tc, tr, tu, tv, tw, sd, da, db, pr, cn, fk, fv, nb, ka, kb, sm, ln, fh, ff, fa, fs, fj, fr, fo, fx, rfl, hTb, hKv, hwk⟩ := hT
      exact ⟨ob, tb, ts, tg, tl, tc, tr, tu, tv, tw, cn, rfl, List.mem_append_right _ (List.mem_append_right _ (List.mem_append_right _ (List.mem_append_right _ (List.mem_append_right _ (mem_oth hk (by rw [hwk]; exact List.mem_cons_self ..)))))), List.mem_append_right _ (List.mem_append_right _ (List.mem_append_right _ (List.mem_append_right _ (List.mem_append_right _ (mem_oth hk (by rw [hwk]; exact List.mem_cons_of_mem _ (List.mem_cons_of_mem _ (List.mem_cons_self ..)))))))), hKv.len⟩
  exact lift_RCi (x_count l D sz ox ob3 og oq ow cI cT tp ft z1 (xt ++ (xp ++ (xi ++ (xq ++ (xm ++ othr wt))))) Ls hG) [1] rfl (fun w h => h) ⟨(Nat.le_of_ble_eq_true rfl), (Nat.le_of_ble_eq_true rfl), (Nat.le_of_ble_eq_true rfl), (Nat.le_of_ble_eq_true rfl)⟩ ⟨(Nat.le_of_ble_eq_true rfl), (Nat.le_of_ble_eq_true rfl)⟩ (pf_c0 hpm) (fun r h => ⟨hC, h.trans (cuA_x hex9)⟩)

