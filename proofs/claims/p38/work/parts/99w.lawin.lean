/-! THE CLAIM OUT OF ONE WALK OF THE LAW'S BODY. Your part is whole_start (and what it stands on); all else here is the same for every law, but numbers. -/
def R_law : String := "ClashFreeLaw"
def lw_P (b : Addr) (xs : List Int32) (args : Array Value) (s : State) : Prop := args = #[.ref b] ∧ s.IntsAt b xs ∧ xs.length ≤ 3584 ∧ (Jvm.Cond.and given_1 narrow_1).before args s = true
def lw_Q (_ : Array Value) (s : State) (o : Outcome) (t : State) : Prop := o = .returned (some (.int 1)) ∧ Framed s o t [] 1200000 5502250
def lw_Z (below : List Frame) (a : Array Value) (s : State) : State → Prop := fun t => ∃ o, t.status = .running ∧ Ended t below o ∧ lw_Q a s o t
/-- the law's own end, with 1 on the stack, nothing written that was there before, its room as the claim has it -/
theorem lw_ret {p : Program} {l : Launch} {e : Env} {s : State} {m : MethodId} {below : List Frame} {meth : Method} {c : Code} {b : Nat} (hx : p.tables.exec = Jvm.exec) (hb : c.code = code) (hr : meth.sig.returnType = ret) (hlocks : meth.locks = false) {pc : Nat} {H : Heap} {ls : Array Slot} (hdg : decode code pc = .ok (.ireturn, 1)) : W p l e room_1 s m #[Value.ref b] below meth c H [] 1200000 5502250 (lw_Z below #[Value.ref b] s) (F0 m pc ls [.int 1]) := by
  intro T hT X
  obtain ⟨fs, hret, hrun, hended, hW, hframe⟩ := X.leave (v := some (.int 1)) (hlocks := hlocks) (fun h => by rw [hr] at h; cases h)
  have hmeth' : T.vm.method? m = some meth := X.method'
  refine ⟨T.setFrames fs, ?_, .returned (some (.int 1)), hrun, hended, rfl, ⟨_, rfl⟩, hW, hframe⟩
  jvm_step X.here [X.here.top, hx, hb, hdg, hmeth', hr, ret, narrow_b1]
  (try refine ⟨rfl, ?_⟩); (try refine ⟨rfl, ?_⟩)
  first | (intro acts; rw [hret _ acts rfl rfl rfl]) | rw [hret _ _ rfl rfl rfl]
  exact Steps.refl _
/-- what holds at the law's entry: the machine, the code, the tables' words (any of lw_tbl by 'hts w (by decide +kernel)'), the script of L ints xs at the cell b, what the Statement gives of the start (any of its parts by flat_of_before) -/
def lw_At (p : Program) (s : State) (m : MethodId) (meth : Method) (c : Code) (b L : Nat) (xs : Nat → Int32) : Prop :=
  p.tables.exec = Jvm.exec ∧ c.code = code ∧ meth.sig.returnType = ret ∧ c.maxLocals = 4 ∧ s.vm.findClass R_law = some m.cls ∧ (∀ w ∈ lw_tbl, w.before #[Value.ref b] s = true) ∧ va_X b L xs s s.heap ∧ b < s.heap.size ∧ meth.locks = false ∧ (Jvm.Cond.and given_1 narrow_1).before #[Value.ref b] s = true
theorem in_m_put : ∀ w ∈ wp_m_put, w ∈ lw_tbl := List.forall_mem_append.mpr ⟨in_n_put, in_s_put⟩
theorem in_m_get : ∀ w ∈ wp_m_get, w ∈ lw_tbl := List.forall_mem_append.mpr ⟨in_n_get, in_s_get⟩
theorem in_m_drop : ∀ w ∈ wp_m_drop, w ∈ lw_tbl := List.forall_mem_append.mpr ⟨in_n_drop, in_s_drop⟩
theorem in_m_build : ∀ w ∈ wp_m_build, w ∈ lw_tbl := List.forall_mem_append.mpr ⟨in_n_build, in_s_build⟩
theorem in_m_has : ∀ w ∈ wp_m_has, w ∈ lw_tbl := List.forall_mem_append.mpr ⟨in_n_has, in_s_has⟩
theorem in_m_bucket : ∀ w ∈ wp_m_bucket, w ∈ lw_tbl := List.forall_mem_append.mpr ⟨in_n_bucket, in_s_bucket⟩
theorem in_m_room : ∀ w ∈ wp_m_room, w ∈ lw_tbl := List.forall_mem_append.mpr ⟨in_n_room, in_s_room⟩
theorem in_m_place : ∀ w ∈ wp_m_place, w ∈ lw_tbl := List.forall_mem_append.mpr ⟨in_n_place, in_s_place⟩
theorem in_m_key : ∀ w ∈ wp_m_key, w ∈ lw_tbl := List.forall_mem_append.mpr ⟨in_n_key, in_s_key⟩
theorem in_m_walk : ∀ w ∈ wp_m_walk, w ∈ lw_tbl := List.forall_mem_append.mpr ⟨in_n_walk, in_s_walk⟩
theorem in_m_below : ∀ w ∈ wp_m_below, w ∈ lw_tbl := List.forall_mem_append.mpr ⟨in_n_below, in_s_below⟩
theorem in_m_nearest : ∀ w ∈ wp_m_nearest, w ∈ lw_tbl := List.forall_mem_append.mpr ⟨in_n_nearest, in_s_nearest⟩
theorem in_m_many : ∀ w ∈ wp_m_many, w ∈ lw_tbl := List.forall_mem_append.mpr ⟨in_n_many, in_s_many⟩
theorem in_m_crowd : ∀ w ∈ wp_m_crowd, w ∈ lw_tbl := List.forall_mem_append.mpr ⟨in_n_crowd, in_s_crowd⟩
theorem in_m_empty : ∀ w ∈ wp_m_empty, w ∈ lw_tbl := List.forall_mem_append.mpr ⟨in_n_empty, in_s_empty⟩
theorem in_m_left : ∀ w ∈ wp_m_left, w ∈ lw_tbl := List.forall_mem_append.mpr ⟨in_n_left, in_s_left⟩
theorem in_m_outer : ∀ w ∈ wp_m_outer, w ∈ lw_tbl := List.forall_mem_append.mpr ⟨in_n_outer, in_s_outer⟩
theorem in_m_best : ∀ w ∈ wp_m_best, w ∈ lw_tbl := List.forall_mem_append.mpr ⟨in_n_best, in_s_best⟩
theorem in_m_inner : ∀ w ∈ wp_m_inner, w ∈ lw_tbl := List.forall_mem_append.mpr ⟨in_n_inner, in_s_inner⟩
theorem in_m_tries : ∀ w ∈ wp_m_tries, w ∈ lw_tbl := List.forall_mem_append.mpr ⟨in_n_tries, in_s_tries⟩
theorem in_m_would : ∀ w ∈ wp_m_would, w ∈ lw_tbl := List.forall_mem_append.mpr ⟨in_n_would, in_s_would⟩
theorem in_m_frozen : ∀ w ∈ wp_m_frozen, w ∈ lw_tbl := List.forall_mem_append.mpr ⟨in_n_frozen, in_s_frozen⟩
theorem in_m_frozenAt : ∀ w ∈ wp_m_frozenAt, w ∈ lw_tbl := List.forall_mem_append.mpr ⟨in_n_frozenAt, in_s_frozenAt⟩
theorem in_m_values : ∀ w ∈ wp_m_values, w ∈ lw_tbl := List.forall_mem_append.mpr ⟨in_n_values, in_s_values⟩
theorem in_m_run : ∀ w ∈ wp_m_run, w ∈ lw_tbl := List.forall_mem_append.mpr ⟨in_n_run, in_s_run⟩
theorem in_m_image : ∀ w ∈ wp_m_image, w ∈ lw_tbl := List.forall_mem_append.mpr ⟨in_n_image, in_s_image⟩
theorem in_m_feed : ∀ w ∈ wp_m_feed, w ∈ lw_tbl := in_x_feed
theorem in_m_end : ∀ w ∈ wp_m_end, w ∈ lw_tbl := in_x_end
theorem in_m_ran : ∀ w ∈ wp_m_ran, w ∈ lw_tbl := in_x_ran
theorem in_m_octet : ∀ w ∈ wp_m_octet, w ∈ lw_tbl := in_x_octet
theorem in_m_make : ∀ w ∈ wp_m_make, w ∈ lw_tbl := List.forall_mem_append.mpr ⟨in_s_make, in_n_make⟩
theorem in_m_makeW : ∀ w ∈ wp_m_makeW, w ∈ lw_tbl := in_w_make
theorem in_m_back : ∀ w ∈ wp_m_back, w ∈ lw_tbl := List.forall_mem_append.mpr ⟨in_s_back, List.forall_mem_append.mpr ⟨in_z_back, in_n_back⟩⟩
theorem in_m_backW : ∀ w ∈ wp_m_backW, w ∈ lw_tbl := in_w_back
theorem in_m_shared : ∀ w ∈ wp_m_shared, w ∈ lw_tbl := List.forall_mem_append.mpr ⟨in_n_sharedNN, List.forall_mem_append.mpr ⟨in_n_sharedNS, List.forall_mem_append.mpr ⟨in_n_sharedSN, List.forall_mem_append.mpr ⟨in_e_shared, in_d_shared⟩⟩⟩⟩
theorem in_m_join : ∀ w ∈ wp_m_join, w ∈ lw_tbl := List.forall_mem_append.mpr ⟨in_n_joinNN, List.forall_mem_append.mpr ⟨in_n_joinNS, List.forall_mem_append.mpr ⟨in_n_joinSN, List.forall_mem_append.mpr ⟨in_n_joinEQ, in_d_join⟩⟩⟩⟩
theorem in_m_cut : ∀ w ∈ wp_m_cut, w ∈ lw_tbl := List.forall_mem_append.mpr ⟨in_n_cutNN, List.forall_mem_append.mpr ⟨in_n_cutNS, List.forall_mem_append.mpr ⟨in_n_cutSN, List.forall_mem_append.mpr ⟨in_n_cutEQ, in_d_cut⟩⟩⟩⟩
theorem in_m_copy : ∀ w ∈ wp_m_copy, w ∈ lw_tbl := List.forall_mem_append.mpr ⟨in_n_copyN, List.forall_mem_append.mpr ⟨in_d_copy, in_n_copyB⟩⟩
theorem in_m_copyW : ∀ w ∈ wp_m_copyW, w ∈ lw_tbl := in_w_copy
theorem in_m_count : ∀ w ∈ wp_m_count, w ∈ lw_tbl := in_x_count
