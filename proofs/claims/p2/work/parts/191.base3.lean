/-! LOCALS: what a run needs of them; a run goes on with more -/
def ndL : ab_Lo → Bool
  | [] => true
  | q :: L => L.all (fun p => !(Nat.beq p.1 q.1)) && ndL L
theorem ab_get_none {L : ab_Lo} {i : Nat} (h : ∀ q ∈ L, q.1 ≠ i) : ab_get L i = none := by
  induction L with
  | nil => rfl
  | cons q L ih =>
    unfold ab_get
    have h1 := h q List.mem_cons_self
    rw [show Nat.beq q.1 i = false from by
      cases hb : Nat.beq q.1 i with
      | false => rfl
      | true => exact absurd (Nat.eq_of_beq_eq_true hb) h1]
    exact ih (fun p hp => h p (List.mem_cons_of_mem _ hp))
theorem ab_get_mem2 {L : ab_Lo} {i : Nat} {v : Value} (h : ab_get L i = some v) : (i, v) ∈ L := by
  induction L with
  | nil => cases h
  | cons q L ih =>
    unfold ab_get at h
    cases hb : Nat.beq q.1 i with
    | true =>
      rw [hb] at h
      cases h
      have : q.1 = i := Nat.eq_of_beq_eq_true hb
      subst this
      exact List.mem_cons_self
    | false => rw [hb] at h; exact List.mem_cons_of_mem _ (ih h)
theorem ab_get_of {L : ab_Lo} {i : Nat} {v : Value} (hn : ndL L = true) (h : (i, v) ∈ L) : ab_get L i = some v := by
  induction L with
  | nil => cases h
  | cons q L ih =>
    unfold ndL at hn
    rw [Bool.and_eq_true] at hn
    unfold ab_get
    rcases List.mem_cons.mp h with rfl | h1
    · rw [show Nat.beq i i = true from Nat.beq_refl i]
      rfl
    · have h2 := List.all_eq_true.mp hn.1 _ h1
      rw [show Nat.beq q.1 i = false from by
        cases hb : Nat.beq q.1 i with
        | false => rfl
        | true =>
          have e := Nat.eq_of_beq_eq_true hb
          simp only [Bool.not_eq_true'] at h2
          rw [← e, Nat.beq_refl] at h2
          cases h2]
      exact ih hn.2 h1
theorem ndL_filter {f : Nat × Value → Bool} {L : ab_Lo} (h : ndL L = true) : ndL (L.filter f) = true := by
  induction L with
  | nil => rfl
  | cons q L ih =>
    unfold ndL at h
    rw [Bool.and_eq_true] at h
    rw [List.filter_cons]
    split
    · unfold ndL
      rw [Bool.and_eq_true]
      exact ⟨List.all_eq_true.mpr (fun p hp => List.all_eq_true.mp h.1 p (List.mem_filter.mp hp).1), ih h.2⟩
    · exact ih h.2
theorem ndL_up {L : ab_Lo} {i : Nat} {v : Value} (h : ndL L = true) : ndL (ab_up L i v) = true := by
  unfold ab_up ndL
  rw [Bool.and_eq_true]
  refine ⟨List.all_eq_true.mpr (fun p hp => ?_), ndL_filter h⟩
  have := (List.mem_filter.mp hp).2
  rw [Bool.and_eq_true] at this
  have h1 := this.1
  simp only [Bool.not_eq_true', beq_eq_false_iff_ne] at h1 ⊢
  cases hb : Nat.beq p.1 i with
  | false => rfl
  | true => exact absurd (Nat.eq_of_beq_eq_true hb) h1
def SubL (L L' : ab_Lo) : Prop := ∀ i v, ab_get L i = some v → ab_get L' i = some v
theorem SubL_up {L L' : ab_Lo} {i : Nat} {v : Value} (h : SubL L L') (hn : ndL L = true) (hn' : ndL L' = true) : SubL (ab_up L i v) (ab_up L' i v) := by
  intro j u hj
  have hm := ab_get_mem2 hj
  refine ab_get_of (ndL_up hn') ?_
  unfold ab_up at hm ⊢
  rcases List.mem_cons.mp hm with h1 | h1
  · rw [h1]; exact List.mem_cons_self
  · obtain ⟨h2, h3⟩ := List.mem_filter.mp h1
    exact List.mem_cons_of_mem _ (List.mem_filter.mpr ⟨ab_get_mem2 (h _ _ (ab_get_of hn h2)), h3⟩)
theorem SubL.of {L L' : ab_Lo} (h : ∀ q ∈ L, ab_get L' q.1 = some q.2) : SubL L L' := fun _ _ hj => h _ (ab_get_mem2 hj)
section LM
variable {tb : ab_TB} {M : ab_M} {L L' : ab_Lo} {st : List Value} {w : ab_W} {cn sn : Nat} {cf : ab_Cf} {sp : List (List Int32)}
theorem loc_mono {n : Nat} {ins : Instr} {q : ab_Lo × List Value} (hs : SubL L L') (hn : ndL L = true) (hn' : ndL L' = true) (h : ab_loc n ins L st = some q) : ∃ L1', ab_loc n ins L' st = some (L1', q.2) ∧ SubL q.1 L1' ∧ ndL q.1 = true ∧ ndL L1' = true := by
  have kI : ∀ i, ab_ldi L i st = some q → ∃ L1', ab_ldi L' i st = some (L1', q.2) ∧ SubL q.1 L1' ∧ ndL q.1 = true ∧ ndL L1' = true := by
    intro i h
    unfold ab_ldi at h ⊢
    split at h
    · rename_i x hx
      cases h
      rw [hs _ _ hx]
      exact ⟨L', rfl, hs, hn, hn'⟩
    · cases h
  have kA : ∀ i, ab_lda L i st = some q → ∃ L1', ab_lda L' i st = some (L1', q.2) ∧ SubL q.1 L1' ∧ ndL q.1 = true ∧ ndL L1' = true := by
    intro i h
    unfold ab_lda at h ⊢
    split at h
    · rename_i x hx
      cases h
      rw [hs _ _ hx]
      exact ⟨L', rfl, hs, hn, hn'⟩
    · cases h
  have kS : ∀ i, ab_sti n L i st = some q → ∃ L1', ab_sti n L' i st = some (L1', q.2) ∧ SubL q.1 L1' ∧ ndL q.1 = true ∧ ndL L1' = true := by
    intro i h
    unfold ab_sti at h ⊢
    split at h
    · rename_i x r
      cases hb : Nat.blt i n with
      | false => rw [hb] at h; cases h
      | true =>
        rw [hb] at h
        cases h
        exact ⟨_, rfl, SubL_up hs hn hn', ndL_up hn, ndL_up hn'⟩
    · cases h
  have kT : ∀ i, ab_sta n L i st = some q → ∃ L1', ab_sta n L' i st = some (L1', q.2) ∧ SubL q.1 L1' ∧ ndL q.1 = true ∧ ndL L1' = true := by
    intro i h
    unfold ab_sta at h ⊢
    split at h
    · rename_i x r
      cases hb : Nat.blt i n with
      | false => rw [hb] at h; cases h
      | true =>
        rw [hb] at h
        cases h
        exact ⟨_, rfl, SubL_up hs hn hn', ndL_up hn, ndL_up hn'⟩
    · cases h
  cases ins with
  | iload i => exact kI i h
  | iload_n i => exact kI i h
  | aload i => exact kA i h
  | aload_n i => exact kA i h
  | lload_n i =>
    simp only [ab_loc] at h ⊢
    unfold ab_ldl at h ⊢
    split at h
    · rename_i x hx
      cases h
      rw [hs _ _ hx]
      exact ⟨L', rfl, hs, hn, hn'⟩
    · cases h
  | istore i => exact kS i h
  | istore_n i => exact kS i h
  | astore i => exact kT i h
  | astore_n i => exact kT i h
  | iinc i k =>
    simp only [ab_loc] at h ⊢
    split at h
    · rename_i x hx
      rw [hs _ _ hx]
      dsimp only
      cases hb : Nat.blt i n with
      | false => rw [hb] at h; cases h
      | true =>
        rw [hb] at h
        cases h
        exact ⟨_, rfl, SubL_up hs hn hn', ndL_up hn, ndL_up hn'⟩
    · cases h
  | _ => cases h
theorem inv_locs (hM : M.2.2.2.2.1 = 0) {j : Nat} {As rest : List Value} {q : List Value × ab_W × Nat × Nat} (h : ab_inv tb cf M j As L rest w cn sn = some q) : ab_inv tb cf M j As L' rest w cn sn = some q := by
  unfold ab_inv at h ⊢
  split at h
  · cases h
  · rename_i Mj hj
    try rw [hj]
    try dsimp only
    cases hb : (ab_room rest && Nat.ble (cn + Mj.2.2.2.2.1) M.2.2.2.2.1 && Nat.ble (sn + Mj.2.2.2.2.2.1) M.2.2.2.2.2.1 && (Nat.beq Mj.2.2.2.2.1 0 || (ab_okL w.length L && rest.all (ab_okv w.length)))) with
    | false => rw [hb] at h; cases h
    | true =>
      rw [hb] at h
      simp only [Bool.and_eq_true] at hb
      have e : Mj.2.2.2.2.1 = 0 := by
        have := Nat.le_of_ble_eq_true hb.1.1.2
        omega
      have hz : (ab_room rest && Nat.ble (cn + Mj.2.2.2.2.1) M.2.2.2.2.1 && Nat.ble (sn + Mj.2.2.2.2.2.1) M.2.2.2.2.2.1 && (Nat.beq Mj.2.2.2.2.1 0 || (ab_okL w.length L' && rest.all (ab_okv w.length)))) = true := by
        simp only [Bool.and_eq_true]
        refine ⟨hb.1, ?_⟩
        rw [e]
        rfl
      rw [hz]
      exact h
theorem go_locs (hM : M.2.2.2.2.1 = 0) {lk : Nat} {q : List Value × ab_W × Nat × Nat} (h : ab_go tb cf M lk L st w cn sn = some q) : ab_go tb cf M lk L' st w cn sn = some q := by
  have hst : ∀ {g : ab_G}, ab_stat tb cf M g L st w cn sn = some q → ab_stat tb cf M g L' st w cn sn = some q := by
    intro g hi
    unfold ab_stat at hi ⊢
    split at hi
    · rename_i q0 qs hq
      cases hb : Nat.beq (st.take g.2.2.2.2.1).length g.2.2.2.2.1 with
      | false => rw [hb] at hi; cases hi
      | true => rw [hb] at hi; exact inv_locs hM hi
    · cases hi
  have hin : ∀ {g : ab_G}, ab_inst tb cf M g L st w cn sn = some q → ab_inst tb cf M g L' st w cn sn = some q := by
    intro g hi
    unfold ab_inst at hi ⊢
    split at hi
    · rename_i r rest hst
      try rw [hst]
      try dsimp only
      split at hi
      · rename_i o ho
        try rw [ho]
        try dsimp only
        split at hi
        · rename_i q0 hq0
          try rw [hq0]
          try dsimp only
          cases hb : Nat.beq (st.take g.2.2.2.2.1).length g.2.2.2.2.1 with
          | false => rw [hb] at hi; cases hi
          | true => rw [hb] at hi; exact inv_locs hM hi
        · cases hi
      · cases hi
    · cases hi
  have hsi : ∀ {g : ab_G}, ab_sinst tb cf M g L st w cn sn = some q → ab_sinst tb cf M g L' st w cn sn = some q := by
    intro g hi
    unfold ab_sinst at hi ⊢
    split at hi
    · rename_i r rest hst
      try rw [hst]
      try dsimp only
      split at hi
      · rename_i q0 l0 hq0
        try rw [hq0]
        try dsimp only
        cases hb : (ab_isS r && Nat.beq (st.take g.2.2.2.2.1).length g.2.2.2.2.1) with
        | false => rw [hb] at hi; cases hi
        | true => rw [hb] at hi; exact inv_locs hM hi
      · cases hi
    · cases hi
  unfold ab_go at h ⊢
  split at h
  · cases h
  · rename_i g hg
    try rw [hg]
    try dsimp only
    split at h <;> first | exact hst h | exact hsi h | exact hin h | exact h
theorem call1_locs (hM : M.2.2.2.2.1 = 0) {ins : Instr} {lk : Nat} {q : List Value × ab_W × Nat × Nat} (h : ab_call1 tb cf M ins lk L st w cn sn = some q) : ab_call1 tb cf M ins lk L' st w cn sn = some q := by
  cases ins <;> first | exact go_locs hM h | cases h
theorem new_locs (hM : M.2.2.2.2.1 = 0) {ins : Instr} {lk : Nat} : ab_new tb M ins lk L st w cn sn = none := by
  have hz : ∀ k, Nat.ble (cn + (k + 1)) M.2.2.2.2.1 = false := by
    intro k
    rw [hM]
    cases hb : Nat.ble (cn + (k + 1)) 0 with
    | false => rfl
    | true => have := Nat.le_of_ble_eq_true hb; omega
  cases hx : ab_new tb M ins lk L st w cn sn with
  | none => rfl
  | some q =>
    exfalso
    cases ins with
    | new i =>
      simp only [ab_new] at hx
      split at hx
      · split at hx
        · rw [hz 0] at hx; simp at hx
        · cases hx
      · cases hx
    | newarray t =>
      cases t <;> simp only [ab_new] at hx <;> first | (cases hx; done) | (split at hx <;> first | (cases hx; done) | (rw [hz 0] at hx; simp at hx))
    | anewarray i =>
      simp only [ab_new] at hx
      split at hx
      · rw [hz 0] at hx; simp at hx
      · cases hx
    | multianewarray i d =>
      simp only [ab_new] at hx
      split at hx
      · rw [hz 4] at hx; simp at hx
      · cases hx
    | _ => cases hx
def exQ (y : Option (ab_St ⊕ ab_R)) (x : ab_St ⊕ ab_R) : Prop := match x with
  | .inl σ => ∃ L1', y = some (.inl (σ.1, L1', σ.2.2)) ∧ SubL σ.2.1 L1' ∧ ndL σ.2.1 = true ∧ ndL L1' = true
  | .inr r => y = some (.inr r)
theorem exec_locs (hM : M.2.2.2.2.1 = 0) {ins : Instr} {lk pc : Nat} {x : ab_St ⊕ ab_R} (hs : SubL L L') (hn : ndL L = true) (hn' : ndL L' = true) (h : ab_exec tb cf sp M ins lk pc L st w cn sn = some x) : exQ (ab_exec tb cf sp M ins lk pc L' st w cn sn) x := by
  unfold ab_exec at h ⊢
  cases h1 : ab_pure ins st with
  | some _ => rw [h1] at h; cases h; exact ⟨L', rfl, hs, hn, hn'⟩
  | none =>
    rw [h1] at h
    dsimp only at h ⊢
    cases h2 : ab_loc M.2.2.1 ins L st with
    | some q =>
      rw [h2] at h
      cases h
      obtain ⟨L1', e, k⟩ := loc_mono hs hn hn' h2
      rw [e]
      exact ⟨L1', rfl, k⟩
    | none =>
      rw [h2] at h
      dsimp only at h
      have h2' : (∃ q, ab_br ins pc lk st = some q) ∨ (∃ q, ab_heap tb sp ins lk st w = some q) ∨ (∃ q, ab_call1 tb cf M ins lk L st w cn sn = some q) ∨ (∃ q, ab_ret M.2.2.2.1 ins st = some q) → ab_loc M.2.2.1 ins L' st = none := by
        rintro (⟨q, hq⟩ | ⟨q, hq⟩ | ⟨q, hq⟩ | ⟨q, hq⟩) <;> cases ins <;> first | rfl | (cases hq; done)
      cases h3 : ab_br ins pc lk st with
      | some q =>
        rw [h3] at h
        cases h
        rw [h2' (Or.inl ⟨_, h3⟩)]
        exact ⟨L', rfl, hs, hn, hn'⟩
      | none =>
        rw [h3] at h
        dsimp only at h
        cases h4 : ab_heap tb sp ins lk st w with
        | some q =>
          rw [h4] at h
          cases h
          rw [h2' (Or.inr (Or.inl ⟨_, h4⟩))]
          exact ⟨L', rfl, hs, hn, hn'⟩
        | none =>
          rw [h4] at h
          dsimp only at h
          cases h5 : ab_call1 tb cf M ins lk L st w cn sn with
          | some q =>
            rw [h5] at h
            cases h
            rw [h2' (Or.inr (Or.inr (Or.inl ⟨_, h5⟩)))]
            dsimp only
            rw [call1_locs hM h5]
            exact ⟨L', rfl, hs, hn, hn'⟩
          | none =>
            rw [h5] at h
            dsimp only at h
            cases h6 : ab_ret M.2.2.2.1 ins st with
            | some v =>
              rw [h6] at h
              cases h
              rw [h2' (Or.inr (Or.inr (Or.inr ⟨_, h6⟩)))]
              dsimp only
              have h5' : ab_call1 tb cf M ins lk L' st w cn sn = none := by cases ins <;> first | rfl | (cases h6; done)
              rw [h5']
              rfl
            | none =>
              rw [h6, new_locs hM] at h
              cases h
theorem run_locs (hM : M.2.2.2.2.1 = 0) {r : ab_R} : ∀ (n : Nat) {pc : Nat} {L L' : ab_Lo} {st : List Value} {w : ab_W} {cn sn : Nat}, SubL L L' → ndL L = true → ndL L' = true → ab_run tb cf sp M n (pc, L, st, w, cn, sn) = some r → ab_run tb cf sp M n (pc, L', st, w, cn, sn) = some r
  | 0, _, _, _, _, _, _, _, _, _, _, h => by cases h
  | n + 1, pc, L, L', st, w, cn, sn, hs, hn, hn', h => by
    unfold ab_run at h ⊢
    unfold ab_step at h ⊢
    dsimp only at h ⊢
    cases hf : ab_fetch M.2.2.2.2.2.2.2 pc with
    | none => rw [hf] at h; cases h
    | some x =>
      rw [hf] at h
      dsimp only at h ⊢
      cases he : ab_exec tb cf sp M x.1 x.2 pc L st w cn sn with
      | none => rw [he] at h; cases h
      | some y =>
        rw [he] at h
        have k := exec_locs hM hs hn hn' he
        cases y with
        | inl σ =>
          obtain ⟨L1', e, s1, s2, s3⟩ := k
          rw [e]
          dsimp only at h ⊢
          exact run_locs hM n (pc := σ.1) (L := σ.2.1) (st := σ.2.2.1) (w := σ.2.2.2.1) (cn := σ.2.2.2.2.1) (sn := σ.2.2.2.2.2) s1 s2 s3 h
        | inr r0 =>
          have k' : ab_exec tb cf sp M x.1 x.2 pc L' st w cn sn = some (.inr r0) := k
          rw [k']
          exact h
end LM
theorem ER_loc {d pc : Nat} {M : ab_M} (L : ab_Lo) {L' : ab_Lo} {st : List Value} {w : ab_W} {P : ab_R → Prop} (hM : M.2.2.2.2.1 = 0) (hs : ∀ q ∈ L, ab_get L' q.1 = some q.2) (hn : ndL L = true) (hn' : ndL L' = true) (k : ER d M pc L st w P) : ER d M pc L' st w P := by
  obtain ⟨r, ⟨N, h1⟩, h2⟩ := k
  exact ⟨r, ⟨N, run_locs hM N (SubL.of hs) hn hn' h1⟩, h2⟩
theorem er_sw (v : Int32) {d pc pc' lk : Nat} {M : ab_M} {L : ab_Lo} {st : List Value} {w : ab_W} {P : ab_R → Prop} {x : Int32} {ins : Instr} (hf : ab_fetch M.2.2.2.2.2.2.2 pc = some (ins, lk)) (h : ab_br ins pc lk (.int v :: st) = some (pc', st)) (k1 : x = v → ER d M pc' L st w P) (k2 : ¬ x = v → ER d M pc L (.int x :: st) w P) : ER d M pc L (.int x :: st) w P := by
  by_cases hx : x = v
  · exact er_swT v hf hx h (k1 hx)
  · exact k2 hx
