/-! THE ABSTRACT MACHINE: fewer rows outside, more fuel, more depth; runs, step by step -/
section EV
variable {tb : ab_TB} {M : ab_M} {L L' : ab_Lo} {st st' rest : List Value} {w w' : ab_W} {cn sn : Nat} {cf cf' : ab_Cf} {sp sp0 : List (List Int32)}
theorem ev_inv_mono (hm : ∀ j As w r, cf j As w = some r → cf' j As w = some r) {j : Nat} {As : List Value} {q : List Value × ab_W × Nat × Nat} (h : ab_inv tb cf M j As L rest w cn sn = some q) : ab_inv tb cf' M j As L rest w cn sn = some q := by
  unfold ab_inv at h ⊢
  split at h
  · cases h
  · rename_i Mj hj
    try rw [hj]
    try dsimp only
    cases hb : (ab_room rest && Nat.ble (cn + Mj.2.2.2.2.1) M.2.2.2.2.1 && Nat.ble (sn + Mj.2.2.2.2.2.1) M.2.2.2.2.2.1 && (Nat.beq Mj.2.2.2.2.1 0 || (ab_okL w.length L && rest.all (ab_okv w.length)))) with
    | false => rw [hb] at h; cases h
    | true =>
      rw [hb] at h
      simp only [cond_true] at h ⊢
      split at h
      · rename_i r hr
        rw [hm _ _ _ _ hr]
        exact h
      · cases h
theorem ev_go_mono (hm : ∀ j As w r, cf j As w = some r → cf' j As w = some r) {lk : Nat} {q : List Value × ab_W × Nat × Nat} (h : ab_go tb cf M lk L st w cn sn = some q) : ab_go tb cf' M lk L st w cn sn = some q := by
  have hst : ∀ {g : ab_G}, ab_stat tb cf M g L st w cn sn = some q → ab_stat tb cf' M g L st w cn sn = some q := by
    intro g hi
    unfold ab_stat at hi ⊢
    split at hi
    · rename_i q0 qs hq
      cases hb : Nat.beq (st.take g.2.2.2.2.1).length g.2.2.2.2.1 with
      | false => rw [hb] at hi; cases hi
      | true => rw [hb] at hi; exact ev_inv_mono hm hi
    · cases hi
  have hin : ∀ {g : ab_G}, ab_inst tb cf M g L st w cn sn = some q → ab_inst tb cf' M g L st w cn sn = some q := by
    intro g hi
    unfold ab_inst at hi ⊢
    split at hi
    · rename_i r rest hst
      try rw [hst]
      try dsimp only
      split at hi
      · rename_i o ho
        try rw [ho]
        try dsimp only
        split at hi
        · rename_i q0 hq0
          try rw [hq0]
          try dsimp only
          cases hb : Nat.beq (st.take g.2.2.2.2.1).length g.2.2.2.2.1 with
          | false => rw [hb] at hi; cases hi
          | true => rw [hb] at hi; exact ev_inv_mono hm hi
        · cases hi
      · cases hi
    · cases hi
  have hsi : ∀ {g : ab_G}, ab_sinst tb cf M g L st w cn sn = some q → ab_sinst tb cf' M g L st w cn sn = some q := by
    intro g hi
    unfold ab_sinst at hi ⊢
    split at hi
    · rename_i r rest hst
      try rw [hst]
      try dsimp only
      split at hi
      · rename_i q0 l0 hq0
        try rw [hq0]
        try dsimp only
        cases hb : (ab_isS r && Nat.beq (st.take g.2.2.2.2.1).length g.2.2.2.2.1) with
        | false => rw [hb] at hi; cases hi
        | true => rw [hb] at hi; exact ev_inv_mono hm hi
      · cases hi
    · cases hi
  unfold ab_go at h ⊢
  split at h
  · cases h
  · rename_i g hg
    try rw [hg]
    try dsimp only
    split at h <;> first | exact hst h | exact hsi h | exact hin h | exact h
theorem ev_call1_mono (hm : ∀ j As w r, cf j As w = some r → cf' j As w = some r) {ins : Instr} {lk : Nat} {q : List Value × ab_W × Nat × Nat} (h : ab_call1 tb cf M ins lk L st w cn sn = some q) : ab_call1 tb cf' M ins lk L st w cn sn = some q := by
  cases ins <;> first | exact ev_go_mono hm h | cases h
/-- an instruction is of one sort -/
theorem ev_sorts {ins : Instr} : ((∀ L st w cn sn lk, ab_call1 tb cf M ins lk L st w cn sn = none) ∧ (∀ L st w cn sn lk, ab_call1 tb cf' M ins lk L st w cn sn = none)) ∨ ((∀ r st, ab_ret r ins st = none) ∧ ∀ lk L st w cn sn, ab_new tb M ins lk L st w cn sn = none) := by
  cases ins <;> first | (exact Or.inl ⟨fun _ _ _ _ _ _ => rfl, fun _ _ _ _ _ _ => rfl⟩) | (exact Or.inr ⟨fun _ _ => rfl, fun _ _ _ _ _ _ => rfl⟩)
theorem ev_exec_mono (hm : ∀ j As w r, cf j As w = some r → cf' j As w = some r) {ins : Instr} {lk pc : Nat} {x : ab_St ⊕ ab_R} (h : ab_exec tb cf sp M ins lk pc L st w cn sn = some x) : ab_exec tb cf' sp M ins lk pc L st w cn sn = some x := by
  unfold ab_exec at h ⊢
  cases h1 : ab_pure ins st with
  | some _ => rw [h1] at h; exact h
  | none =>
    rw [h1] at h
    dsimp only at h ⊢
    cases h2 : ab_loc M.2.2.1 ins L st with
    | some _ => rw [h2] at h; exact h
    | none =>
      rw [h2] at h
      dsimp only at h ⊢
      cases h3 : ab_br ins pc lk st with
      | some _ => rw [h3] at h; exact h
      | none =>
        rw [h3] at h
        dsimp only at h ⊢
        cases h4 : ab_heap tb sp ins lk st w with
        | some _ => rw [h4] at h; exact h
        | none =>
          rw [h4] at h
          dsimp only at h ⊢
          cases h5 : ab_call1 tb cf M ins lk L st w cn sn with
          | some q =>
            rw [h5] at h
            rw [ev_call1_mono hm h5]
            exact h
          | none =>
            rw [h5] at h
            rcases ev_sorts (tb := tb) (M := M) (cf := cf) (cf' := cf') (ins := ins) with ⟨-, k2⟩ | ⟨k1, k2⟩
            · rw [k2]; exact h
            · rw [k1, k2] at h; cases h
theorem ev_run_mono (hm : ∀ j As w r, cf j As w = some r → cf' j As w = some r) {r : ab_R} : ∀ (n n' : Nat) (σ : ab_St), n ≤ n' → ab_run tb cf sp M n σ = some r → ab_run tb cf' sp M n' σ = some r
  | 0, _, _, _, h => by cases h
  | n + 1, 0, _, hn, _ => by omega
  | n + 1, n' + 1, σ, hn, h => by
    unfold ab_run at h ⊢
    cases hs : ab_step tb cf sp M σ with
    | none => rw [hs] at h; cases h
    | some x =>
      rw [hs] at h
      have hs' : ab_step tb cf' sp M σ = some x := by
        unfold ab_step at hs ⊢
        split at hs
        · cases hs
        · rename_i y hy
          try rw [hy]
          exact ev_exec_mono hm hs
      rw [hs']
      cases x with
      | inl σ' => exact ev_run_mono hm n n' σ' (by omega) h
      | inr r0 => exact h
theorem ev_call_mono {n n' : Nat} (hn : n ≤ n') : ∀ (d d' : Nat), d ≤ d' → ∀ j As w r, ab_call tb sp n d j As w = some r → ab_call tb sp n' d' j As w = some r
  | 0, _, _, _, _, _, _, h => by cases h
  | d + 1, 0, hd, _, _, _, _, _ => by omega
  | d + 1, d' + 1, hd, j, As, w, r, h => by
    unfold ab_call at h ⊢
    split at h
    · cases h
    · rename_i M hM
      try rw [hM]
      try dsimp only
      cases hb : Nat.ble ((As.map fun v => v.category).sum) M.2.2.1 with
      | false => rw [hb] at h; cases h
      | true =>
        rw [hb] at h
        exact ev_run_mono (fun j As w r => ev_call_mono hn d d' (by omega) j As w r) n n' _ hn h
/-- from some fuel on, a frame comes to its end -/
def ev_Run (tb : ab_TB) (sp0 sp : List (List Int32)) (d : Nat) (M : ab_M) (σ : ab_St) (r : ab_R) : Prop := ∃ N, ab_run tb (ab_call tb sp0 N d) sp M N σ = some r
def ev_Call (tb : ab_TB) (sp0 : List (List Int32)) (d j : Nat) (As : List Value) (w : ab_W) (r : ab_R) : Prop := ∃ N, ab_call tb sp0 N d j As w = some r
theorem ev_more {d N N' : Nat} {σ : ab_St} {r : ab_R} (hn : N ≤ N') (h : ab_run tb (ab_call tb sp0 N d) sp M N σ = some r) : ab_run tb (ab_call tb sp0 N' d) sp M N' σ = some r :=
  ev_run_mono (fun j As w r => ev_call_mono hn d d (Nat.le_refl _) j As w r) N N' σ hn h
theorem ev_step {d : Nat} {σ σ' : ab_St} {r : ab_R} (h : ∀ cf : ab_Cf, ab_step tb cf sp M σ = some (.inl σ')) (k : ev_Run tb sp0 sp d M σ' r) : ev_Run tb sp0 sp d M σ r := by
  obtain ⟨N, hN⟩ := k
  refine ⟨N + 1, ?_⟩
  unfold ab_run
  rw [h]
  exact ev_run_mono (fun j As w r => ev_call_mono (Nat.le_succ N) d d (Nat.le_refl _) j As w r) N N σ' (Nat.le_refl _) hN
variable {d pc lk : Nat} {ins : Instr} {r : ab_R}
theorem ev_pure (hf : ab_fetch M.2.2.2.2.2.2.2 pc = some (ins, lk)) (h : ab_pure ins st = some st') (k : ev_Run tb sp0 sp d M (pc + ab_len ins, L, st', w, cn, sn) r) : ev_Run tb sp0 sp d M (pc, L, st, w, cn, sn) r :=
  ev_step (fun cf => by unfold ab_step; dsimp only; rw [hf]; dsimp only; unfold ab_exec; rw [h]) k
theorem ev_loc (hf : ab_fetch M.2.2.2.2.2.2.2 pc = some (ins, lk)) (h : ab_loc M.2.2.1 ins L st = some (L', st')) (k : ev_Run tb sp0 sp d M (pc + ab_len ins, L', st', w, cn, sn) r) : ev_Run tb sp0 sp d M (pc, L, st, w, cn, sn) r := by
  have h1 : ab_pure ins st = none := by cases ins <;> first | rfl | cases h
  exact ev_step (fun cf => by unfold ab_step; dsimp only; rw [hf]; dsimp only; unfold ab_exec; rw [h1]; dsimp only; rw [h]) k
theorem ev_br {pc' : Nat} (hf : ab_fetch M.2.2.2.2.2.2.2 pc = some (ins, lk)) (h : ab_br ins pc lk st = some (pc', st')) (k : ev_Run tb sp0 sp d M (pc', L, st', w, cn, sn) r) : ev_Run tb sp0 sp d M (pc, L, st, w, cn, sn) r := by
  have h1 : ab_pure ins st = none := by cases ins <;> first | rfl | cases h
  have h2 : ab_loc M.2.2.1 ins L st = none := by cases ins <;> first | rfl | cases h
  exact ev_step (fun cf => by unfold ab_step; dsimp only; rw [hf]; dsimp only; unfold ab_exec; rw [h1]; dsimp only; rw [h2]; dsimp only; rw [h]) k
theorem ev_goto {off : Int} (hf : ab_fetch M.2.2.2.2.2.2.2 pc = some (.goto off, lk)) (k : ev_Run tb sp0 sp d M (lk, L, st, w, cn, sn) r) : ev_Run tb sp0 sp d M (pc, L, st, w, cn, sn) r := ev_br hf rfl k
theorem ev_ifT {c : ClassFile.Cond} {off : Int} {x : Int32} (hf : ab_fetch M.2.2.2.2.2.2.2 pc = some (.ifCond c off, lk)) (h : ab_c1 c x = true) (k : ev_Run tb sp0 sp d M (lk, L, st, w, cn, sn) r) : ev_Run tb sp0 sp d M (pc, L, .int x :: st, w, cn, sn) r := ev_br hf (by show some (cond (ab_c1 c x) lk (pc + 3), st) = _; rw [h]; rfl) k
theorem ev_ifF {c : ClassFile.Cond} {off : Int} {x : Int32} (hf : ab_fetch M.2.2.2.2.2.2.2 pc = some (.ifCond c off, lk)) (h : ab_c1 c x = false) (k : ev_Run tb sp0 sp d M (pc + 3, L, st, w, cn, sn) r) : ev_Run tb sp0 sp d M (pc, L, .int x :: st, w, cn, sn) r := ev_br hf (by show some (cond (ab_c1 c x) lk (pc + 3), st) = _; rw [h]; rfl) k
theorem ev_cmT {c : ClassFile.Cond} {off : Int} {x y : Int32} (hf : ab_fetch M.2.2.2.2.2.2.2 pc = some (.if_icmp c off, lk)) (h : ab_c2 c x y = true) (k : ev_Run tb sp0 sp d M (lk, L, st, w, cn, sn) r) : ev_Run tb sp0 sp d M (pc, L, .int y :: .int x :: st, w, cn, sn) r := ev_br hf (by show some (cond (ab_c2 c x y) lk (pc + 3), st) = _; rw [h]; rfl) k
theorem ev_cmF {c : ClassFile.Cond} {off : Int} {x y : Int32} (hf : ab_fetch M.2.2.2.2.2.2.2 pc = some (.if_icmp c off, lk)) (h : ab_c2 c x y = false) (k : ev_Run tb sp0 sp d M (pc + 3, L, st, w, cn, sn) r) : ev_Run tb sp0 sp d M (pc, L, .int y :: .int x :: st, w, cn, sn) r := ev_br hf (by show some (cond (ab_c2 c x y) lk (pc + 3), st) = _; rw [h]; rfl) k
theorem ev_heap (hf : ab_fetch M.2.2.2.2.2.2.2 pc = some (ins, lk)) (h : ab_heap tb sp ins lk st w = some (st', w')) (k : ev_Run tb sp0 sp d M (pc + ab_len ins, L, st', w', cn, sn) r) : ev_Run tb sp0 sp d M (pc, L, st, w, cn, sn) r := by
  have h1 : ab_pure ins st = none := by cases ins <;> first | rfl | cases h
  have h2 : ab_loc M.2.2.1 ins L st = none := by cases ins <;> first | rfl | cases h
  have h3 : ab_br ins pc lk st = none := by cases ins <;> first | rfl | cases h
  exact ev_step (fun cf => by unfold ab_step; dsimp only; rw [hf]; dsimp only; unfold ab_exec; rw [h1]; dsimp only; rw [h2]; dsimp only; rw [h3]; dsimp only; rw [h]) k
theorem ev_bi {q : List Value × ab_W × Nat × Nat} (hf : ab_fetch M.2.2.2.2.2.2.2 pc = some (ins, lk)) (h : ∀ cf : ab_Cf, ab_call1 tb cf M ins lk L st w cn sn = some q) (k : ev_Run tb sp0 sp d M (pc + 3, L, q.1, q.2.1, q.2.2.1, q.2.2.2) r) : ev_Run tb sp0 sp d M (pc, L, st, w, cn, sn) r := by
  have h0 := h (fun _ _ _ => none)
  have h1 : ab_pure ins st = none := by cases ins <;> first | rfl | cases h0
  have h2 : ab_loc M.2.2.1 ins L st = none := by cases ins <;> first | rfl | cases h0
  have h3 : ab_br ins pc lk st = none := by cases ins <;> first | rfl | cases h0
  have h4 : ab_heap tb sp ins lk st w = none := by cases ins <;> first | rfl | cases h0
  exact ev_step (fun cf => by unfold ab_step; dsimp only; rw [hf]; dsimp only; unfold ab_exec; rw [h1]; dsimp only; rw [h2]; dsimp only; rw [h3]; dsimp only; rw [h4]; dsimp only; rw [h]) k
theorem ev_new {q : List Value × ab_W × Nat × Nat} (hf : ab_fetch M.2.2.2.2.2.2.2 pc = some (ins, lk)) (h : ab_new tb M ins lk L st w cn sn = some q) (k : ev_Run tb sp0 sp d M (pc + ab_len ins, L, q.1, q.2.1, q.2.2.1, q.2.2.2) r) : ev_Run tb sp0 sp d M (pc, L, st, w, cn, sn) r := by
  have h1 : ab_pure ins st = none := by cases ins <;> first | rfl | cases h
  have h2 : ab_loc M.2.2.1 ins L st = none := by cases ins <;> first | rfl | cases h
  have h3 : ab_br ins pc lk st = none := by cases ins <;> first | rfl | cases h
  have h4 : ab_heap tb sp ins lk st w = none := by cases ins <;> first | rfl | cases h
  have h5 : ∀ cf : ab_Cf, ab_call1 tb cf M ins lk L st w cn sn = none := by intro cf; cases ins <;> first | rfl | cases h
  have h6 : ab_ret M.2.2.2.1 ins st = none := by cases ins <;> first | rfl | cases h
  exact ev_step (fun cf => by unfold ab_step; dsimp only; rw [hf]; dsimp only; unfold ab_exec; rw [h1]; dsimp only; rw [h2]; dsimp only; rw [h3]; dsimp only; rw [h4]; dsimp only; rw [h5]; dsimp only; rw [h6]; dsimp only; rw [h]) k
theorem ev_ret {v : Option Value} (hf : ab_fetch M.2.2.2.2.2.2.2 pc = some (ins, lk)) (h : ab_ret M.2.2.2.1 ins st = some v) : ev_Run tb sp0 sp d M (pc, L, st, w, cn, sn) (v, w) := by
  have h1 : ab_pure ins st = none := by cases ins <;> first | rfl | cases h
  have h2 : ab_loc M.2.2.1 ins L st = none := by cases ins <;> first | rfl | cases h
  have h3 : ab_br ins pc lk st = none := by cases ins <;> first | rfl | cases h
  have h4 : ab_heap tb sp ins lk st w = none := by cases ins <;> first | rfl | cases h
  have h5 : ∀ cf : ab_Cf, ab_call1 tb cf M ins lk L st w cn sn = none := by intro cf; cases ins <;> first | rfl | cases h
  refine ⟨1, ?_⟩
  unfold ab_run ab_step
  dsimp only
  rw [hf]
  dsimp only
  unfold ab_exec
  rw [h1]; dsimp only; rw [h2]; dsimp only; rw [h3]; dsimp only; rw [h4]; dsimp only; rw [h5]; dsimp only; rw [h]
/-- a call that an instruction asks for: method, arguments, what stays -/
def ab_req (tb : ab_TB) (M : ab_M) (ins : Instr) (lk : Nat) (L : ab_Lo) (st : List Value) (w : ab_W) (cn sn : Nat) : Option (Nat × List Value × List Value × Nat × Nat) := match ab_call1 tb (fun j As _ => some (some (.ref j), [.inl (0, As)])) M ins lk L st w cn sn with
  | some (.ref j :: rest, [.inl (_, As)], cn', sn') => some (j, As, rest, cn', sn')
  | _ => none
theorem ev_inv_req {j : Nat} {As : List Value} {r1 : ab_R} {Mj : ab_M} (hj : ab_nth tb.2.2.2.2.1 j = some Mj) (h : ab_inv tb (fun j As _ => some (some (.ref j), [.inl (0, As)])) M j As L rest w cn sn ≠ none) (hc : cf j As w = some r1) : ab_inv tb cf M j As L rest w cn sn = some (r1.1.toList ++ rest, r1.2, cn + Mj.2.2.2.2.1, sn + Mj.2.2.2.2.2.1) := by
  unfold ab_inv at h ⊢
  rw [hj] at h ⊢
  dsimp only at h ⊢
  cases hb : (ab_room rest && Nat.ble (cn + Mj.2.2.2.2.1) M.2.2.2.2.1 && Nat.ble (sn + Mj.2.2.2.2.2.1) M.2.2.2.2.2.1 && (Nat.beq Mj.2.2.2.2.1 0 || (ab_okL w.length L && rest.all (ab_okv w.length)))) with
  | false => rw [hb] at h; exact absurd rfl h
  | true => simp only [cond_true]; rw [hc]
/-- a call, its callee known -/
theorem ev_call {j cn' sn' : Nat} {As rest : List Value} {r1 : ab_R} (hf : ab_fetch M.2.2.2.2.2.2.2 pc = some (ins, lk)) (hq : ∀ cf : ab_Cf, ab_call1 tb cf M ins lk L st w cn sn = match cf j As w with
    | some r => some (r.1.toList ++ rest, r.2, cn', sn')
    | none => none) (hc : ev_Call tb sp0 d j As w r1) (k : ev_Run tb sp0 sp d M (pc + 3, L, r1.1.toList ++ rest, r1.2, cn', sn') r) : ev_Run tb sp0 sp d M (pc, L, st, w, cn, sn) r := by
  obtain ⟨N1, h1⟩ := hc
  obtain ⟨N2, h2⟩ := k
  have e : ab_call1 tb (ab_call tb sp0 (N1 + N2 + 1) d) M ins lk L st w cn sn = some (r1.1.toList ++ rest, r1.2, cn', sn') := by
    rw [hq, ev_call_mono (show N1 ≤ N1 + N2 + 1 by omega) d d (Nat.le_refl _) _ _ _ _ h1]
  have p1 : ab_pure ins st = none := by cases ins <;> first | rfl | cases e
  have p2 : ab_loc M.2.2.1 ins L st = none := by cases ins <;> first | rfl | cases e
  have p3 : ab_br ins pc lk st = none := by cases ins <;> first | rfl | cases e
  have p4 : ab_heap tb sp ins lk st w = none := by cases ins <;> first | rfl | cases e
  refine ⟨N1 + N2 + 1, ?_⟩
  unfold ab_run ab_step
  dsimp only
  rw [hf]
  dsimp only
  unfold ab_exec
  rw [p1]; dsimp only; rw [p2]; dsimp only; rw [p3]; dsimp only; rw [p4]; dsimp only; rw [e]; dsimp only
  exact ev_run_mono (fun j As w r => ev_call_mono (by omega) d d (Nat.le_refl _) j As w r) N2 (N1 + N2) _ (by omega) h2
theorem ev_enter {j : Nat} {As : List Value} {Mj : ab_M} (hM : ab_nth tb.2.2.2.2.1 j = some Mj) (hs : Nat.ble ((As.map fun v => v.category).sum) Mj.2.2.1 = true) (k : ev_Run tb sp0 sp0 d Mj (0, lv_args 0 As, [], w, 0, 0) r) : ev_Call tb sp0 (d + 1) j As w r := by
  obtain ⟨N, h⟩ := k
  refine ⟨N, ?_⟩
  unfold ab_call
  rw [hM]
  dsimp only
  rw [hs]
  exact h
theorem ev_closed {n j : Nat} {As : List Value} (h : ab_call tb sp0 n d j As w = some r) {d' : Nat} (hd : d ≤ d') : ev_Call tb sp0 d' j As w r := ⟨n, ev_call_mono (Nat.le_refl _) d d' hd _ _ _ _ h⟩
theorem ev_up {j : Nat} {As : List Value} {d' : Nat} (hd : d ≤ d') (h : ev_Call tb sp0 d j As w r) : ev_Call tb sp0 d' j As w r := by
  obtain ⟨n, h⟩ := h
  exact ev_closed h hd
end EV
