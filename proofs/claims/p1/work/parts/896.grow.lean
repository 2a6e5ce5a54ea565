/-! a run keeps the class of every object, and makes no list shorter -/
section GR
def lx_gr (w w' : ab_W) : Prop := w.length ≤ w'.length ∧ ∀ (k c : Nat) (f : List Value), w[k]? = some (.inl (c, f)) → ∃ f' : List Value, w'[k]? = some (.inl (c, f'))
theorem lx_gr.rf {w : ab_W} : lx_gr w w := ⟨Nat.le_refl _, fun _ _ f h => ⟨f, h⟩⟩
theorem lx_gr.trans {w w' w'' : ab_W} (a : lx_gr w w') (b : lx_gr w' w'') : lx_gr w w'' := by
  refine ⟨Nat.le_trans a.1 b.1, fun k c f h => ?_⟩
  obtain ⟨f', h'⟩ := a.2 k c f h
  exact b.2 k c f' h'
theorem lx_gr_obj {w : ab_W} {r : Nat} {o : Nat × List Value} {f : List Value} (h : ab_cell w r = some (.inl o)) : lx_gr w (w.set r (.inl (o.1, f))) := by
  obtain ⟨h1, -⟩ := ab_cell_of h
  refine ⟨Nat.le_of_eq List.length_set.symm, fun k c f0 hk => ?_⟩
  by_cases e : r = k
  · subst e
    rw [h1] at hk
    cases hk
    exact ⟨f, List.getElem?_set_self (List.getElem?_eq_some_iff.mp h1).1⟩
  · exact ⟨f0, by rw [List.getElem?_set_ne e]; exact hk⟩
theorem lx_gr_arr {w : ab_W} {r : Nat} {x : List Int32 ⊕ (Nat × List (Option Nat))} {c0 : ab_C} (h : ab_cell w r = some (.inr x)) : lx_gr w (w.set r c0) := by
  obtain ⟨h1, -⟩ := ab_cell_of h
  refine ⟨Nat.le_of_eq List.length_set.symm, fun k c f0 hk => ?_⟩
  by_cases e : r = k
  · subst e
    rw [h1] at hk
    cases hk
  · exact ⟨f0, by rw [List.getElem?_set_ne e]; exact hk⟩
theorem lx_gr_app {w l : ab_W} : lx_gr w (w ++ l) := by
  refine ⟨by rw [List.length_append]; omega, fun k c f h => ⟨f, ?_⟩⟩
  rw [List.getElem?_append_left (List.getElem?_eq_some_iff.mp h).1]
  exact h
variable {tb : ab_TB} {M : ab_M} {L L' : ab_Lo} {st st' rest : List Value} {w w' : ab_W} {cn sn : Nat} {cf : ab_Cf} {sp sp0 : List (List Int32)}
theorem lx_gr_heap {ins : Instr} {lk : Nat} {q : List Value × ab_W} (h : ab_heap tb sp ins lk st w = some q) : lx_gr w q.2 := by
  unfold ab_heap at h
  simp only [Bool.cond_eq_ite] at h
  repeat' (split at h)
  all_goals first
    | (cases h; done)
    | (cases h; exact lx_gr.rf)
    | (cases h; exact lx_gr_obj (by assumption))
    | (cases h; exact lx_gr_arr (by assumption))
theorem lx_gr_new {ins : Instr} {lk : Nat} {q : List Value × ab_W × Nat × Nat} (h : ab_new tb M ins lk L st w cn sn = some q) : lx_gr w q.2.1 := by
  unfold ab_new at h
  simp only [Bool.cond_eq_ite] at h
  repeat' (split at h)
  all_goals first
    | (cases h; done)
    | (cases h; exact lx_gr_app)
theorem lx_gr_inv (hm : ∀ j As w r, cf j As w = some r → lx_gr w r.2) {j : Nat} {As : List Value} {q : List Value × ab_W × Nat × Nat} (h : ab_inv tb cf M j As L rest w cn sn = some q) : lx_gr w q.2.1 := by
  unfold ab_inv at h
  simp only [Bool.cond_eq_ite] at h
  repeat' (split at h)
  all_goals first
    | (cases h; done)
    | (cases h; exact hm _ _ _ _ (by assumption))
theorem lx_gr_go (hm : ∀ j As w r, cf j As w = some r → lx_gr w r.2) {lk : Nat} {q : List Value × ab_W × Nat × Nat} (h : ab_go tb cf M lk L st w cn sn = some q) : lx_gr w q.2.1 := by
  have hst : ∀ {g : ab_G}, ab_stat tb cf M g L st w cn sn = some q → lx_gr w q.2.1 := by
    intro g hi
    unfold ab_stat at hi
    simp only [Bool.cond_eq_ite] at hi
    repeat' (split at hi)
    all_goals first
      | (cases hi; done)
      | exact lx_gr_inv hm hi
  have hin : ∀ {g : ab_G}, ab_inst tb cf M g L st w cn sn = some q → lx_gr w q.2.1 := by
    intro g hi
    unfold ab_inst at hi
    simp only [Bool.cond_eq_ite] at hi
    repeat' (split at hi)
    all_goals first
      | (cases hi; done)
      | exact lx_gr_inv hm hi
  unfold ab_go at h
  simp only [Bool.cond_eq_ite] at h
  repeat' (split at h)
  all_goals first
    | exact hst h
    | exact hin h
    | (cases h; done)
    | (cases h; exact lx_gr.rf)
    | (cases h; exact lx_gr_arr (by assumption))
theorem lx_gr_call1 (hm : ∀ j As w r, cf j As w = some r → lx_gr w r.2) {ins : Instr} {lk : Nat} {q : List Value × ab_W × Nat × Nat} (h : ab_call1 tb cf M ins lk L st w cn sn = some q) : lx_gr w q.2.1 := by
  cases ins <;> first | exact lx_gr_go hm h | cases h
def lx_xw (x : ab_St ⊕ ab_R) : ab_W := match x with
  | .inl σ => σ.2.2.2.1
  | .inr r => r.2
theorem lx_gr_exec (hm : ∀ j As w r, cf j As w = some r → lx_gr w r.2) {ins : Instr} {lk pc : Nat} {x : ab_St ⊕ ab_R} (h : ab_exec tb cf sp M ins lk pc L st w cn sn = some x) : lx_gr w (lx_xw x) := by
  unfold ab_exec at h
  cases h1 : ab_pure ins st with
  | some _ => rw [h1] at h; cases h; exact lx_gr.rf
  | none =>
    rw [h1] at h
    dsimp only at h
    cases h2 : ab_loc M.2.2.1 ins L st with
    | some _ => rw [h2] at h; cases h; exact lx_gr.rf
    | none =>
      rw [h2] at h
      dsimp only at h
      cases h3 : ab_br ins pc lk st with
      | some _ => rw [h3] at h; cases h; exact lx_gr.rf
      | none =>
        rw [h3] at h
        dsimp only at h
        cases h4 : ab_heap tb sp ins lk st w with
        | some q => rw [h4] at h; cases h; exact lx_gr_heap h4
        | none =>
          rw [h4] at h
          dsimp only at h
          cases h5 : ab_call1 tb cf M ins lk L st w cn sn with
          | some q => rw [h5] at h; cases h; exact lx_gr_call1 hm h5
          | none =>
            rw [h5] at h
            dsimp only at h
            cases h6 : ab_ret M.2.2.2.1 ins st with
            | some _ => rw [h6] at h; cases h; exact lx_gr.rf
            | none =>
              rw [h6] at h
              dsimp only at h
              cases h7 : ab_new tb M ins lk L st w cn sn with
              | some q => rw [h7] at h; cases h; exact lx_gr_new h7
              | none => rw [h7] at h; cases h
theorem lx_gr_run (hm : ∀ j As w r, cf j As w = some r → lx_gr w r.2) {r : ab_R} : ∀ (n : Nat) (σ : ab_St), ab_run tb cf sp M n σ = some r → lx_gr σ.2.2.2.1 r.2
  | 0, _, h => by cases h
  | n + 1, σ, h => by
    unfold ab_run at h
    cases hs : ab_step tb cf sp M σ with
    | none => rw [hs] at h; cases h
    | some x =>
      rw [hs] at h
      have g : lx_gr σ.2.2.2.1 (lx_xw x) := by
        unfold ab_step at hs
        split at hs
        · cases hs
        · exact lx_gr_exec hm hs
      cases x with
      | inl σ' => exact g.trans (lx_gr_run hm n σ' h)
      | inr r0 => cases h; exact g
theorem lx_gr_call {n : Nat} : ∀ (d : Nat) (j : Nat) (As : List Value) (w : ab_W) (r : ab_R), ab_call tb sp n d j As w = some r → lx_gr w r.2
  | 0, _, _, _, _, h => by cases h
  | d + 1, j, As, w, r, h => by
    unfold ab_call at h
    split at h
    · cases h
    · rename_i M hM
      cases hb : Nat.ble ((As.map fun v => v.category).sum) M.2.2.1 with
      | false => rw [hb] at h; cases h
      | true =>
        rw [hb] at h
        exact lx_gr_run (fun j As w r => lx_gr_call d j As w r) n _ h
theorem lx_gr_Call {d j : Nat} {As : List Value} {r : ab_R} (h : ev_Call tb sp0 d j As w r) : lx_gr w r.2 := by
  obtain ⟨N, h⟩ := h
  exact lx_gr_call d j As w r h
end GR
/-- what a world still holds after a call on the class -/
theorem lx_keeps {d j : Nat} {As : List Value} {v : Option Value} {w1 : ab_W} (h : ev_Call tb [lx_above] d j As lx_w2 (v, w1)) : ∃ f : List Value, w1[63]? = some (.inl (12, f)) ∧ 79 ≤ w1.length := by
  have g := lx_gr_Call h
  obtain ⟨f, hf⟩ := g.2 63 12 _ (show lx_w2[63]? = some (.inl (12, _)) from rfl)
  exact ⟨f, hf, g.1⟩
theorem lx_okv {n n' : Nat} (hn : n ≤ n') : ∀ {v : Value}, ab_okv n v = true → ab_okv n' v = true := by
  intro v h
  unfold ab_okv at h ⊢
  split at h
  · rename_i k
    rcases Bool.or_eq_true_iff.mp h with q | q
    · have := Nat.le_of_ble_eq_true q
      exact Bool.or_eq_true_iff.mpr (Or.inl (Nat.ble_eq_true_of_le (by omega)))
    · exact Bool.or_eq_true_iff.mpr (Or.inr q)
  · rfl
theorem lx_okL {n n' : Nat} (hn : n ≤ n') {L : ab_Lo} (h : ab_okL n L = true) : ab_okL n' L = true := by
  unfold ab_okL at h ⊢
  rw [List.all_eq_true] at h ⊢
  exact fun q hq => lx_okv hn (h q hq)
theorem lx_okS {n n' : Nat} (hn : n ≤ n') {L : List Value} (h : L.all (ab_okv n) = true) : L.all (ab_okv n') = true := by
  rw [List.all_eq_true] at h ⊢
  exact fun q hq => lx_okv hn (h q hq)
section GA
variable {tb : ab_TB} {M : ab_M} {L : ab_Lo} {st rest : List Value} {w w' : ab_W} {cn sn : Nat}
theorem lx_ask_inv (g : lx_gr w w') {j : Nat} {As : List Value} {x : ab_A} (h : ask_inv tb M j As L rest w cn sn = some x) : ask_inv tb M j As L rest w' cn sn = some x := by
  unfold ask_inv at h ⊢
  cases hj : ab_nth tb.2.2.2.2.1 j with
  | none => rw [hj] at h; cases h
  | some Mj =>
    rw [hj] at h
    dsimp only at h ⊢
    cases b1 : ab_room rest with
    | false => rw [b1] at h; cases h
    | true =>
      rw [b1] at h
      cases b2 : Nat.ble (cn + Mj.2.2.2.2.1) M.2.2.2.2.1 with
      | false => rw [b2] at h; cases h
      | true =>
        rw [b2] at h
        cases b3 : Nat.ble (sn + Mj.2.2.2.2.2.1) M.2.2.2.2.2.1 with
        | false => rw [b3] at h; cases h
        | true =>
          rw [b3] at h
          cases b4 : Nat.beq Mj.2.2.2.2.1 0 with
          | true => rw [b4] at h; exact h
          | false =>
            rw [b4] at h
            cases b5 : ab_okL w.length L with
            | false => rw [b5] at h; cases h
            | true =>
              rw [b5] at h
              cases b6 : rest.all (ab_okv w.length) with
              | false => rw [b6] at h; cases h
              | true =>
                rw [b6] at h
                rw [lx_okL g.1 b5, lx_okS g.1 b6]
                exact h
theorem lx_ask_stat (g : lx_gr w w') {q : ab_G} {x : ab_A} (h : ask_stat tb M q L st w cn sn = some x) : ask_stat tb M q L st w' cn sn = some x := by
  unfold ask_stat at h ⊢
  cases hg : q.2.2.2.2.2.2 with
  | nil => rw [hg] at h; cases h
  | cons q0 l =>
    rw [hg] at h
    dsimp only at h ⊢
    cases hb : Nat.beq (st.take q.2.2.2.2.1).length q.2.2.2.2.1 with
    | false => rw [hb] at h; cases h
    | true => rw [hb] at h; exact lx_ask_inv g h
theorem lx_ask_inst (g : lx_gr w w') {q : ab_G} {x : ab_A} (h : ask_inst tb M q L st w cn sn = some x) : ask_inst tb M q L st w' cn sn = some x := by
  unfold ask_inst at h ⊢
  generalize st.drop q.2.2.2.2.1 = z at h ⊢
  match z, h with
  | .ref r :: rest, h =>
    dsimp only at h ⊢
    cases hc : ab_cell w r with
    | none => rw [hc] at h; cases h
    | some c =>
      rw [hc] at h
      match c, h, hc with
      | .inl (o1, o2), h, hc =>
        obtain ⟨h1, h2⟩ := ab_cell_of hc
        obtain ⟨f', hf⟩ := g.2 r o1 o2 h1
        have hc' : ab_cell w' r = some (.inl (o1, f')) := by
          unfold ab_cell
          rw [h2, ab_nth_eq]
          exact hf
        rw [hc']
        dsimp only at h ⊢
        cases hl : ab_look q.2.2.2.2.2.2 o1 with
        | none => rw [hl] at h; cases h
        | some q0 =>
          rw [hl] at h
          dsimp only at h ⊢
          cases hb : Nat.beq (st.take q.2.2.2.2.1).length q.2.2.2.2.1 with
          | false => rw [hb] at h; cases h
          | true => rw [hb] at h; exact lx_ask_inv g h
theorem lx_ask_go (g : lx_gr w w') {lk : Nat} {x : ab_A} (h : ask_go tb M lk L st w cn sn = some x) : ask_go tb M lk L st w' cn sn = some x := by
  unfold ask_go at h ⊢
  cases hg : ab_nth tb.2.1 lk with
  | none => rw [hg] at h; cases h
  | some q =>
    rw [hg] at h
    dsimp only at h ⊢
    generalize q.2.2.1 = kd at h ⊢
    split at h <;> first | exact lx_ask_stat g h | exact lx_ask_inst g h | (cases h; done)
/-- a call asked for in a world is asked for in a later one -/
theorem lx_ask (g : lx_gr w w') {ins : Instr} {lk : Nat} {x : ab_A} (h : ask tb M ins lk L st w cn sn = some x) : ask tb M ins lk L st w' cn sn = some x := by
  cases ins <;> first | exact lx_ask_go g h | cases h
end GA
