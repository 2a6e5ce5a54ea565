/-! THE ABSTRACT MACHINE IS SOUND: a step, a run, a method -/
theorem ab_heap_len {tb : ab_TB} {sp : List (List Int32)} {ins : Instr} {lk : Nat} {st : List Value} {w : ab_W} {q : List Value × ab_W} (h : ab_heap tb sp ins lk st w = some q) : q.2.length = w.length := by
  cases ins <;> simp only [ab_heap, Bool.cond_eq_ite] at h
  all_goals first | (cases h; done) | skip
  all_goals (repeat' split at h)
  all_goals first | (cases h; done) | (cases h; rfl) | (cases h; simp)
section ABR
variable {p : Program} {l : Launch} {e : Env} {R : Room} {s : State} {m : MethodId} {args : Array Value} {below : List Frame} {meth : Method} {c : Code} {Q : State → Prop}
variable {d : Nat} {sd : Nat → Nat} {tb : ab_TB} {ts : List (List Cond)} {M : ab_M} {D : va_G} {cT : Nat → ClassId} {A : Nat → Prop} {sp : List (List Int32)} {cf : ab_Cf}
/-- what holds at the end of a run -/
def ab_End (tb : ab_TB) (ts : List (List Cond)) (s : State) (M : ab_M) (D : va_G) (cT : Nat → ClassId) (A : Nat → Prop) (sd : Nat → Nat) (v : Option Value) (w' : ab_W) (ad' : Nat → Nat) (H : Heap) (locs : List Loc) (cells slots pc lk : Nat) (ins : Instr) (st : List Value) : Prop :=
  ab_P tb s D cT A ad' sd w' H locs ∧ ab_ret M.2.2.2.1 ins st = some v ∧ ab_E tb ts M pc ins lk ∧ cells ≤ M.2.2.2.2.1 ∧ slots ≤ M.2.2.2.2.2.1
theorem ab_go_cells {lk : Nat} {L : ab_Lo} {st : List Value} {w : ab_W} {cn sn : Nat} {q : List Value × ab_W × Nat × Nat} (h : ab_go tb cf M lk L st w cn sn = some q) (hc : cn ≤ M.2.2.2.2.1) (hs : sn ≤ M.2.2.2.2.2.1) : q.2.2.1 ≤ M.2.2.2.2.1 ∧ q.2.2.2 ≤ M.2.2.2.2.2.1 := by
  have hinv : ∀ {j : Nat} {As rest : List Value}, ab_inv tb cf M j As L rest w cn sn = some q → q.2.2.1 ≤ M.2.2.2.2.1 ∧ q.2.2.2 ≤ M.2.2.2.2.2.1 := by
    intro j As rest hi
    obtain ⟨Mj, r, -, -, rfl, -, h2, h3, -⟩ := ab_inv_of hi
    exact ⟨h2, h3⟩
  have hst : ∀ {g : ab_G}, ab_stat tb cf M g L st w cn sn = some q → q.2.2.1 ≤ M.2.2.2.2.1 ∧ q.2.2.2 ≤ M.2.2.2.2.2.1 := by
    intro g hi
    unfold ab_stat at hi
    split at hi
    · rename_i q0 qs hq
      cases hb : Nat.beq (st.take g.2.2.2.2.1).length g.2.2.2.2.1 with
      | false => rw [hb] at hi; cases hi
      | true => rw [hb] at hi; exact hinv hi
    · cases hi
  have hin : ∀ {g : ab_G}, ab_inst tb cf M g L st w cn sn = some q → q.2.2.1 ≤ M.2.2.2.2.1 ∧ q.2.2.2 ≤ M.2.2.2.2.2.1 := by
    intro g hi
    obtain ⟨r, rest, o, q0, -, -, -, -, -, -, hi⟩ := ab_inst_of hi
    exact hinv hi
  have hsi : ∀ {g : ab_G}, ab_sinst tb cf M g L st w cn sn = some q → q.2.2.1 ≤ M.2.2.2.2.1 ∧ q.2.2.2 ≤ M.2.2.2.2.2.1 := by
    intro g hi
    obtain ⟨r, rest, q0, -, -, -, -, hi⟩ := ab_sinst_of hi
    exact hinv hi
  unfold ab_go at h
  simp only [Bool.cond_eq_ite] at h
  repeat' split at h
  all_goals first | (cases h; done) | exact hst h | exact hsi h | exact hin h | (cases h; exact ⟨hc, hs⟩)
theorem ab_new_cells {ins : Instr} {lk : Nat} {L : ab_Lo} {st : List Value} {w : ab_W} {cn sn : Nat} {q : List Value × ab_W × Nat × Nat} (h : ab_new tb M ins lk L st w cn sn = some q) : q.2.2.1 ≤ M.2.2.2.2.1 ∧ q.2.2.2 ≤ M.2.2.2.2.2.1 := by
  cases ins with
  | new i =>
    simp only [ab_new, Bool.cond_eq_ite, Bool.and_eq_true] at h
    split at h
    · split at h
      · split at h
        · rename_i hb; cases h; exact ⟨Nat.le_of_ble_eq_true hb.1.2, Nat.le_of_ble_eq_true hb.2⟩
        · cases h
      · cases h
    · cases h
  | newarray t =>
    cases t with
    | int =>
      simp only [ab_new, Bool.cond_eq_ite, Bool.and_eq_true] at h
      split at h
      · split at h
        · rename_i hb; cases h; exact ⟨Nat.le_of_ble_eq_true hb.1.2, Nat.le_of_ble_eq_true hb.2⟩
        · cases h
      · cases h
    | _ => cases h
  | anewarray i =>
    simp only [ab_new, Bool.cond_eq_ite, Bool.and_eq_true] at h
    split at h
    · split at h
      · rename_i hb; cases h; exact ⟨Nat.le_of_ble_eq_true hb.1.2, Nat.le_of_ble_eq_true hb.2⟩
      · cases h
    · cases h
  | multianewarray i dm =>
    simp only [ab_new, Bool.cond_eq_ite, Bool.and_eq_true] at h
    split at h
    · split at h
      · rename_i hb; cases h; exact ⟨Nat.le_of_ble_eq_true hb.1.2, Nat.le_of_ble_eq_true hb.2⟩
      · cases h
    · cases h
  | _ => cases h
theorem ab_run_ok (hV : ab_V tb ts) (hC : ab_Cx tb ts p s m args meth c M D cT A sd sp) (htbl : ∀ (pc : Nat) (x : ab_I), ab_fetch M.2.2.2.2.2.2.2 pc = some x → ab_E tb ts M pc x.1 x.2) (hcf : ab_cfOK l d tb ts sp cf) (hR : ab_Rm R M d) {v : Option Value} {w' w0 : ab_W} {ad0 : Nat → Nat}
    (kret : ∀ (ad' : Nat → Nat) (H : Heap) (locs : List Loc) (cells slots pc lk : Nat) (ins : Instr) (st : List Value) (ls : Array Slot), ab_Ag M.2.2.2.2.1 w0 w' ad0 ad' → ab_End tb ts s M D cT A sd v w' ad' H locs cells slots pc lk ins st → W p l e R s m args below meth c H locs cells slots Q (F0 m pc ls (st.map (ab_v ad' sd)))) :
    ∀ (n : Nat) (σ : ab_St) (ad : Nat → Nat) (H : Heap) (locs : List Loc) (ls : Array Slot), ab_run tb cf sp M n σ = some (v, w') → ab_P tb s D cT A ad sd σ.2.2.2.1 H locs → lv_has ls M.2.2.1 (ab_l ad sd σ.2.1) → ab_Ag M.2.2.2.2.1 w0 σ.2.2.2.1 ad0 ad → σ.2.2.2.2.1 ≤ M.2.2.2.2.1 → σ.2.2.2.2.2 ≤ M.2.2.2.2.2.1 →
      W p l e R s m args below meth c H locs σ.2.2.2.2.1 σ.2.2.2.2.2 Q (F0 m σ.1 ls (σ.2.2.1.map (ab_v ad sd)))
  | 0, σ, ad, H, locs, ls, hr, _, _, _, _, _ => by cases hr
  | n + 1, σ, ad, H, locs, ls, hr, hP, hl, hag, hcn, hsn => by
    obtain ⟨pc, L, st, w, cn, sn⟩ := σ
    dsimp only at hP hl hag hcn hsn ⊢
    have hx := hC.1
    have hb := hC.2.1
    unfold ab_run at hr
    unfold ab_step at hr
    dsimp only at hr
    cases hf : ab_fetch M.2.2.2.2.2.2.2 pc with
    | none => rw [hf] at hr; cases hr
    | some x =>
      obtain ⟨ins, lk⟩ := x
      have hE := htbl pc _ hf
      dsimp only at hE
      rw [hf] at hr
      dsimp only at hr
      unfold ab_exec at hr
      cases h1 : ab_pure ins st with
      | some st' =>
        rw [h1] at hr
        have hsw : ab_sw ins = false := by cases ins <;> first | rfl | cases h1
        exact ab_pure_ok h1 hx hb (hE.dec hsw) (ab_run_ok hV hC htbl hcf hR kret n _ ad H locs ls hr hP hl hag hcn hsn)
      | none =>
        rw [h1] at hr
        dsimp only at hr
        cases h2 : ab_loc M.2.2.1 ins L st with
        | some q =>
          rw [h2] at hr
          have hsw : ab_sw ins = false := by cases ins <;> first | rfl | cases h2
          exact ab_loc_ok h2 hx hb (hE.dec hsw) hl (fun ls' hl' => ab_run_ok hV hC htbl hcf hR kret n _ ad H locs ls' hr hP hl' hag hcn hsn)
        | none =>
          rw [h2] at hr
          dsimp only at hr
          cases h3 : ab_br ins pc lk st with
          | some q =>
            rw [h3] at hr
            exact ab_br_ok h3 hx hb hE (ab_run_ok hV hC htbl hcf hR kret n _ ad H locs ls hr hP hl hag hcn hsn)
          | none =>
            rw [h3] at hr
            dsimp only at hr
            cases h4 : ab_heap tb sp ins lk st w with
            | some q =>
              rw [h4] at hr
              exact ab_heap_ok hV hC hE hP h4 (fun H' locs' hP' => ab_run_ok hV hC htbl hcf hR kret n _ ad H' locs' ls hr hP' hl (hag.trans (ab_Ag.rf (ab_heap_len h4))) hcn hsn)
            | none =>
              rw [h4] at hr
              dsimp only at hr
              cases h5 : ab_call1 tb cf M ins lk L st w cn sn with
              | some q =>
                rw [h5] at hr
                have h6 : q.2.2.1 ≤ M.2.2.2.2.1 ∧ q.2.2.2 ≤ M.2.2.2.2.2.1 := by
                  cases ins with
                  | invokevirtual i => exact ab_go_cells h5 hcn hsn
                  | invokespecial i => exact ab_go_cells h5 hcn hsn
                  | invokestatic i => exact ab_go_cells h5 hcn hsn
                  | _ => cases h5
                exact ab_call1_ok hV hC hE hP hl hcf hR h5 (fun ad' H' locs' hP' hl' hag' => ab_run_ok hV hC htbl hcf hR kret n _ ad' H' locs' ls hr hP' hl' (hag.trans hag') h6.1 h6.2)
              | none =>
                rw [h5] at hr
                dsimp only at hr
                cases h6 : ab_ret M.2.2.2.1 ins st with
                | some v0 =>
                  rw [h6] at hr
                  cases hr
                  exact kret ad H locs cn sn pc lk ins st ls hag ⟨hP, h6, hE, hcn, hsn⟩
                | none =>
                  rw [h6] at hr
                  dsimp only at hr
                  cases h7 : ab_new tb M ins lk L st w cn sn with
                  | some q =>
                    rw [h7] at hr
                    have h8 := ab_new_cells h7
                    exact ab_new_ok hV hC hE hP hl hR h7 (fun ad' H' locs' hP' hl' hag' => ab_run_ok hV hC htbl hcf hR kret n _ ad' H' locs' ls hr hP' hl' (hag.trans hag') h8.1 h8.2)
                  | none => rw [h7] at hr; cases hr
end ABR
