/-! which call an instruction asks for, without its callee -/
section EY
variable {tb : ab_TB} {M : ab_M} {L : ab_Lo} {st rest : List Value} {w : ab_W} {cn sn : Nat} {sp sp0 : List (List Int32)} {d pc lk : Nat} {r : ab_R} {ins : Instr}
abbrev ab_A : Type := Nat × List Value × List Value × Nat × Nat
def ask_inv (tb : ab_TB) (M : ab_M) (j : Nat) (As : List Value) (L : ab_Lo) (rest : List Value) (w : ab_W) (cn sn : Nat) : Option ab_A := match ab_nth tb.2.2.2.2.1 j with
  | none => none
  | some Mj => cond (ab_room rest && Nat.ble (cn + Mj.2.2.2.2.1) M.2.2.2.2.1 && Nat.ble (sn + Mj.2.2.2.2.2.1) M.2.2.2.2.2.1 && (Nat.beq Mj.2.2.2.2.1 0 || (ab_okL w.length L && rest.all (ab_okv w.length)))) (some (j, As, rest, cn + Mj.2.2.2.2.1, sn + Mj.2.2.2.2.2.1)) none
def ask_stat (tb : ab_TB) (M : ab_M) (g : ab_G) (L : ab_Lo) (st : List Value) (w : ab_W) (cn sn : Nat) : Option ab_A := match g.2.2.2.2.2.2 with
  | q :: _ => cond (Nat.beq (st.take g.2.2.2.2.1).length g.2.2.2.2.1) (ask_inv tb M q.2.1 (st.take g.2.2.2.2.1).reverse L (st.drop g.2.2.2.2.1) w cn sn) none
  | [] => none
def ask_inst (tb : ab_TB) (M : ab_M) (g : ab_G) (L : ab_Lo) (st : List Value) (w : ab_W) (cn sn : Nat) : Option ab_A := match st.drop g.2.2.2.2.1 with
  | .ref r :: rest => match ab_cell w r with
    | some (.inl o) => match ab_look g.2.2.2.2.2.2 o.1 with
      | some q => cond (Nat.beq (st.take g.2.2.2.2.1).length g.2.2.2.2.1) (ask_inv tb M q.2.1 (.ref r :: (st.take g.2.2.2.2.1).reverse) L rest w cn sn) none
      | none => none
    | _ => none
  | _ => none
def ask_sinst (tb : ab_TB) (M : ab_M) (g : ab_G) (L : ab_Lo) (st : List Value) (w : ab_W) (cn sn : Nat) : Option ab_A := match st.drop g.2.2.2.2.1 with
  | .ref r :: rest => match g.2.2.2.2.2.2 with
    | q :: _ => cond (ab_isS r && Nat.beq (st.take g.2.2.2.2.1).length g.2.2.2.2.1) (ask_inv tb M q.2.1 (.ref r :: (st.take g.2.2.2.2.1).reverse) L rest w cn sn) none
    | [] => none
  | _ => none
def ask_go (tb : ab_TB) (M : ab_M) (lk : Nat) (L : ab_Lo) (st : List Value) (w : ab_W) (cn sn : Nat) : Option ab_A := match ab_nth tb.2.1 lk with
  | none => none
  | some g => match g.2.2.1 with
    | 2 => ask_stat tb M g L st w cn sn
    | 3 => ask_stat tb M g L st w cn sn
    | 6 => none
    | 7 => none
    | 8 => none
    | 9 => none
    | 12 => ask_sinst tb M g L st w cn sn
    | 99 => none
    | _ => ask_inst tb M g L st w cn sn
def ask (tb : ab_TB) (M : ab_M) (ins : Instr) (lk : Nat) (L : ab_Lo) (st : List Value) (w : ab_W) (cn sn : Nat) : Option ab_A := match ins with
  | .invokevirtual _ => ask_go tb M lk L st w cn sn
  | .invokespecial _ => ask_go tb M lk L st w cn sn
  | .invokestatic _ => ask_go tb M lk L st w cn sn
  | _ => none
theorem ask_inv_of {j : Nat} {As : List Value} {x : ab_A} (h : ask_inv tb M j As L rest w cn sn = some x) (cf : ab_Cf) : ab_inv tb cf M j As L rest w cn sn = match cf x.1 x.2.1 w with
    | some r => some (r.1.toList ++ x.2.2.1, r.2, x.2.2.2.1, x.2.2.2.2)
    | none => none := by
  unfold ask_inv at h
  unfold ab_inv
  cases hj : ab_nth tb.2.2.2.2.1 j with
  | none => rw [hj] at h; cases h
  | some Mj =>
    rw [hj] at h
    dsimp only at h ⊢
    cases hb : (ab_room rest && Nat.ble (cn + Mj.2.2.2.2.1) M.2.2.2.2.1 && Nat.ble (sn + Mj.2.2.2.2.2.1) M.2.2.2.2.2.1 && (Nat.beq Mj.2.2.2.2.1 0 || (ab_okL w.length L && rest.all (ab_okv w.length)))) with
    | false => rw [hb] at h; cases h
    | true => rw [hb] at h; cases h; rfl
theorem ask_stat_of {g : ab_G} {x : ab_A} (h : ask_stat tb M g L st w cn sn = some x) (cf : ab_Cf) : ab_stat tb cf M g L st w cn sn = match cf x.1 x.2.1 w with
    | some r => some (r.1.toList ++ x.2.2.1, r.2, x.2.2.2.1, x.2.2.2.2)
    | none => none := by
  unfold ask_stat at h
  unfold ab_stat
  cases hg : g.2.2.2.2.2.2 with
  | nil => rw [hg] at h; cases h
  | cons q l =>
    rw [hg] at h
    dsimp only at h ⊢
    cases hb : Nat.beq (st.take g.2.2.2.2.1).length g.2.2.2.2.1 with
    | false => rw [hb] at h; cases h
    | true => rw [hb] at h; exact ask_inv_of h cf
theorem ask_inst_of {g : ab_G} {x : ab_A} (h : ask_inst tb M g L st w cn sn = some x) (cf : ab_Cf) : ab_inst tb cf M g L st w cn sn = match cf x.1 x.2.1 w with
    | some r => some (r.1.toList ++ x.2.2.1, r.2, x.2.2.2.1, x.2.2.2.2)
    | none => none := by
  unfold ask_inst at h
  unfold ab_inst
  generalize st.drop g.2.2.2.2.1 = z at h ⊢
  match z, h with
  | .ref r :: rest, h =>
    dsimp only at h ⊢
    cases hc : ab_cell w r with
    | none => rw [hc] at h; cases h
    | some c =>
      rw [hc] at h
      match c, h with
      | .inl o, h =>
        dsimp only at h ⊢
        cases hl : ab_look g.2.2.2.2.2.2 o.1 with
        | none => rw [hl] at h; cases h
        | some q =>
          rw [hl] at h
          dsimp only at h ⊢
          cases hb : Nat.beq (st.take g.2.2.2.2.1).length g.2.2.2.2.1 with
          | false => rw [hb] at h; cases h
          | true => rw [hb] at h; exact ask_inv_of h cf
theorem ask_sinst_of {g : ab_G} {x : ab_A} (h : ask_sinst tb M g L st w cn sn = some x) (cf : ab_Cf) : ab_sinst tb cf M g L st w cn sn = match cf x.1 x.2.1 w with
    | some r => some (r.1.toList ++ x.2.2.1, r.2, x.2.2.2.1, x.2.2.2.2)
    | none => none := by
  unfold ask_sinst at h
  unfold ab_sinst
  generalize st.drop g.2.2.2.2.1 = z at h ⊢
  match z, h with
  | .ref r :: rest, h =>
    dsimp only at h ⊢
    cases hl : g.2.2.2.2.2.2 with
    | nil => rw [hl] at h; cases h
    | cons q l =>
      rw [hl] at h
      dsimp only at h ⊢
      cases hb : (ab_isS r && Nat.beq (st.take g.2.2.2.2.1).length g.2.2.2.2.1) with
      | false => rw [hb] at h; cases h
      | true => rw [hb] at h; exact ask_inv_of h cf
theorem ask_go_of {x : ab_A} (h : ask_go tb M lk L st w cn sn = some x) (cf : ab_Cf) : ab_go tb cf M lk L st w cn sn = match cf x.1 x.2.1 w with
    | some r => some (r.1.toList ++ x.2.2.1, r.2, x.2.2.2.1, x.2.2.2.2)
    | none => none := by
  unfold ask_go at h
  unfold ab_go
  cases hg : ab_nth tb.2.1 lk with
  | none => rw [hg] at h; cases h
  | some g =>
    rw [hg] at h
    dsimp only at h ⊢
    generalize g.2.2.1 = kd at h ⊢
    split at h <;> first | exact ask_stat_of h cf | exact ask_sinst_of h cf | (cases h; done) | (split <;> first | exact ask_inst_of h cf | (exfalso; simp_all))
theorem ev_ask {j cn' sn' : Nat} {As rest : List Value} {r1 : ab_R} (hf : ab_fetch M.2.2.2.2.2.2.2 pc = some (ins, lk)) (h : ask tb M ins lk L st w cn sn = some (j, As, rest, cn', sn')) (hc : ev_Call tb sp0 d j As w r1) (k : ev_Run tb sp0 sp d M (pc + 3, L, r1.1.toList ++ rest, r1.2, cn', sn') r) : ev_Run tb sp0 sp d M (pc, L, st, w, cn, sn) r := by
  refine ev_call hf (fun cf => ?_) hc k
  cases ins with
  | invokevirtual i => exact ask_go_of (x := (j, As, rest, cn', sn')) h cf
  | invokespecial i => exact ask_go_of (x := (j, As, rest, cn', sn')) h cf
  | invokestatic i => exact ask_go_of (x := (j, As, rest, cn', sn')) h cf
  | _ => cases h
theorem ev_askE {j cn' sn' : Nat} {As rest : List Value} (hf : ab_fetch M.2.2.2.2.2.2.2 pc = some (ins, lk)) (h : ask tb M ins lk L st w cn sn = some (j, As, rest, cn', sn')) (he : ∃ (v : Option Value) (w1 : ab_W), ev_Call tb sp0 d j As w (v, w1) ∧ ev_Run tb sp0 sp d M (pc + 3, L, v.toList ++ rest, w1, cn', sn') r) : ev_Run tb sp0 sp d M (pc, L, st, w, cn, sn) r := by
  obtain ⟨v, w1, h1, h2⟩ := he
  exact ev_ask hf h h1 h2
end EY
