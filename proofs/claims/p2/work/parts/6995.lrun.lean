/-! THE LAW'S OWN FRAME: rules, the counts of what is made standing at 79 and 3295 -/
def LSP (xs : List Int32) : List (List Int32) := [[0, 0, 0, 0, 1, 2, 3], xs]
def LG (xs : List Int32) (pc : Nat) (L : ab_Lo) (st : List Value) (w : ab_W) (P : ab_R → Prop) : Prop := ∃ r, ev_Run tb SP (LSP xs) 200 tb_mL (pc, L, st, w, 79, 3295) r ∧ P r
section LGS
variable {xs : List Int32} {pc pc' lk n : Nat} {L L' : ab_Lo} {st st' : List Value} {w w' : ab_W} {P : ab_R → Prop} {ins : Instr} {X Z : Nat → Nat → Int32}
theorem lg_p (hf : ab_fetch tb_tL pc = some (ins, lk)) (h : ab_pure ins st = some st') (hp : pc + ab_len ins = pc') (k : LG xs pc' L st' w P) : LG xs pc L st w P := by
  obtain ⟨r, h1, h2⟩ := k
  subst hp
  exact ⟨r, ev_pure hf h h1, h2⟩
theorem lg_l (hf : ab_fetch tb_tL pc = some (ins, lk)) (h : ab_loc 4 ins L st = some (L', st')) (hp : pc + ab_len ins = pc') (k : LG xs pc' L' st' w P) : LG xs pc L st w P := by
  obtain ⟨r, h1, h2⟩ := k
  subst hp
  exact ⟨r, ev_loc hf h h1, h2⟩
theorem lg_h (hf : ab_fetch tb_tL pc = some (ins, lk)) (h : ab_heap tb (LSP xs) ins lk st w = some (st', w')) (hp : pc + ab_len ins = pc') (k : LG xs pc' L st' w' P) : LG xs pc L st w P := by
  obtain ⟨r, h1, h2⟩ := k
  subst hp
  exact ⟨r, ev_heap hf h h1, h2⟩
theorem lg_bi (v : Int32) {m : Int} (hf : ab_fetch tb_tL pc = some (.bipush m, lk)) (hv : (Int8.ofInt m).toInt32 = v) (hp : pc + 2 = pc') (k : LG xs pc' L (.int v :: st) w P) : LG xs pc L st w P := lg_p hf (by rw [← hv]; rfl) hp k
theorem lg_b (hf : ab_fetch tb_tL pc = some (ins, lk)) (h : ab_br ins pc lk st = some (pc', st')) (k : LG xs pc' L st' w P) : LG xs pc L st w P := by
  obtain ⟨r, h1, h2⟩ := k
  exact ⟨r, ev_br hf h h1, h2⟩
theorem lg_g {off : Int} (hf : ab_fetch tb_tL pc = some (.goto off, lk)) (hp : lk = pc') (k : LG xs pc' L st w P) : LG xs pc L st w P := lg_b hf (by rw [← hp]; rfl) k
theorem lg_ret {v : Value} (hf : ab_fetch tb_tL pc = some (ins, lk)) (h : ab_ret (some .boolean) ins st = some (some v)) (k : P (some v, w)) : LG xs pc L st w P := ⟨_, ev_ret hf h, k⟩
theorem ab_ix_at (h : n < xs.length) (hl : xs.length ≤ 4000) : ab_ix xs (nI n) = some (xs.getD n 0) := by
  unfold ab_ix
  rw [decide_eq_false (nI_pos (by omega)), nI_clamp (by omega), ab_nth_eq, List.getElem?_eq_getElem h]
  simp [List.getD_eq_getElem?_getD, List.getElem?_eq_getElem h]
theorem lg_ia {iv : Int32} (k : Nat) (hf : ab_fetch tb_tL pc = some (.iaload, lk)) (hi : iv = nI n + nI k) (hn : n + k < xs.length) (hl : xs.length ≤ 4000) (hp : pc + 1 = pc') (kk : LG xs pc' L (.int (xs.getD (n + k) 0) :: st) w P) : LG xs pc L (.int iv :: .ref 1000001 :: st) w P := by
  refine lg_h hf ?_ hp kk
  have e : ab_ix xs iv = some (xs.getD (n + k) 0) := by rw [hi, nI_add]; exact ab_ix_at hn hl
  show (match ab_ix xs iv with
    | some v => some (Value.int v :: st, w)
    | none => none) = _
  rw [e]
theorem lg_al (hf : ab_fetch tb_tL pc = some (.arraylength, lk)) (hp : pc + 1 = pc') (kk : LG xs pc' L (.int (nI xs.length) :: st) w P) : LG xs pc L (.ref 1000001 :: st) w P := lg_h hf rfl hp kk
theorem ask_inv_n {j cn sn : Nat} {M : ab_M} {As rest : List Value} (h1 : ab_room rest = true) (h2 : qOK j = true) (h3 : Nat.ble cn M.2.2.2.2.1 = true) (h4 : Nat.ble sn M.2.2.2.2.2.1 = true) : ask_inv tb M j As L rest w cn sn = some (j, As, rest, cn, sn) := by
  unfold qOK at h2
  unfold ask_inv
  split at h2
  · rename_i Mj hj
    rw [hj]
    dsimp only
    rw [Bool.and_eq_true] at h2
    have e1 := Nat.eq_of_beq_eq_true h2.1
    have e2 := Nat.eq_of_beq_eq_true h2.2
    rw [e1, e2, h1, Nat.add_zero, Nat.add_zero, h3, h4]
    rfl
  · cases h2
theorem ask_qI_n {c cls j cn sn : Nat} {M : ab_M} {fs As rest : List Value} (hi : isCI ins = true) (h : qI lk cls st = some (c, j, As, rest)) (hcell : ab_cell w c = some (.inl (cls, fs))) (h3 : Nat.ble cn M.2.2.2.2.1 = true) (h4 : Nat.ble sn M.2.2.2.2.2.1 = true) : ask tb M ins lk L st w cn sn = some (j, As, rest, cn, sn) := by
  have hgo : ask tb M ins lk L st w cn sn = ask_go tb M lk L st w cn sn := by cases ins <;> first | rfl | (cases hi; done)
  rw [hgo]
  unfold qI at h
  unfold ask_go
  split at h
  · cases h
  · rename_i g hg
    rw [hg]
    dsimp only
    cases hk : (Nat.beq g.2.2.1 0 || (Nat.beq g.2.2.1 1 || (Nat.beq g.2.2.1 10 || (Nat.beq g.2.2.1 11 || Nat.beq g.2.2.1 13)))) with
    | false => rw [hk] at h; cases h
    | true =>
      rw [hk] at h
      simp only [cond_true] at h
      have key : ask_inst tb M g L st w cn sn = some (j, As, rest, cn, sn) := by
        unfold ask_inst
        split at h
        · rename_i r rest0 hst
          rw [hst]
          dsimp only
          split at h
          · rename_i q hq
            cases hb : (Nat.beq (st.take g.2.2.2.2.1).length g.2.2.2.2.1 && (ab_room rest0 && qOK q.2.1)) with
            | false => rw [hb] at h; cases h
            | true =>
              rw [hb] at h
              cases h
              rw [hcell]
              dsimp only
              rw [hq]
              dsimp only
              simp only [Bool.and_eq_true] at hb
              rw [hb.1]
              exact ask_inv_n hb.2.1 hb.2.2 h3 h4
          · cases h
        · cases h
      simp only [Bool.or_eq_true] at hk
      rcases hk with hk | hk | hk | hk | hk <;> (rw [Nat.eq_of_beq_eq_true hk]; exact key)
theorem lg_cI (cls : Nat) {c j : Nat} {fs As rest : List Value} {Q : ab_R → Prop} (hf : ab_fetch tb_tL pc = some (ins, lk)) (hi : isCI ins = true) (hq : qI lk cls st = some (c, j, As, rest)) (hc : Nat.blt c 79 = true) (ho : cO c (X c) (Z c) = .inl (cls, fs)) (hp : pc + 3 = pc') (h : EC 200 j As (Wd X Z) Q) (k : ∀ r, Q r → LG xs pc' L (r.1.toList ++ rest) r.2 P) : LG xs pc L st (Wd X Z) P := by
  obtain ⟨r1, h1, h2⟩ := h
  obtain ⟨r, h3, h4⟩ := k r1 h2
  subst hp
  exact ⟨r, ev_ask hf (ask_qI_n hi hq ((Wd_cell hc).trans (congrArg some ho)) rfl rfl) h1 h3, h4⟩
/-- the second call of a pair -/
def P2 (X Z : Nat → Nat → Int32) (j2 : Nat) (as : List Value) (c : Bool) (v : Int32) : Prop := EC 200 j2 (.ref 63 :: as) (Wd X Z) (fun r2 => ∃ v2 X2 Z2, r2 = (some (.int v2), Wd X2 Z2) ∧ Rel X2 ∧ (c = true → v = v2))
theorem lg_A {j1 j2 i : Nat} {as rest : List Value} {c : Bool} (h : PAIR X Z j1 j2 as c) (hf : ab_fetch tb_tL pc = some (.invokevirtual i, lk)) (hq : qI lk 11 st = some (0, j1, .ref 0 :: as, rest)) (hp : pc + 3 = pc') (k : ∀ v X1 Z1, P2 X1 Z1 j2 as c v → LG xs pc' L (.int v :: rest) (Wd X1 Z1) P) : LG xs pc L st (Wd X Z) P :=
  lg_cI 11 hf rfl hq rfl rfl hp h (fun r hr => by
    obtain ⟨v, X1, Z1, rfl, h2⟩ := hr
    exact k v X1 Z1 h2)
theorem lg_B {j2 i : Nat} {v : Int32} {as rest : List Value} {c : Bool} (h : P2 X Z j2 as c v) (hf : ab_fetch tb_tL pc = some (.invokevirtual i, lk)) (hq : qI lk 12 st = some (63, j2, .ref 63 :: as, rest)) (hp : pc + 3 = pc') (k : ∀ v2 X2 Z2, Rel X2 → (c = true → v = v2) → LG xs pc' L (.int v2 :: rest) (Wd X2 Z2) P) : LG xs pc L st (Wd X Z) P :=
  lg_cI 12 hf rfl hq rfl rfl hp h (fun r hr => by
    obtain ⟨v2, X2, Z2, rfl, h2, h3⟩ := hr
    exact k v2 X2 Z2 h2 h3)
theorem lg_eqT {x y : Int32} {off : Int} (hf : ab_fetch tb_tL pc = some (.if_icmp .eq off, lk)) (h : x = y) (hp : lk = pc') (k : LG xs pc' L st w P) : LG xs pc L (.int y :: .int x :: st) w P := by
  refine lg_b hf ?_ k
  show some (cond (decide (x = y)) lk (pc + 3), st) = _
  rw [decide_eq_true h, hp]
  rfl
theorem nI_subI {a : Nat} (ha : a ≤ 4000) : (nI a - nI 6).toInt = (a : Int) - 6 := by
  by_cases h : 6 ≤ a
  · rw [nI_sub h, nI_toInt (by omega)]; omega
  · rcases (show a = 0 ∨ a = 1 ∨ a = 2 ∨ a = 3 ∨ a = 4 ∨ a = 5 by omega) with rfl | rfl | rfl | rfl | rfl | rfl <;> decide +kernel
theorem lg_gt {off : Int} {a : Nat} (hf : ab_fetch tb_tL pc = some (.if_icmp .gt off, lk)) (ha : a ≤ 4000) (hn : n ≤ 4000) (hp : pc + 3 = pc') {pd : Nat} (hd : lk = pd) (k1 : ¬ n + 6 ≤ a → LG xs pd L st w P) (k2 : n + 6 ≤ a → LG xs pc' L st w P) : LG xs pc L (.int (nI a - nI 6) :: .int (nI n) :: st) w P := by
  have e : ab_c2 .gt (nI n) (nI a - nI 6) = decide (¬ n + 6 ≤ a) := by
    show decide (nI a - nI 6 < nI n) = _
    rw [decide_eq_decide, Int32.lt_iff_toInt_lt, nI_subI ha, nI_toInt (by omega)]
    omega
  by_cases h : n + 6 ≤ a
  · refine lg_b hf ?_ (k2 h)
    show some (cond (ab_c2 .gt (nI n) (nI a - nI 6)) lk (pc + 3), st) = _
    rw [e, decide_eq_false (fun q => q h), hp]
    rfl
  · refine lg_b hf ?_ (k1 h)
    show some (cond (ab_c2 .gt (nI n) (nI a - nI 6)) lk (pc + 3), st) = _
    rw [e, decide_eq_true h, hd]
    rfl
theorem lg_ts (ts : List Nat) {x : Int32} {dd hi : Int} {offs : Array Int} {pd : Nat} (hf : ab_fetch tb_tL pc = some (.tableswitch dd 0 hi offs, lk)) (hd : (pc : Int) + dd = (pd : Int)) (hs : offs.toList.map (fun o => (pc : Int) + o) = ts.map Int.ofNat) (hl : hi + 1 = (offs.size : Int)) (kd : LG xs pd L st w P) (k : ∀ t ∈ ts, LG xs t L st w P) : LG xs pc L (.int x :: st) w P := by
  by_cases ho : x.toInt < 0 ∨ hi < x.toInt
  · refine lg_b hf ?_ kd
    unfold ab_br
    dsimp only
    have e : (decide (x.toInt < 0) || decide (hi < x.toInt)) = true := by simpa using ho
    rw [e]
    exact ab_tgt_eq hd
  · have e : (decide (x.toInt < 0) || decide (hi < x.toInt)) = false := by
      cases hb : (decide (x.toInt < 0) || decide (hi < x.toInt)) with
      | false => rfl
      | true => exact absurd (by simpa using hb) ho
    have hlt : (x.toInt - 0).toNat < offs.size := by omega
    have e2 : offs[(x.toInt - 0).toNat]? = some offs[(x.toInt - 0).toNat] := Array.getElem?_eq_getElem hlt
    have e3 : (offs.toList.map (fun o => (pc : Int) + o))[(x.toInt - 0).toNat]? = some ((pc : Int) + offs[(x.toInt - 0).toNat]) := by
      rw [List.getElem?_map, Array.getElem?_toList, e2]
      rfl
    rw [hs, List.getElem?_map] at e3
    cases hq : ts[(x.toInt - 0).toNat]? with
    | none => rw [hq] at e3; cases e3
    | some t =>
      rw [hq] at e3
      have e4 : (t : Int) = (pc : Int) + offs[(x.toInt - 0).toNat] := Option.some.inj e3
      refine lg_b hf ?_ (k t (List.mem_of_getElem? hq))
      unfold ab_br
      dsimp only
      rw [e, e2]
      exact ab_tgt_eq e4.symm
theorem lg_L (h : L = L') (k : LG xs pc L' st w P) : LG xs pc L st w P := by rw [h]; exact k
end LGS
