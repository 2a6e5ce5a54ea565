/-! MORE RULES: switches, copies, texts, the row ABOVE -/
def cpf (f g : Nat → Int32) (sp dp n : Nat) : Nat → Int32 := fun i => if dp ≤ i ∧ i < dp + n then f (i - dp + sp) else g i
theorem qa_cpy {n1 n2 sp dp n : Nat} {f g : Nat → Int32} (h1 : sp + n ≤ n1) (h2 : dp + n ≤ n2) : ab_cpy (qa n1 f) (qa n2 g) sp dp n = qa n2 (cpf f g sp dp n) := by
  apply List.ext_getElem?
  intro i
  unfold ab_cpy
  by_cases hi : i < n2
  · rw [qa_at n2 (cpf f g sp dp n) i hi]
    unfold cpf
    by_cases ha : i < dp
    · rw [List.getElem?_append_left (by rw [List.length_take, qa_len]; omega), List.getElem?_take, if_pos ha, qa_at n2 g i hi, if_neg (by omega)]
    · rw [List.getElem?_append_right (by rw [List.length_take, qa_len]; omega), List.length_take, qa_len]
      have hm : min dp n2 = dp := by omega
      rw [hm]
      by_cases hb : i < dp + n
      · rw [List.getElem?_append_left (by rw [List.length_take, List.length_drop, qa_len]; omega), List.getElem?_take, if_pos (by omega), List.getElem?_drop, qa_at n1 f _ (by omega), if_pos (by omega), show sp + (i - dp) = i - dp + sp by omega]
      · rw [List.getElem?_append_right (by rw [List.length_take, List.length_drop, qa_len]; omega), List.length_take, List.length_drop, qa_len, List.getElem?_drop, qa_at n2 g _ (by omega), if_neg (by omega)]
        congr 2
        omega
  · rw [List.getElem?_eq_none (l := qa n2 (cpf f g sp dp n)) (by rw [qa_len]; omega)]
    apply List.getElem?_eq_none
    rw [List.length_append, List.length_append, List.length_take, List.length_take, List.length_drop, List.length_drop, qa_len, qa_len]
    omega
theorem ne_toInt {x v : Int32} {k : Int} (h : ¬ x = v) (hk : v.toInt = k) : x.toInt ≠ k := fun e => h (Int32.toInt_inj.mp (by rw [e, hk]))
section ERU
variable {d pc pc' lk : Nat} {M : ab_M} {L L' : ab_Lo} {st : List Value} {w : ab_W} {P : ab_R → Prop} {X Z : Nat → Nat → Int32}
theorem er_swT (v : Int32) {x : Int32} {ins : Instr} (hf : ab_fetch M.2.2.2.2.2.2.2 pc = some (ins, lk)) (hx : x = v) (h : ab_br ins pc lk (.int v :: st) = some (pc', st)) (k : ER d M pc' L st w P) : ER d M pc L (.int x :: st) w P := by
  subst hx
  exact er_br hf h k
theorem ab_tgt_eq {pc pc' : Nat} {off : Int} {r : List Value} (h : (pc : Int) + off = (pc' : Int)) : ab_tgt pc off r = some (pc', r) := by
  unfold ab_tgt
  rw [h]
  simp
def tsOK (vs : List Int) (lo : Int) (dd : Int) : List Int → Bool
  | [] => true
  | a :: l => (decide (a = dd) || vs.contains lo) && tsOK vs (lo + 1) dd l
theorem tsOK_at {vs : List Int} {dd : Int} : ∀ {l : List Int} {lo : Int} {i : Nat} {a : Int}, tsOK vs lo dd l = true → l[i]? = some a → a = dd ∨ (lo + (i : Int)) ∈ vs
  | [], _, _, _, _, h => by simp at h
  | b :: l, lo, 0, a, h, e => by
    simp only [tsOK, Bool.and_eq_true, Bool.or_eq_true, decide_eq_true_eq, List.contains_iff_mem] at h
    simp at e
    subst e
    simpa using h.1
  | b :: l, lo, i + 1, a, h, e => by
    simp only [tsOK, Bool.and_eq_true] at h
    have := tsOK_at (i := i) h.2 (by simpa using e)
    rcases this with h1 | h1
    · exact Or.inl h1
    · right
      have e2 : lo + ((i + 1 : Nat) : Int) = lo + 1 + (i : Int) := by omega
      rw [e2]; exact h1
theorem er_tsD (vs : List Int) {x : Int32} {dd lo hi : Int} {offs : Array Int} (hf : ab_fetch M.2.2.2.2.2.2.2 pc = some (.tableswitch dd lo hi offs, lk)) (hd : (pc : Int) + dd = (pc' : Int)) (hv : tsOK vs lo dd offs.toList = true) (hs : (offs.size : Int) = hi - lo + 1) (hx : ∀ v ∈ vs, x.toInt ≠ v) (k : ER d M pc' L st w P) : ER d M pc L (.int x :: st) w P := by
  refine er_br hf ?_ k
  unfold ab_br
  dsimp only
  by_cases ho : x.toInt < lo ∨ hi < x.toInt
  · have e : (decide (x.toInt < lo) || decide (hi < x.toInt)) = true := by simpa using ho
    rw [e]
    exact ab_tgt_eq hd
  · have e : (decide (x.toInt < lo) || decide (hi < x.toInt)) = false := by
      cases hb : (decide (x.toInt < lo) || decide (hi < x.toInt)) with
      | false => rfl
      | true => exact absurd (by simpa using hb) ho
    rw [e]
    simp only [cond_false]
    have hlt : (x.toInt - lo).toNat < offs.size := by omega
    have e2 : offs[(x.toInt - lo).toNat]? = some offs[(x.toInt - lo).toNat] := Array.getElem?_eq_getElem hlt
    rw [e2]
    dsimp only
    rcases tsOK_at hv (by rw [← Array.getElem?_toList] at e2; exact e2) with h1 | h1
    · rw [h1]; exact ab_tgt_eq hd
    · exact absurd (by omega) (hx _ h1)
theorem er_lsD {x : Int32} {dd : Int} {ps : Array (Int × Int)} (hf : ab_fetch M.2.2.2.2.2.2.2 pc = some (.lookupswitch dd ps, lk)) (hd : (pc : Int) + dd = (pc' : Int)) (hs : ((ps.toList.zip (ps.toList.drop 1)).all (fun (a, next) => a.1 < next.1)) = true) (hx : ∀ v ∈ ps.toList.map (fun q => q.1), x.toInt ≠ v) (k : ER d M pc' L st w P) : ER d M pc L (.int x :: st) w P := by
  refine er_br hf ?_ k
  unfold ab_br
  dsimp only
  rw [hs]
  simp only [cond_true]
  have e : Op.lookupswitch.offset ps.toList dd x.toInt = dd := by
    generalize ps.toList = l at hx
    induction l with
    | nil => rfl
    | cons q l ih =>
      have h1 := hx q.1 (by simp)
      have h2 := ih (fun v hv => hx v (by simp only [List.map_cons, List.mem_cons]; exact Or.inr hv))
      rw [show q = (q.1, q.2) from rfl, Op.lookupswitch.offset_cons, if_neg (Ne.symm h1)]
      exact h2
  rw [e]
  exact ab_tgt_eq hd
theorem er_cp {c1 c2 n1 n2 i : Nat} {f g : Nat → Int32} {sp dp n : Nat} {x1 x2 x3 : Int32} {X' Z' : Nat → Nat → Int32} (hf : ab_fetch M.2.2.2.2.2.2.2 pc = some (.invokestatic i, lk)) (hg : (ab_nth tb.2.1 lk).map (fun g => g.2.2.1) = some 6) (hr : ab_room st = true) (hc1 : Nat.blt c1 79 = true) (hc2 : Nat.blt c2 79 = true) (he1 : cO c1 (X c1) (Z c1) = .inr (.inl (qa n1 f))) (he2 : cO c2 (X c2) (Z c2) = .inr (.inl (qa n2 g))) (h1 : x1 = nI sp) (h2 : x2 = nI dp) (h3 : x3 = nI n) (hb1 : sp + n ≤ n1) (hb2 : dp + n ≤ n2) (hn : (Nat.ble n1 1000 && Nat.ble n2 1000) = true)
    (hw : (Wd X Z).set c2 (.inr (.inl (qa n2 (cpf f g sp dp n)))) = Wd X' Z') (hp : pc + 3 = pc') (k : ER d M pc' L st (Wd X' Z') P) : ER d M pc L (.int x3 :: .int x2 :: .ref c2 :: .int x1 :: .ref c1 :: st) (Wd X Z) P := by
  obtain ⟨r, k1, k2⟩ := k
  subst hp
  subst h1
  subst h2
  subst h3
  rw [Bool.and_eq_true] at hn
  have hn1 := Nat.le_of_ble_eq_true hn.1
  have hn2 := Nat.le_of_ble_eq_true hn.2
  refine ⟨r, ev_bi (q := (st, Wd X' Z', 0, 0)) hf (fun cf => ?_) k1, k2⟩
  show ab_go tb cf M lk L _ _ 0 0 = _
  unfold ab_go
  cases hq : ab_nth tb.2.1 lk with
  | none => rw [hq] at hg; cases hg
  | some g0 =>
    rw [hq] at hg
    have e : g0.2.2.1 = 6 := Option.some.inj hg
    simp only [e]
    rw [Wd_cell hc2, Wd_cell hc1, he1, he2]
    dsimp only
    rw [hr, decide_eq_false (nI_pos (by omega)), decide_eq_false (nI_pos (by omega)), decide_eq_false (nI_pos (by omega)), nI_clamp (by omega), nI_clamp (by omega), nI_clamp (by omega), qa_len, qa_len, qa_cpy hb1 hb2, hw]
    rw [show Nat.ble (sp + n) n1 = true from Nat.ble_eq_true_of_le hb1, show Nat.ble (dp + n) n2 = true from Nat.ble_eq_true_of_le hb2]
    rfl
theorem er_cpX {c1 c2 n1 n2 i : Nat} {f : Nat → Int32} (sp dp n : Nat) {x1 x2 x3 : Int32} (hf : ab_fetch M.2.2.2.2.2.2.2 pc = some (.invokestatic i, lk)) (hg : (ab_nth tb.2.1 lk).map (fun g => g.2.2.1) = some 6) (hr : ab_room st = true) (hc1 : Nat.blt c1 79 = true) (hc2 : Nat.blt c2 79 = true) (he1 : cO c1 (X c1) (Z c1) = .inr (.inl (qa n1 f))) (he2 : ∀ f, cO c2 f (Z c2) = .inr (.inl (qa n2 f))) (h1 : x1 = nI sp) (h2 : x2 = nI dp) (h3 : x3 = nI n) (hb1 : sp + n ≤ n1) (hb2 : dp + n ≤ n2) (hn : (Nat.ble n1 1000 && Nat.ble n2 1000) = true)
    (hp : pc + 3 = pc') (k : ER d M pc' L st (Wd (uc X c2 (cpf f (X c2) sp dp n)) Z) P) : ER d M pc L (.int x3 :: .int x2 :: .ref c2 :: .int x1 :: .ref c1 :: st) (Wd X Z) P :=
  er_cp hf hg hr hc1 hc2 he1 (he2 _) h1 h2 h3 hb1 hb2 hn (Wd_setX hc2 (he2 _).symm) hp k
theorem er_cpZ {c1 c2 n1 n2 i : Nat} {f : Nat → Int32} (sp dp n : Nat) {x1 x2 x3 : Int32} (hf : ab_fetch M.2.2.2.2.2.2.2 pc = some (.invokestatic i, lk)) (hg : (ab_nth tb.2.1 lk).map (fun g => g.2.2.1) = some 6) (hr : ab_room st = true) (hc1 : Nat.blt c1 79 = true) (hc2 : Nat.blt c2 79 = true) (he1 : cO c1 (X c1) (Z c1) = .inr (.inl (qa n1 f))) (he2 : ∀ f, cO c2 (X c2) f = .inr (.inl (qa n2 f))) (h1 : x1 = nI sp) (h2 : x2 = nI dp) (h3 : x3 = nI n) (hb1 : sp + n ≤ n1) (hb2 : dp + n ≤ n2) (hn : (Nat.ble n1 1000 && Nat.ble n2 1000) = true)
    (hp : pc + 3 = pc') (k : ER d M pc' L st (Wd X (uc Z c2 (cpf f (Z c2) sp dp n))) P) : ER d M pc L (.int x3 :: .int x2 :: .ref c2 :: .int x1 :: .ref c1 :: st) (Wd X Z) P :=
  er_cp hf hg hr hc1 hc2 he1 (he2 _) h1 h2 h3 hb1 hb2 hn (Wd_setZ hc2 (he2 _).symm) hp k
theorem er_ldcR (v : Nat) {i : Nat} {q : ab_K} (hf : ab_fetch M.2.2.2.2.2.2.2 pc = some (.ldc i, lk)) (hq : ab_nth tb.2.2.1 lk = some q) (hv : q.2.2.1 = .ref v) (hp : pc + 2 = pc') (k : ER d M pc' L (.ref v :: st) w P) : ER d M pc L st w P := by
  obtain ⟨r, h1, h2⟩ := k
  subst hp
  refine ⟨r, ev_heap hf ?_ h1, h2⟩
  simp only [ab_heap, hq, hv]
theorem er_ldc2 (v : Int64) {i : Nat} {q : ab_K} (hf : ab_fetch M.2.2.2.2.2.2.2 pc = some (.ldc2_w i, lk)) (hq : ab_nth tb.2.2.1 lk = some q) (hv : q.2.2.1 = .long v) (hp : pc + 3 = pc') (k : ER d M pc' L (.long v :: st) w P) : ER d M pc L st w P := by
  obtain ⟨r, h1, h2⟩ := k
  subst hp
  refine ⟨r, ev_heap hf ?_ h1, h2⟩
  simp only [ab_heap, hq, hv]
theorem er_heap {st' : List Value} {w' : ab_W} {ins : Instr} (hf : ab_fetch M.2.2.2.2.2.2.2 pc = some (ins, lk)) (h : ab_heap tb SP ins lk st w = some (st', w')) (hp : pc + ab_len ins = pc') (k : ER d M pc' L st' w' P) : ER d M pc L st w P := by
  obtain ⟨r, h1, h2⟩ := k
  subst hp
  exact ⟨r, ev_heap hf h h1, h2⟩
theorem er_cT {j i : Nat} {v : Int32} {As rest : List Value} (hf : ab_fetch M.2.2.2.2.2.2.2 pc = some (.invokevirtual i, lk)) (hq : ask tb M (.invokevirtual i) lk L st w 0 0 = some (j, As, rest, 0, 0)) (hp : pc + 3 = pc') (h : EC d j As w (PI v w)) (k : ER d M pc' L (.int v :: rest) w P) : ER d M pc L st w P := by
  obtain ⟨r1, h1, h2⟩ := h
  obtain ⟨r, h3, h4⟩ := k
  subst hp
  cases h2
  exact ⟨r, ev_ask hf hq h1 h3, h4⟩
theorem er_alq {c n t : Nat} {g : Nat → Option Nat} (hf : ab_fetch M.2.2.2.2.2.2.2 pc = some (.arraylength, lk)) (hc : Nat.blt c 79 = true) (he : cO c (X c) (Z c) = .inr (.inr (t, (List.range n).map g))) (ht : Nat.blt t 2 = true) (hp : pc + 1 = pc') (kk : ER d M pc' L (.int (nI n) :: st) (Wd X Z) P) : ER d M pc L (.ref c :: st) (Wd X Z) P := by
  obtain ⟨r, h1, h2⟩ := kk
  subst hp
  refine ⟨r, ev_heap hf ?_ h1, h2⟩
  have hcell := (Wd_cell (X := X) (Z := Z) hc).trans (congrArg some he)
  unfold ab_cell at hcell
  simp only [ab_heap]
  cases hb : Nat.ble ab_B c with
  | true => rw [hb] at hcell; cases hcell
  | false =>
    rw [hb] at hcell
    simp only [cond_false] at hcell ⊢
    rw [hcell]
    dsimp only
    rw [ht]
    simp only [cond_true, List.length_map, List.length_range]
    rfl
end ERU
