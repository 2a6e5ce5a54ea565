/-! THE REFERENCE reads: its ranks -/
def PY (X Z : Nat → Nat → Int32) (u e op : Nat) (t : PT) : ab_R → Prop := fun r => match t with
  | .inl x => ∃ y : YS, y.1 ≤ 50 ∧ x ≤ e ∧ r = (none, Wd X (QZ Z u op true x y))
  | .inr s => s.1 ≤ e ∧ s.2.1 ≤ 50 ∧ ∃ y, CA s.2 y ∧ r = (none, Wd X (QZ Z u op false s.1 y))
theorem PY_inl {X Z : Nat → Nat → Int32} {u e op x : Nat} {t : PT} {y : YS} (ht : t = .inl x) (hy : y.1 ≤ 50) (hx : x ≤ e) : PY X Z u e op t (none, Wd X (QZ Z u op true x y)) := by
  subst ht
  exact ⟨y, hy, hx, rfl⟩
theorem PY_inr {X Z : Nat → Nat → Int32} {u e op p : Nat} {t : PT} {s : Nat × (Nat → Int32)} {y : YS} (ht : t = .inr (p, s)) (hp : p ≤ e) (hs : s.1 ≤ 50) (hc : CA s y) : PY X Z u e op t (none, Wd X (QZ Z u op false p y)) := by
  subst ht
  exact ⟨hp, hs, y, hc, rfl⟩
theorem pk_end {tp : Nat → Int32} {e p : Nat} (h : e ≤ p) : pk tp e p = -1 := if_neg (by omega)
theorem qL_le {f : PS → PT} {tp : Nat → Int32} {e rk : Nat} (H : ∀ p s s', f (p, s) = .inr s' → p ≤ s'.1) : ∀ (m p : Nat) (s : Nat × (Nat → Int32)) (s' : PS), qL f tp e rk m (p, s) = .inr s' → p ≤ s'.1
  | 0, p, s, s', h => by
    cases h
    exact Nat.le_refl _
  | m + 1, p, s, s', h => by
    by_cases c : jn2 rk (pk tp e p) = true
    · cases h1 : f (p + 1, s) with
      | inl a => rw [qL_inl c h1] at h; cases h
      | inr a =>
        rw [qL_inr c h1] at h
        have g1 := H _ _ _ h1
        have g2 := qL_le H m _ _ _ h
        omega
    · rw [qL_no c] at h
      cases h
      exact Nat.le_refl _
theorem qR_le {f : Nat → Nat → PS → PT} {tp : Nat → Int32} {e rk op : Nat} (H : ∀ p s s', f (rk + 1) op (p, s) = .inr s' → p ≤ s'.1) {p : Nat} {s : Nat × (Nat → Int32)} {s' : PS} (h : qR tp e f rk op (p, s) = .inr s') : p ≤ s'.1 := by
  unfold qR at h
  cases h1 : f (rk + 1) op (p, s) with
  | inl a => rw [h1] at h; cases h
  | inr a =>
    rw [h1] at h
    have g1 := H _ _ _ h1
    have g2 := qL_le (f := f (rk + 1) op) H _ _ _ _ h
    omega
theorem pNum_ge {tp : Nat → Int32} {e : Nat} : ∀ (m p : Nat) (v : Int32), p ≤ (pNum tp e m p v).1
  | 0, p, v => Nat.le_refl p
  | m + 1, p, v => by
    show p ≤ (if _ then _ else _ : Nat × Int32).1
    split
    · have := pNum_ge (tp := tp) (e := e) m (p + 1) (v * nI 10 + pk tp e p - nI 48)
      omega
    · exact Nat.le_refl p
theorem qP_le {f : Nat → Nat → PS → PT} {tp : Nat → Int32} {e u op : Nat} (H : ∀ rk op p s s', f rk op (p, s) = .inr s' → p ≤ s'.1) {p : Nat} {s : Nat × (Nat → Int32)} {s' : PS} (h : qP tp e u f op (p, s) = .inr s') : p ≤ s'.1 := by
  unfold qP at h
  dsimp only at h
  split at h
  · cases h
    exact pNum_ge _ _ _
  · split at h
    · cases h
      show p ≤ p + 1
      omega
    · split at h
      · cases h1 : f 5 (op + 1) (p + 1, s) with
        | inl a => rw [h1] at h; cases h
        | inr a =>
          rw [h1] at h
          cases h
          have := H _ _ _ _ _ h1
          show p ≤ a.1
          omega
      · split at h
        · cases h1 : f 0 (op + 1) (p + 1, s) with
          | inl a => rw [h1] at h; cases h
          | inr a =>
            rw [h1] at h
            have := H _ _ _ _ _ h1
            dsimp only at h
            split at h
            · cases h
              show p ≤ a.1 + 1
              omega
            · cases h
        · cases h
theorem qq_le {tp : Nat → Int32} {e u : Nat} : ∀ (F rk op p : Nat) (s : Nat × (Nat → Int32)) (s' : PS), qq tp e u F rk op (p, s) = .inr s' → p ≤ s'.1
  | 0, rk, op, p, s, s', h => by cases h
  | F + 1, rk, op, p, s, s', h => by
    by_cases c : rk < 5
    · rw [qq_R c] at h
      exact qR_le (fun p s s' => qq_le F (rk + 1) op p s s') h
    · have e1 : qq tp e u (F + 1) rk op (p, s) = qP tp e u (qq tp e u F) op (p, s) := if_neg c
      rw [e1] at h
      exact qP_le (fun rk op p s s' => qq_le F rk op p s s') h
theorem aOK_sg {g w : Int32} (h : okSg g) : aOK g w := Or.inr (Or.inr (Or.inr h))
theorem ok124 : okSg (nI 124) := by unfold okSg; decide +kernel
theorem ok38 : okSg (nI 38) := by unfold okSg; decide +kernel
theorem jn_ok {rk : Nat} {b : Int32} (hr : rk < 5) (h : jn2 rk b = true) : okSg b := by
  unfold okSg
  rcases lt5 hr with e | e | e | e | e <;> subst e
  · have e2 : b = nI 124 := of_decide_eq_true h
    subst e2; decide +kernel
  · have e2 : b = nI 38 := of_decide_eq_true h
    subst e2; decide +kernel
  · have e : (decide (b = nI 60) || (decide (b = nI 61) || decide (b = nI 62))) = true := h
    simp only [Bool.or_eq_true, decide_eq_true_eq] at e
    rcases e with e | e | e <;> subst e <;> decide +kernel
  · have e : (decide (b = nI 43) || decide (b = nI 45)) = true := h
    simp only [Bool.or_eq_true, decide_eq_true_eq] at e
    rcases e with e | e <;> subst e <;> decide +kernel
  · have e : (decide (b = nI 42) || (decide (b = nI 47) || decide (b = nI 37))) = true := h
    simp only [Bool.or_eq_true, decide_eq_true_eq] at e
    rcases e with e | e | e <;> subst e <;> decide +kernel
set_option maxRecDepth 100000 in
set_option maxHeartbeats 4000000 in
theorem l_yBad0 (d : Nat) (X Z : Nat → Nat → Int32) {u op e x : Nat} {t : PT} {y : YS} (ht : t = .inl x) (hy : y.1 ≤ 50) (hx : x ≤ e) : ER (d + 1) tb_m153 4 [(0, .ref 63)] [] (Wd X (QZ Z u op true x y)) (PY X Z u e op t) := by
  refine er_loc (pc' := 5) rfl rfl rfl ?_
  refine er_gf (pc' := 8) (.int (bI true)) rfl rfl rfl rfl rfl ?_
  refine er_if_neT rfl (by decide +kernel) ?_
  refine er_vret rfl rfl ?_
  exact PY_inl ht hy hx
set_option maxRecDepth 100000 in
set_option maxHeartbeats 4000000 in
theorem l_yL0 (d : Nat) (X Z : Nat → Nat → Int32) {u op e : Nat} {f : PS → PT} (he : X 64 5 = nI e) (he50 : e ≤ 50) (H : ∀ (p : Nat) (s : Nat × (Nat → Int32)) (y : YS), p ≤ e → s.1 ≤ 50 → CA s y → EC (d + 1) 154 [.ref 63] (Wd X (QZ Z u op false p y)) (PY X Z u e op (f (p, s)))) (Hle : ∀ p s s', f (p, s) = .inr s' → p ≤ s'.1) : ∀ (m i p : Nat) (s : Nat × (Nat → Int32)) (y : YS), i + m = 50 → i ≤ p → p ≤ e → s.1 ≤ 50 → CA s y → ER (d + 1) tb_m153 4 [(0, .ref 63)] [] (Wd X (QZ Z u op false p y)) (PY X Z u e op (qL f (jm (X 64) 9) e 0 m (p, s)))
  | 0, i, p, s, y, hi, hip, hp, hs, hca => by
    refine er_loc (pc' := 5) rfl rfl rfl ?_
    refine er_gf (pc' := 8) (.int (bI false)) rfl rfl rfl rfl rfl ?_
    refine er_if_neF (pc' := 11) rfl (by decide +kernel) rfl ?_
    refine er_loc (pc' := 12) rfl rfl rfl ?_
    refine er_cIi (pc' := 15) (rest := []) 12 rfl rfl rfl rfl rfl rfl (l_yByte _ X _ he he50 hp) ?_
    rw [pk_end (show e ≤ p by omega)]
    refine er_k (pc' := 17) (nI 124) rfl rfl rfl ?_
    refine er_cm_neT rfl (by decide +kernel) ?_
    refine er_vret rfl rfl ?_
    exact PY_inr rfl hp hs hca
  | m + 1, i, p, s, y, hi, hip, hp, hs, hca => by
    refine er_loc (pc' := 5) rfl rfl rfl ?_
    refine er_gf (pc' := 8) (.int (bI false)) rfl rfl rfl rfl rfl ?_
    refine er_if_neF (pc' := 11) rfl (by decide +kernel) rfl ?_
    refine er_loc (pc' := 12) rfl rfl rfl ?_
    refine er_cIi (pc' := 15) (rest := []) 12 rfl rfl rfl rfl rfl rfl (l_yByte _ X _ he he50 hp) ?_
    refine er_k (pc' := 17) (nI 124) rfl rfl rfl ?_
    refine er_cm_ne (pc' := 20) rfl rfl (fun h17 => ?_) (fun h17 => ?_)
    · refine er_vret rfl rfl ?_
      have hj : ¬ jn2 0 (pk (jm (X 64) 9) e p) = true := by
        intro hh
        exact h17 (of_decide_eq_true hh)
      exact PY_inr (qL_no hj) hp hs hca
    · refine er_loc (pc' := 21) rfl rfl rfl ?_
      refine er_pure (pc' := 22) rfl rfl rfl ?_
      refine er_gf (pc' := 25) (.int (nI p)) rfl rfl rfl rfl rfl ?_
      refine er_k (pc' := 26) (nI 1) rfl rfl rfl ?_
      refine er_iadd (pc' := 27) rfl rfl ?_
      rw [nI_add p 1]
      refine er_pfIZ (pc' := 30) 10 rfl rfl rfl rfl rfl rfl ?_
      rw [QZ_p]
      refine er_loc (pc' := 31) rfl rfl rfl ?_
      have hj : jn2 0 (pk (jm (X 64) 9) e p) = true := decide_eq_true h17
      have hp1 := jn_lt (show 0 < 5 by omega) hj
      refine er_cIP (pc' := 34) (rest := []) 12 rfl rfl rfl rfl rfl rfl (H (p + 1) s y hp1 hs hca) (fun r hr => ?_)
      cases h1 : f (p + 1, s) with
      | inl x =>
        rw [h1] at hr
        obtain ⟨y2, hy2, hx2, rfl⟩ := hr
        refine er_loc (pc' := 35) rfl rfl rfl ?_
        refine er_k (pc' := 37) (nI 124) rfl rfl rfl ?_
        refine er_k (pc' := 38) (nI 0) rfl rfl rfl ?_
        refine er_cIn (pc' := 41) (rest := []) 12 rfl rfl rfl rfl rfl rfl (l_yLays _ X _ hy2 _ _) ?_
        refine er_goto rfl ?_
        refine ER_loc [(0, _)] rfl (List.forall_mem_cons.mpr ⟨rfl, fun _ h => absurd h List.not_mem_nil⟩) rfl rfl ?_
        exact l_yBad0 d X Z (qL_inl hj h1) (wrY_le hy2) hx2
      | inr s1 =>
        rw [h1] at hr
        obtain ⟨hq1, hq2, y2, hca2, rfl⟩ := hr
        refine er_loc (pc' := 35) rfl rfl rfl ?_
        refine er_k (pc' := 37) (nI 124) rfl rfl rfl ?_
        refine er_k (pc' := 38) (nI 0) rfl rfl rfl ?_
        refine er_cIn (pc' := 41) (rest := []) 12 rfl rfl rfl rfl rfl rfl (l_yLays _ X _ (hca2.le hq2) _ _) ?_
        refine er_goto rfl ?_
        refine ER_loc [(0, _)] rfl (List.forall_mem_cons.mpr ⟨rfl, fun _ h => absurd h List.not_mem_nil⟩) rfl rfl ?_
        rw [qL_inr hj h1]
        have hpk : pk (jm (X 64) 9) e p = nI 124 := h17
        rw [hpk]
        exact l_yL0 d X Z he he50 H Hle m (i + 1) s1.1 _ _ (by omega) (by have := Hle _ _ _ h1; omega) hq1 (wrC_le hq2) (hca2.wr (aOK_sg ok124) (cM_g ok124))
set_option maxRecDepth 100000 in
set_option maxHeartbeats 4000000 in
theorem l_yR0 (d : Nat) (X Z : Nat → Nat → Int32) {u op e p : Nat} {g : Nat → Nat → PS → PT} {f : PS → PT} (hf : g 1 op = f) (he : X 64 5 = nI e) (he50 : e ≤ 50) (H : ∀ (p : Nat) (s : Nat × (Nat → Int32)) (y : YS), p ≤ e → s.1 ≤ 50 → CA s y → EC (d + 1) 154 [.ref 63] (Wd X (QZ Z u op false p y)) (PY X Z u e op (f (p, s)))) (Hle : ∀ p s s', f (p, s) = .inr s' → p ≤ s'.1) (s : Nat × (Nat → Int32)) (y : YS) (hp : p ≤ e) (hs : s.1 ≤ 50) (hca : CA s y) : EC (d + 2) 153 [.ref 63] (Wd X (QZ Z u op false p y)) (PY X Z u e op (qR (jm (X 64) 9) e g 0 op (p, s))) := by
  subst hf
  refine er_enter (L := [(0, _)]) rfl rfl rfl ?_
  show ER _ _ _ _ _ _ (PY X Z u e op (match g 1 op (p, s) with | .inl x => .inl x | .inr s1 => qL (g 1 op) (jm (X 64) 9) e 0 50 s1))
  refine er_loc (pc' := 1) rfl rfl rfl ?_
  refine er_cIP (pc' := 4) (rest := []) 12 rfl rfl rfl rfl rfl rfl (H p s y hp hs hca) (fun r hr => ?_)
  cases h1 : g 1 op (p, s) with
  | inl x =>
    rw [h1] at hr
    obtain ⟨y2, hy2, hx2, rfl⟩ := hr
    refine ER_loc [(0, _)] rfl (List.forall_mem_cons.mpr ⟨rfl, fun _ h => absurd h List.not_mem_nil⟩) rfl rfl ?_
    exact l_yBad0 d X Z rfl hy2 hx2
  | inr s1 =>
    rw [h1] at hr
    obtain ⟨hq1, hq2, y2, hca2, rfl⟩ := hr
    refine ER_loc [(0, _)] rfl (List.forall_mem_cons.mpr ⟨rfl, fun _ h => absurd h List.not_mem_nil⟩) rfl rfl ?_
    exact l_yL0 d X Z he he50 H Hle 50 0 s1.1 s1.2 y2 (by omega) (by omega) hq1 hq2 hca2
set_option maxRecDepth 100000 in
set_option maxHeartbeats 4000000 in
theorem l_yBad1 (d : Nat) (X Z : Nat → Nat → Int32) {u op e x : Nat} {t : PT} {y : YS} (ht : t = .inl x) (hy : y.1 ≤ 50) (hx : x ≤ e) : ER (d + 1) tb_m154 4 [(0, .ref 63)] [] (Wd X (QZ Z u op true x y)) (PY X Z u e op t) := by
  refine er_loc (pc' := 5) rfl rfl rfl ?_
  refine er_gf (pc' := 8) (.int (bI true)) rfl rfl rfl rfl rfl ?_
  refine er_if_neT rfl (by decide +kernel) ?_
  refine er_vret rfl rfl ?_
  exact PY_inl ht hy hx
set_option maxRecDepth 100000 in
set_option maxHeartbeats 4000000 in
theorem l_yL1 (d : Nat) (X Z : Nat → Nat → Int32) {u op e : Nat} {f : PS → PT} (he : X 64 5 = nI e) (he50 : e ≤ 50) (H : ∀ (p : Nat) (s : Nat × (Nat → Int32)) (y : YS), p ≤ e → s.1 ≤ 50 → CA s y → EC (d + 1) 155 [.ref 63] (Wd X (QZ Z u op false p y)) (PY X Z u e op (f (p, s)))) (Hle : ∀ p s s', f (p, s) = .inr s' → p ≤ s'.1) : ∀ (m i p : Nat) (s : Nat × (Nat → Int32)) (y : YS), i + m = 50 → i ≤ p → p ≤ e → s.1 ≤ 50 → CA s y → ER (d + 1) tb_m154 4 [(0, .ref 63)] [] (Wd X (QZ Z u op false p y)) (PY X Z u e op (qL f (jm (X 64) 9) e 1 m (p, s)))
  | 0, i, p, s, y, hi, hip, hp, hs, hca => by
    refine er_loc (pc' := 5) rfl rfl rfl ?_
    refine er_gf (pc' := 8) (.int (bI false)) rfl rfl rfl rfl rfl ?_
    refine er_if_neF (pc' := 11) rfl (by decide +kernel) rfl ?_
    refine er_loc (pc' := 12) rfl rfl rfl ?_
    refine er_cIi (pc' := 15) (rest := []) 12 rfl rfl rfl rfl rfl rfl (l_yByte _ X _ he he50 hp) ?_
    rw [pk_end (show e ≤ p by omega)]
    refine er_k (pc' := 17) (nI 38) rfl rfl rfl ?_
    refine er_cm_neT rfl (by decide +kernel) ?_
    refine er_vret rfl rfl ?_
    exact PY_inr rfl hp hs hca
  | m + 1, i, p, s, y, hi, hip, hp, hs, hca => by
    refine er_loc (pc' := 5) rfl rfl rfl ?_
    refine er_gf (pc' := 8) (.int (bI false)) rfl rfl rfl rfl rfl ?_
    refine er_if_neF (pc' := 11) rfl (by decide +kernel) rfl ?_
    refine er_loc (pc' := 12) rfl rfl rfl ?_
    refine er_cIi (pc' := 15) (rest := []) 12 rfl rfl rfl rfl rfl rfl (l_yByte _ X _ he he50 hp) ?_
    refine er_k (pc' := 17) (nI 38) rfl rfl rfl ?_
    refine er_cm_ne (pc' := 20) rfl rfl (fun h17 => ?_) (fun h17 => ?_)
    · refine er_vret rfl rfl ?_
      have hj : ¬ jn2 1 (pk (jm (X 64) 9) e p) = true := by
        intro hh
        exact h17 (of_decide_eq_true hh)
      exact PY_inr (qL_no hj) hp hs hca
    · refine er_loc (pc' := 21) rfl rfl rfl ?_
      refine er_pure (pc' := 22) rfl rfl rfl ?_
      refine er_gf (pc' := 25) (.int (nI p)) rfl rfl rfl rfl rfl ?_
      refine er_k (pc' := 26) (nI 1) rfl rfl rfl ?_
      refine er_iadd (pc' := 27) rfl rfl ?_
      rw [nI_add p 1]
      refine er_pfIZ (pc' := 30) 10 rfl rfl rfl rfl rfl rfl ?_
      rw [QZ_p]
      refine er_loc (pc' := 31) rfl rfl rfl ?_
      have hj : jn2 1 (pk (jm (X 64) 9) e p) = true := decide_eq_true h17
      have hp1 := jn_lt (show 1 < 5 by omega) hj
      refine er_cIP (pc' := 34) (rest := []) 12 rfl rfl rfl rfl rfl rfl (H (p + 1) s y hp1 hs hca) (fun r hr => ?_)
      cases h1 : f (p + 1, s) with
      | inl x =>
        rw [h1] at hr
        obtain ⟨y2, hy2, hx2, rfl⟩ := hr
        refine er_loc (pc' := 35) rfl rfl rfl ?_
        refine er_k (pc' := 37) (nI 38) rfl rfl rfl ?_
        refine er_k (pc' := 38) (nI 0) rfl rfl rfl ?_
        refine er_cIn (pc' := 41) (rest := []) 12 rfl rfl rfl rfl rfl rfl (l_yLays _ X _ hy2 _ _) ?_
        refine er_goto rfl ?_
        refine ER_loc [(0, _)] rfl (List.forall_mem_cons.mpr ⟨rfl, fun _ h => absurd h List.not_mem_nil⟩) rfl rfl ?_
        exact l_yBad1 d X Z (qL_inl hj h1) (wrY_le hy2) hx2
      | inr s1 =>
        rw [h1] at hr
        obtain ⟨hq1, hq2, y2, hca2, rfl⟩ := hr
        refine er_loc (pc' := 35) rfl rfl rfl ?_
        refine er_k (pc' := 37) (nI 38) rfl rfl rfl ?_
        refine er_k (pc' := 38) (nI 0) rfl rfl rfl ?_
        refine er_cIn (pc' := 41) (rest := []) 12 rfl rfl rfl rfl rfl rfl (l_yLays _ X _ (hca2.le hq2) _ _) ?_
        refine er_goto rfl ?_
        refine ER_loc [(0, _)] rfl (List.forall_mem_cons.mpr ⟨rfl, fun _ h => absurd h List.not_mem_nil⟩) rfl rfl ?_
        rw [qL_inr hj h1]
        have hpk : pk (jm (X 64) 9) e p = nI 38 := h17
        rw [hpk]
        exact l_yL1 d X Z he he50 H Hle m (i + 1) s1.1 _ _ (by omega) (by have := Hle _ _ _ h1; omega) hq1 (wrC_le hq2) (hca2.wr (aOK_sg ok38) (cM_g ok38))
set_option maxRecDepth 100000 in
set_option maxHeartbeats 4000000 in
theorem l_yR1 (d : Nat) (X Z : Nat → Nat → Int32) {u op e p : Nat} {g : Nat → Nat → PS → PT} {f : PS → PT} (hf : g 2 op = f) (he : X 64 5 = nI e) (he50 : e ≤ 50) (H : ∀ (p : Nat) (s : Nat × (Nat → Int32)) (y : YS), p ≤ e → s.1 ≤ 50 → CA s y → EC (d + 1) 155 [.ref 63] (Wd X (QZ Z u op false p y)) (PY X Z u e op (f (p, s)))) (Hle : ∀ p s s', f (p, s) = .inr s' → p ≤ s'.1) (s : Nat × (Nat → Int32)) (y : YS) (hp : p ≤ e) (hs : s.1 ≤ 50) (hca : CA s y) : EC (d + 2) 154 [.ref 63] (Wd X (QZ Z u op false p y)) (PY X Z u e op (qR (jm (X 64) 9) e g 1 op (p, s))) := by
  subst hf
  refine er_enter (L := [(0, _)]) rfl rfl rfl ?_
  show ER _ _ _ _ _ _ (PY X Z u e op (match g 2 op (p, s) with | .inl x => .inl x | .inr s1 => qL (g 2 op) (jm (X 64) 9) e 1 50 s1))
  refine er_loc (pc' := 1) rfl rfl rfl ?_
  refine er_cIP (pc' := 4) (rest := []) 12 rfl rfl rfl rfl rfl rfl (H p s y hp hs hca) (fun r hr => ?_)
  cases h1 : g 2 op (p, s) with
  | inl x =>
    rw [h1] at hr
    obtain ⟨y2, hy2, hx2, rfl⟩ := hr
    refine ER_loc [(0, _)] rfl (List.forall_mem_cons.mpr ⟨rfl, fun _ h => absurd h List.not_mem_nil⟩) rfl rfl ?_
    exact l_yBad1 d X Z rfl hy2 hx2
  | inr s1 =>
    rw [h1] at hr
    obtain ⟨hq1, hq2, y2, hca2, rfl⟩ := hr
    refine ER_loc [(0, _)] rfl (List.forall_mem_cons.mpr ⟨rfl, fun _ h => absurd h List.not_mem_nil⟩) rfl rfl ?_
    exact l_yL1 d X Z he he50 H Hle 50 0 s1.1 s1.2 y2 (by omega) (by omega) hq1 hq2 hca2
set_option maxRecDepth 100000 in
set_option maxHeartbeats 4000000 in
theorem l_yBad3 (d : Nat) (X Z : Nat → Nat → Int32) {u op e x : Nat} {t : PT} {y : YS} (ht : t = .inl x) (hy : y.1 ≤ 50) (hx : x ≤ e) : ER (d + 1) tb_m156 4 [(0, .ref 63)] [] (Wd X (QZ Z u op true x y)) (PY X Z u e op t) := by
  refine er_loc (pc' := 5) rfl rfl rfl ?_
  refine er_gf (pc' := 8) (.int (bI true)) rfl rfl rfl rfl rfl ?_
  refine er_if_neT rfl (by decide +kernel) ?_
  refine er_vret rfl rfl ?_
  exact PY_inl ht hy hx
set_option maxRecDepth 100000 in
set_option maxHeartbeats 4000000 in
theorem l_yL3 (d : Nat) (X Z : Nat → Nat → Int32) {u op e : Nat} {f : PS → PT} (he : X 64 5 = nI e) (he50 : e ≤ 50) (H : ∀ (p : Nat) (s : Nat × (Nat → Int32)) (y : YS), p ≤ e → s.1 ≤ 50 → CA s y → EC (d + 1) 157 [.ref 63] (Wd X (QZ Z u op false p y)) (PY X Z u e op (f (p, s)))) (Hle : ∀ p s s', f (p, s) = .inr s' → p ≤ s'.1) : ∀ (m i p : Nat) (s : Nat × (Nat → Int32)) (y : YS), i + m = 50 → i ≤ p → p ≤ e → s.1 ≤ 50 → CA s y → ER (d + 1) tb_m156 4 [(0, .ref 63)] [] (Wd X (QZ Z u op false p y)) (PY X Z u e op (qL f (jm (X 64) 9) e 3 m (p, s)))
  | 0, i, p, s, y, hi, hip, hp, hs, hca => by
    refine er_loc (pc' := 5) rfl rfl rfl ?_
    refine er_gf (pc' := 8) (.int (bI false)) rfl rfl rfl rfl rfl ?_
    refine er_if_neF (pc' := 11) rfl (by decide +kernel) rfl ?_
    refine er_loc (pc' := 12) rfl rfl rfl ?_
    refine er_cIi (pc' := 15) (rest := []) 12 rfl rfl rfl rfl rfl rfl (l_yByte _ X _ he he50 hp) ?_
    rw [pk_end (show e ≤ p by omega)]
    refine er_k (pc' := 17) (nI 43) rfl rfl rfl ?_
    refine er_cm_eqF (pc' := 20) rfl (by decide +kernel) rfl ?_
    refine er_loc (pc' := 21) rfl rfl rfl ?_
    refine er_cIi (pc' := 24) (rest := []) 12 rfl rfl rfl rfl rfl rfl (l_yByte _ X _ he he50 hp) ?_
    rw [pk_end (show e ≤ p by omega)]
    refine er_k (pc' := 26) (nI 45) rfl rfl rfl ?_
    refine er_cm_neT rfl (by decide +kernel) ?_
    refine er_vret rfl rfl ?_
    exact PY_inr rfl hp hs hca
  | m + 1, i, p, s, y, hi, hip, hp, hs, hca => by
    refine er_loc (pc' := 5) rfl rfl rfl ?_
    refine er_gf (pc' := 8) (.int (bI false)) rfl rfl rfl rfl rfl ?_
    refine er_if_neF (pc' := 11) rfl (by decide +kernel) rfl ?_
    refine er_loc (pc' := 12) rfl rfl rfl ?_
    refine er_cIi (pc' := 15) (rest := []) 12 rfl rfl rfl rfl rfl rfl (l_yByte _ X _ he he50 hp) ?_
    refine er_k (pc' := 17) (nI 43) rfl rfl rfl ?_
    refine er_cm_eq (pc' := 20) rfl rfl (fun h17 => ?_) (fun h17 => ?_)
    · refine er_loc (pc' := 30) rfl rfl rfl ?_
      refine er_cIi (pc' := 33) (rest := []) 12 rfl rfl rfl rfl rfl rfl (l_yByte _ X _ he he50 hp) ?_
      refine er_loc (pc' := 34) (L' := [(1, _), (0, _)]) rfl rfl rfl ?_
      refine er_loc (pc' := 35) rfl rfl rfl ?_
      refine er_pure (pc' := 36) rfl rfl rfl ?_
      refine er_gf (pc' := 39) (.int (nI p)) rfl rfl rfl rfl rfl ?_
      refine er_k (pc' := 40) (nI 1) rfl rfl rfl ?_
      refine er_iadd (pc' := 41) rfl rfl ?_
      rw [nI_add p 1]
      refine er_pfIZ (pc' := 44) 10 rfl rfl rfl rfl rfl rfl ?_
      rw [QZ_p]
      refine er_loc (pc' := 45) rfl rfl rfl ?_
      have hj : jn2 3 (pk (jm (X 64) 9) e p) = true := Bool.or_eq_true_iff.mpr (Or.inl (decide_eq_true h17))
      have hp1 := jn_lt (show 3 < 5 by omega) hj
      refine er_cIP (pc' := 48) (rest := []) 12 rfl rfl rfl rfl rfl rfl (H (p + 1) s y hp1 hs hca) (fun r hr => ?_)
      cases h1 : f (p + 1, s) with
      | inl x =>
        rw [h1] at hr
        obtain ⟨y2, hy2, hx2, rfl⟩ := hr
        refine er_loc (pc' := 49) rfl rfl rfl ?_
        refine er_loc (pc' := 50) rfl rfl rfl ?_
        refine er_k (pc' := 51) (nI 0) rfl rfl rfl ?_
        refine er_cIn (pc' := 54) (rest := []) 12 rfl rfl rfl rfl rfl rfl (l_yLays _ X _ hy2 _ _) ?_
        refine er_goto rfl ?_
        refine ER_loc [(0, _)] rfl (List.forall_mem_cons.mpr ⟨rfl, fun _ h => absurd h List.not_mem_nil⟩) rfl rfl ?_
        exact l_yBad3 d X Z (qL_inl hj h1) (wrY_le hy2) hx2
      | inr s1 =>
        rw [h1] at hr
        obtain ⟨hq1, hq2, y2, hca2, rfl⟩ := hr
        refine er_loc (pc' := 49) rfl rfl rfl ?_
        refine er_loc (pc' := 50) rfl rfl rfl ?_
        refine er_k (pc' := 51) (nI 0) rfl rfl rfl ?_
        refine er_cIn (pc' := 54) (rest := []) 12 rfl rfl rfl rfl rfl rfl (l_yLays _ X _ (hca2.le hq2) _ _) ?_
        refine er_goto rfl ?_
        refine ER_loc [(0, _)] rfl (List.forall_mem_cons.mpr ⟨rfl, fun _ h => absurd h List.not_mem_nil⟩) rfl rfl ?_
        rw [qL_inr hj h1]
        exact l_yL3 d X Z he he50 H Hle m (i + 1) s1.1 _ _ (by omega) (by have := Hle _ _ _ h1; omega) hq1 (wrC_le hq2) (hca2.wr (aOK_sg (jn_ok (show 3 < 5 by omega) hj)) (cM_g (jn_ok (show 3 < 5 by omega) hj)))
    · refine er_loc (pc' := 21) rfl rfl rfl ?_
      refine er_cIi (pc' := 24) (rest := []) 12 rfl rfl rfl rfl rfl rfl (l_yByte _ X _ he he50 hp) ?_
      refine er_k (pc' := 26) (nI 45) rfl rfl rfl ?_
      refine er_cm_ne (pc' := 29) rfl rfl (fun h26 => ?_) (fun h26 => ?_)
      · refine er_vret rfl rfl ?_
        have hj : ¬ jn2 3 (pk (jm (X 64) 9) e p) = true := by
          intro hh
          rcases Bool.or_eq_true_iff.mp hh with hh | hh; exact h17 (of_decide_eq_true hh); exact h26 (of_decide_eq_true hh)
        exact PY_inr (qL_no hj) hp hs hca
      · refine er_loc (pc' := 30) rfl rfl rfl ?_
        refine er_cIi (pc' := 33) (rest := []) 12 rfl rfl rfl rfl rfl rfl (l_yByte _ X _ he he50 hp) ?_
        refine er_loc (pc' := 34) (L' := [(1, _), (0, _)]) rfl rfl rfl ?_
        refine er_loc (pc' := 35) rfl rfl rfl ?_
        refine er_pure (pc' := 36) rfl rfl rfl ?_
        refine er_gf (pc' := 39) (.int (nI p)) rfl rfl rfl rfl rfl ?_
        refine er_k (pc' := 40) (nI 1) rfl rfl rfl ?_
        refine er_iadd (pc' := 41) rfl rfl ?_
        rw [nI_add p 1]
        refine er_pfIZ (pc' := 44) 10 rfl rfl rfl rfl rfl rfl ?_
        rw [QZ_p]
        refine er_loc (pc' := 45) rfl rfl rfl ?_
        have hj : jn2 3 (pk (jm (X 64) 9) e p) = true := Bool.or_eq_true_iff.mpr (Or.inr (decide_eq_true h26))
        have hp1 := jn_lt (show 3 < 5 by omega) hj
        refine er_cIP (pc' := 48) (rest := []) 12 rfl rfl rfl rfl rfl rfl (H (p + 1) s y hp1 hs hca) (fun r hr => ?_)
        cases h1 : f (p + 1, s) with
        | inl x =>
          rw [h1] at hr
          obtain ⟨y2, hy2, hx2, rfl⟩ := hr
          refine er_loc (pc' := 49) rfl rfl rfl ?_
          refine er_loc (pc' := 50) rfl rfl rfl ?_
          refine er_k (pc' := 51) (nI 0) rfl rfl rfl ?_
          refine er_cIn (pc' := 54) (rest := []) 12 rfl rfl rfl rfl rfl rfl (l_yLays _ X _ hy2 _ _) ?_
          refine er_goto rfl ?_
          refine ER_loc [(0, _)] rfl (List.forall_mem_cons.mpr ⟨rfl, fun _ h => absurd h List.not_mem_nil⟩) rfl rfl ?_
          exact l_yBad3 d X Z (qL_inl hj h1) (wrY_le hy2) hx2
        | inr s1 =>
          rw [h1] at hr
          obtain ⟨hq1, hq2, y2, hca2, rfl⟩ := hr
          refine er_loc (pc' := 49) rfl rfl rfl ?_
          refine er_loc (pc' := 50) rfl rfl rfl ?_
          refine er_k (pc' := 51) (nI 0) rfl rfl rfl ?_
          refine er_cIn (pc' := 54) (rest := []) 12 rfl rfl rfl rfl rfl rfl (l_yLays _ X _ (hca2.le hq2) _ _) ?_
          refine er_goto rfl ?_
          refine ER_loc [(0, _)] rfl (List.forall_mem_cons.mpr ⟨rfl, fun _ h => absurd h List.not_mem_nil⟩) rfl rfl ?_
          rw [qL_inr hj h1]
          exact l_yL3 d X Z he he50 H Hle m (i + 1) s1.1 _ _ (by omega) (by have := Hle _ _ _ h1; omega) hq1 (wrC_le hq2) (hca2.wr (aOK_sg (jn_ok (show 3 < 5 by omega) hj)) (cM_g (jn_ok (show 3 < 5 by omega) hj)))
set_option maxRecDepth 100000 in
set_option maxHeartbeats 4000000 in
theorem l_yR3 (d : Nat) (X Z : Nat → Nat → Int32) {u op e p : Nat} {g : Nat → Nat → PS → PT} {f : PS → PT} (hf : g 4 op = f) (he : X 64 5 = nI e) (he50 : e ≤ 50) (H : ∀ (p : Nat) (s : Nat × (Nat → Int32)) (y : YS), p ≤ e → s.1 ≤ 50 → CA s y → EC (d + 1) 157 [.ref 63] (Wd X (QZ Z u op false p y)) (PY X Z u e op (f (p, s)))) (Hle : ∀ p s s', f (p, s) = .inr s' → p ≤ s'.1) (s : Nat × (Nat → Int32)) (y : YS) (hp : p ≤ e) (hs : s.1 ≤ 50) (hca : CA s y) : EC (d + 2) 156 [.ref 63] (Wd X (QZ Z u op false p y)) (PY X Z u e op (qR (jm (X 64) 9) e g 3 op (p, s))) := by
  subst hf
  refine er_enter (L := [(0, _)]) rfl rfl rfl ?_
  show ER _ _ _ _ _ _ (PY X Z u e op (match g 4 op (p, s) with | .inl x => .inl x | .inr s1 => qL (g 4 op) (jm (X 64) 9) e 3 50 s1))
  refine er_loc (pc' := 1) rfl rfl rfl ?_
  refine er_cIP (pc' := 4) (rest := []) 12 rfl rfl rfl rfl rfl rfl (H p s y hp hs hca) (fun r hr => ?_)
  cases h1 : g 4 op (p, s) with
  | inl x =>
    rw [h1] at hr
    obtain ⟨y2, hy2, hx2, rfl⟩ := hr
    refine ER_loc [(0, _)] rfl (List.forall_mem_cons.mpr ⟨rfl, fun _ h => absurd h List.not_mem_nil⟩) rfl rfl ?_
    exact l_yBad3 d X Z rfl hy2 hx2
  | inr s1 =>
    rw [h1] at hr
    obtain ⟨hq1, hq2, y2, hca2, rfl⟩ := hr
    refine ER_loc [(0, _)] rfl (List.forall_mem_cons.mpr ⟨rfl, fun _ h => absurd h List.not_mem_nil⟩) rfl rfl ?_
    exact l_yL3 d X Z he he50 H Hle 50 0 s1.1 s1.2 y2 (by omega) (by omega) hq1 hq2 hca2
set_option maxRecDepth 100000 in
set_option maxHeartbeats 4000000 in
theorem l_yBad4 (d : Nat) (X Z : Nat → Nat → Int32) {u op e x : Nat} {t : PT} {y : YS} (ht : t = .inl x) (hy : y.1 ≤ 50) (hx : x ≤ e) : ER (d + 1) tb_m157 4 [(0, .ref 63)] [] (Wd X (QZ Z u op true x y)) (PY X Z u e op t) := by
  refine er_loc (pc' := 5) rfl rfl rfl ?_
  refine er_gf (pc' := 8) (.int (bI true)) rfl rfl rfl rfl rfl ?_
  refine er_if_neT rfl (by decide +kernel) ?_
  refine er_vret rfl rfl ?_
  exact PY_inl ht hy hx
set_option maxRecDepth 100000 in
set_option maxHeartbeats 4000000 in
theorem l_yL4 (d : Nat) (X Z : Nat → Nat → Int32) {u op e : Nat} {f : PS → PT} (he : X 64 5 = nI e) (he50 : e ≤ 50) (H : ∀ (p : Nat) (s : Nat × (Nat → Int32)) (y : YS), p ≤ e → s.1 ≤ 50 → CA s y → EC (d + 1) 158 [.ref 63] (Wd X (QZ Z u op false p y)) (PY X Z u e op (f (p, s)))) (Hle : ∀ p s s', f (p, s) = .inr s' → p ≤ s'.1) : ∀ (m i p : Nat) (s : Nat × (Nat → Int32)) (y : YS), i + m = 50 → i ≤ p → p ≤ e → s.1 ≤ 50 → CA s y → ER (d + 1) tb_m157 4 [(0, .ref 63)] [] (Wd X (QZ Z u op false p y)) (PY X Z u e op (qL f (jm (X 64) 9) e 4 m (p, s)))
  | 0, i, p, s, y, hi, hip, hp, hs, hca => by
    refine er_loc (pc' := 5) rfl rfl rfl ?_
    refine er_gf (pc' := 8) (.int (bI false)) rfl rfl rfl rfl rfl ?_
    refine er_if_neF (pc' := 11) rfl (by decide +kernel) rfl ?_
    refine er_loc (pc' := 12) rfl rfl rfl ?_
    refine er_cIi (pc' := 15) (rest := []) 12 rfl rfl rfl rfl rfl rfl (l_yByte _ X _ he he50 hp) ?_
    rw [pk_end (show e ≤ p by omega)]
    refine er_k (pc' := 17) (nI 42) rfl rfl rfl ?_
    refine er_cm_eqF (pc' := 20) rfl (by decide +kernel) rfl ?_
    refine er_loc (pc' := 21) rfl rfl rfl ?_
    refine er_cIi (pc' := 24) (rest := []) 12 rfl rfl rfl rfl rfl rfl (l_yByte _ X _ he he50 hp) ?_
    rw [pk_end (show e ≤ p by omega)]
    refine er_k (pc' := 26) (nI 47) rfl rfl rfl ?_
    refine er_cm_eqF (pc' := 29) rfl (by decide +kernel) rfl ?_
    refine er_loc (pc' := 30) rfl rfl rfl ?_
    refine er_cIi (pc' := 33) (rest := []) 12 rfl rfl rfl rfl rfl rfl (l_yByte _ X _ he he50 hp) ?_
    rw [pk_end (show e ≤ p by omega)]
    refine er_k (pc' := 35) (nI 37) rfl rfl rfl ?_
    refine er_cm_neT rfl (by decide +kernel) ?_
    refine er_vret rfl rfl ?_
    exact PY_inr rfl hp hs hca
  | m + 1, i, p, s, y, hi, hip, hp, hs, hca => by
    refine er_loc (pc' := 5) rfl rfl rfl ?_
    refine er_gf (pc' := 8) (.int (bI false)) rfl rfl rfl rfl rfl ?_
    refine er_if_neF (pc' := 11) rfl (by decide +kernel) rfl ?_
    refine er_loc (pc' := 12) rfl rfl rfl ?_
    refine er_cIi (pc' := 15) (rest := []) 12 rfl rfl rfl rfl rfl rfl (l_yByte _ X _ he he50 hp) ?_
    refine er_k (pc' := 17) (nI 42) rfl rfl rfl ?_
    refine er_cm_eq (pc' := 20) rfl rfl (fun h17 => ?_) (fun h17 => ?_)
    · refine er_loc (pc' := 39) rfl rfl rfl ?_
      refine er_cIi (pc' := 42) (rest := []) 12 rfl rfl rfl rfl rfl rfl (l_yByte _ X _ he he50 hp) ?_
      refine er_loc (pc' := 43) (L' := [(1, _), (0, _)]) rfl rfl rfl ?_
      refine er_loc (pc' := 44) rfl rfl rfl ?_
      refine er_pure (pc' := 45) rfl rfl rfl ?_
      refine er_gf (pc' := 48) (.int (nI p)) rfl rfl rfl rfl rfl ?_
      refine er_k (pc' := 49) (nI 1) rfl rfl rfl ?_
      refine er_iadd (pc' := 50) rfl rfl ?_
      rw [nI_add p 1]
      refine er_pfIZ (pc' := 53) 10 rfl rfl rfl rfl rfl rfl ?_
      rw [QZ_p]
      refine er_loc (pc' := 54) rfl rfl rfl ?_
      have hj : jn2 4 (pk (jm (X 64) 9) e p) = true := Bool.or_eq_true_iff.mpr (Or.inl (decide_eq_true h17))
      have hp1 := jn_lt (show 4 < 5 by omega) hj
      refine er_cIP (pc' := 57) (rest := []) 12 rfl rfl rfl rfl rfl rfl (H (p + 1) s y hp1 hs hca) (fun r hr => ?_)
      cases h1 : f (p + 1, s) with
      | inl x =>
        rw [h1] at hr
        obtain ⟨y2, hy2, hx2, rfl⟩ := hr
        refine er_loc (pc' := 58) rfl rfl rfl ?_
        refine er_loc (pc' := 59) rfl rfl rfl ?_
        refine er_k (pc' := 60) (nI 0) rfl rfl rfl ?_
        refine er_cIn (pc' := 63) (rest := []) 12 rfl rfl rfl rfl rfl rfl (l_yLays _ X _ hy2 _ _) ?_
        refine er_goto rfl ?_
        refine ER_loc [(0, _)] rfl (List.forall_mem_cons.mpr ⟨rfl, fun _ h => absurd h List.not_mem_nil⟩) rfl rfl ?_
        exact l_yBad4 d X Z (qL_inl hj h1) (wrY_le hy2) hx2
      | inr s1 =>
        rw [h1] at hr
        obtain ⟨hq1, hq2, y2, hca2, rfl⟩ := hr
        refine er_loc (pc' := 58) rfl rfl rfl ?_
        refine er_loc (pc' := 59) rfl rfl rfl ?_
        refine er_k (pc' := 60) (nI 0) rfl rfl rfl ?_
        refine er_cIn (pc' := 63) (rest := []) 12 rfl rfl rfl rfl rfl rfl (l_yLays _ X _ (hca2.le hq2) _ _) ?_
        refine er_goto rfl ?_
        refine ER_loc [(0, _)] rfl (List.forall_mem_cons.mpr ⟨rfl, fun _ h => absurd h List.not_mem_nil⟩) rfl rfl ?_
        rw [qL_inr hj h1]
        exact l_yL4 d X Z he he50 H Hle m (i + 1) s1.1 _ _ (by omega) (by have := Hle _ _ _ h1; omega) hq1 (wrC_le hq2) (hca2.wr (aOK_sg (jn_ok (show 4 < 5 by omega) hj)) (cM_g (jn_ok (show 4 < 5 by omega) hj)))
    · refine er_loc (pc' := 21) rfl rfl rfl ?_
      refine er_cIi (pc' := 24) (rest := []) 12 rfl rfl rfl rfl rfl rfl (l_yByte _ X _ he he50 hp) ?_
      refine er_k (pc' := 26) (nI 47) rfl rfl rfl ?_
      refine er_cm_eq (pc' := 29) rfl rfl (fun h26 => ?_) (fun h26 => ?_)
      · refine er_loc (pc' := 39) rfl rfl rfl ?_
        refine er_cIi (pc' := 42) (rest := []) 12 rfl rfl rfl rfl rfl rfl (l_yByte _ X _ he he50 hp) ?_
        refine er_loc (pc' := 43) (L' := [(1, _), (0, _)]) rfl rfl rfl ?_
        refine er_loc (pc' := 44) rfl rfl rfl ?_
        refine er_pure (pc' := 45) rfl rfl rfl ?_
        refine er_gf (pc' := 48) (.int (nI p)) rfl rfl rfl rfl rfl ?_
        refine er_k (pc' := 49) (nI 1) rfl rfl rfl ?_
        refine er_iadd (pc' := 50) rfl rfl ?_
        rw [nI_add p 1]
        refine er_pfIZ (pc' := 53) 10 rfl rfl rfl rfl rfl rfl ?_
        rw [QZ_p]
        refine er_loc (pc' := 54) rfl rfl rfl ?_
        have hj : jn2 4 (pk (jm (X 64) 9) e p) = true := Bool.or_eq_true_iff.mpr (Or.inr (Bool.or_eq_true_iff.mpr (Or.inl (decide_eq_true h26))))
        have hp1 := jn_lt (show 4 < 5 by omega) hj
        refine er_cIP (pc' := 57) (rest := []) 12 rfl rfl rfl rfl rfl rfl (H (p + 1) s y hp1 hs hca) (fun r hr => ?_)
        cases h1 : f (p + 1, s) with
        | inl x =>
          rw [h1] at hr
          obtain ⟨y2, hy2, hx2, rfl⟩ := hr
          refine er_loc (pc' := 58) rfl rfl rfl ?_
          refine er_loc (pc' := 59) rfl rfl rfl ?_
          refine er_k (pc' := 60) (nI 0) rfl rfl rfl ?_
          refine er_cIn (pc' := 63) (rest := []) 12 rfl rfl rfl rfl rfl rfl (l_yLays _ X _ hy2 _ _) ?_
          refine er_goto rfl ?_
          refine ER_loc [(0, _)] rfl (List.forall_mem_cons.mpr ⟨rfl, fun _ h => absurd h List.not_mem_nil⟩) rfl rfl ?_
          exact l_yBad4 d X Z (qL_inl hj h1) (wrY_le hy2) hx2
        | inr s1 =>
          rw [h1] at hr
          obtain ⟨hq1, hq2, y2, hca2, rfl⟩ := hr
          refine er_loc (pc' := 58) rfl rfl rfl ?_
          refine er_loc (pc' := 59) rfl rfl rfl ?_
          refine er_k (pc' := 60) (nI 0) rfl rfl rfl ?_
          refine er_cIn (pc' := 63) (rest := []) 12 rfl rfl rfl rfl rfl rfl (l_yLays _ X _ (hca2.le hq2) _ _) ?_
          refine er_goto rfl ?_
          refine ER_loc [(0, _)] rfl (List.forall_mem_cons.mpr ⟨rfl, fun _ h => absurd h List.not_mem_nil⟩) rfl rfl ?_
          rw [qL_inr hj h1]
          exact l_yL4 d X Z he he50 H Hle m (i + 1) s1.1 _ _ (by omega) (by have := Hle _ _ _ h1; omega) hq1 (wrC_le hq2) (hca2.wr (aOK_sg (jn_ok (show 4 < 5 by omega) hj)) (cM_g (jn_ok (show 4 < 5 by omega) hj)))
      · refine er_loc (pc' := 30) rfl rfl rfl ?_
        refine er_cIi (pc' := 33) (rest := []) 12 rfl rfl rfl rfl rfl rfl (l_yByte _ X _ he he50 hp) ?_
        refine er_k (pc' := 35) (nI 37) rfl rfl rfl ?_
        refine er_cm_ne (pc' := 38) rfl rfl (fun h35 => ?_) (fun h35 => ?_)
        · refine er_vret rfl rfl ?_
          have hj : ¬ jn2 4 (pk (jm (X 64) 9) e p) = true := by
            intro hh
            rcases Bool.or_eq_true_iff.mp hh with hh | hh; exact h17 (of_decide_eq_true hh); rcases Bool.or_eq_true_iff.mp hh with hh | hh; exact h26 (of_decide_eq_true hh); exact h35 (of_decide_eq_true hh)
          exact PY_inr (qL_no hj) hp hs hca
        · refine er_loc (pc' := 39) rfl rfl rfl ?_
          refine er_cIi (pc' := 42) (rest := []) 12 rfl rfl rfl rfl rfl rfl (l_yByte _ X _ he he50 hp) ?_
          refine er_loc (pc' := 43) (L' := [(1, _), (0, _)]) rfl rfl rfl ?_
          refine er_loc (pc' := 44) rfl rfl rfl ?_
          refine er_pure (pc' := 45) rfl rfl rfl ?_
          refine er_gf (pc' := 48) (.int (nI p)) rfl rfl rfl rfl rfl ?_
          refine er_k (pc' := 49) (nI 1) rfl rfl rfl ?_
          refine er_iadd (pc' := 50) rfl rfl ?_
          rw [nI_add p 1]
          refine er_pfIZ (pc' := 53) 10 rfl rfl rfl rfl rfl rfl ?_
          rw [QZ_p]
          refine er_loc (pc' := 54) rfl rfl rfl ?_
          have hj : jn2 4 (pk (jm (X 64) 9) e p) = true := Bool.or_eq_true_iff.mpr (Or.inr (Bool.or_eq_true_iff.mpr (Or.inr (decide_eq_true h35))))
          have hp1 := jn_lt (show 4 < 5 by omega) hj
          refine er_cIP (pc' := 57) (rest := []) 12 rfl rfl rfl rfl rfl rfl (H (p + 1) s y hp1 hs hca) (fun r hr => ?_)
          cases h1 : f (p + 1, s) with
          | inl x =>
            rw [h1] at hr
            obtain ⟨y2, hy2, hx2, rfl⟩ := hr
            refine er_loc (pc' := 58) rfl rfl rfl ?_
            refine er_loc (pc' := 59) rfl rfl rfl ?_
            refine er_k (pc' := 60) (nI 0) rfl rfl rfl ?_
            refine er_cIn (pc' := 63) (rest := []) 12 rfl rfl rfl rfl rfl rfl (l_yLays _ X _ hy2 _ _) ?_
            refine er_goto rfl ?_
            refine ER_loc [(0, _)] rfl (List.forall_mem_cons.mpr ⟨rfl, fun _ h => absurd h List.not_mem_nil⟩) rfl rfl ?_
            exact l_yBad4 d X Z (qL_inl hj h1) (wrY_le hy2) hx2
          | inr s1 =>
            rw [h1] at hr
            obtain ⟨hq1, hq2, y2, hca2, rfl⟩ := hr
            refine er_loc (pc' := 58) rfl rfl rfl ?_
            refine er_loc (pc' := 59) rfl rfl rfl ?_
            refine er_k (pc' := 60) (nI 0) rfl rfl rfl ?_
            refine er_cIn (pc' := 63) (rest := []) 12 rfl rfl rfl rfl rfl rfl (l_yLays _ X _ (hca2.le hq2) _ _) ?_
            refine er_goto rfl ?_
            refine ER_loc [(0, _)] rfl (List.forall_mem_cons.mpr ⟨rfl, fun _ h => absurd h List.not_mem_nil⟩) rfl rfl ?_
            rw [qL_inr hj h1]
            exact l_yL4 d X Z he he50 H Hle m (i + 1) s1.1 _ _ (by omega) (by have := Hle _ _ _ h1; omega) hq1 (wrC_le hq2) (hca2.wr (aOK_sg (jn_ok (show 4 < 5 by omega) hj)) (cM_g (jn_ok (show 4 < 5 by omega) hj)))
set_option maxRecDepth 100000 in
set_option maxHeartbeats 4000000 in
theorem l_yR4 (d : Nat) (X Z : Nat → Nat → Int32) {u op e p : Nat} {g : Nat → Nat → PS → PT} {f : PS → PT} (hf : g 5 op = f) (he : X 64 5 = nI e) (he50 : e ≤ 50) (H : ∀ (p : Nat) (s : Nat × (Nat → Int32)) (y : YS), p ≤ e → s.1 ≤ 50 → CA s y → EC (d + 1) 158 [.ref 63] (Wd X (QZ Z u op false p y)) (PY X Z u e op (f (p, s)))) (Hle : ∀ p s s', f (p, s) = .inr s' → p ≤ s'.1) (s : Nat × (Nat → Int32)) (y : YS) (hp : p ≤ e) (hs : s.1 ≤ 50) (hca : CA s y) : EC (d + 2) 157 [.ref 63] (Wd X (QZ Z u op false p y)) (PY X Z u e op (qR (jm (X 64) 9) e g 4 op (p, s))) := by
  subst hf
  refine er_enter (L := [(0, _)]) rfl rfl rfl ?_
  show ER _ _ _ _ _ _ (PY X Z u e op (match g 5 op (p, s) with | .inl x => .inl x | .inr s1 => qL (g 5 op) (jm (X 64) 9) e 4 50 s1))
  refine er_loc (pc' := 1) rfl rfl rfl ?_
  refine er_cIP (pc' := 4) (rest := []) 12 rfl rfl rfl rfl rfl rfl (H p s y hp hs hca) (fun r hr => ?_)
  cases h1 : g 5 op (p, s) with
  | inl x =>
    rw [h1] at hr
    obtain ⟨y2, hy2, hx2, rfl⟩ := hr
    refine ER_loc [(0, _)] rfl (List.forall_mem_cons.mpr ⟨rfl, fun _ h => absurd h List.not_mem_nil⟩) rfl rfl ?_
    exact l_yBad4 d X Z rfl hy2 hx2
  | inr s1 =>
    rw [h1] at hr
    obtain ⟨hq1, hq2, y2, hca2, rfl⟩ := hr
    refine ER_loc [(0, _)] rfl (List.forall_mem_cons.mpr ⟨rfl, fun _ h => absurd h List.not_mem_nil⟩) rfl rfl ?_
    exact l_yL4 d X Z he he50 H Hle 50 0 s1.1 s1.2 y2 (by omega) (by omega) hq1 hq2 hca2
