/-! READING a text: what comes out is a good code -/
def WC1 (f : Nat → Int32) (i : Nat) : Prop := (¬ f i < -3 → sDp f i < 50) ∧ (f i = -33 → 1 ≤ sDp f i) ∧ (f i < -3 → f i ≠ -33 → 2 ≤ sDp f i)
def WQ (s : Nat × (Nat → Int32)) : Prop := ∀ i, i < s.1 → WC1 s.2 i
theorem wrC_at {s : Nat × (Nat → Int32)} {g : Int32} (h : s.1 < 50) : wrC s g = (s.1 + 1, u1 s.2 s.1 g) := if_pos h
theorem WQ_wr {s : Nat × (Nat → Int32)} {g : Int32} (h : s.1 < 50) (hs : WQ s) (h1 : g = -33 → 1 ≤ sDp s.2 s.1) (h2 : g < -3 → g ≠ -33 → 2 ≤ sDp s.2 s.1) : WQ (wrC s g) := by
  rw [wrC_at h]
  intro i hi
  have hi2 : i < s.1 + 1 := hi
  have ec : sDp (u1 s.2 s.1 g) i = sDp s.2 i := sDp_cong (fun k hk => u1_ne (by omega))
  show WC1 (u1 s.2 s.1 g) i
  unfold WC1
  rw [ec]
  by_cases c : i = s.1
  · subst c
    rw [u1_same]
    have := sDp_le s.2 s.1
    exact ⟨fun _ => by omega, h1, h2⟩
  · rw [u1_ne c]
    exact hs i (by omega)
theorem dp_wr {s : Nat × (Nat → Int32)} {g : Int32} (h : s.1 < 50) : sDp (wrC s g).2 (s.1 + 1) = if g < -3 then (if g = -33 then sDp s.2 s.1 else sDp s.2 s.1 - 1) else sDp s.2 s.1 + 1 := by
  rw [wrC_at h]
  show sDp (u1 s.2 s.1 g) (s.1 + 1) = _
  have ec : sDp (u1 s.2 s.1 g) s.1 = sDp s.2 s.1 := sDp_cong (fun k hk => u1_ne (by omega))
  by_cases c : g < -3
  · rw [if_pos c]
    by_cases c2 : g = -33
    · rw [if_pos c2, sDp_deny (by rw [u1_same]; exact c) (by rw [u1_same]; exact c2), ec]
    · rw [if_neg c2, sDp_join (by rw [u1_same]; exact c) (by rw [u1_same]; exact c2), ec]
  · rw [if_neg c, sDp_push (by rw [u1_same]; exact c), ec]
def WR (e p : Nat) (s : Nat × (Nat → Int32)) (k : Nat) (t : PT) : Prop := match t with
  | .inl f => f ≤ e
  | .inr s' => p ≤ s'.1 ∧ s'.1 ≤ e ∧ s'.2.1 + p ≤ s'.1 + s.1 ∧ WQ s'.2 ∧ sDp s'.2.2 s'.2.1 = sDp s.2 s.1 + k
theorem jn_sg {b : Int32} : ∀ rk, jn2 rk b = true → -b < -3 ∧ ¬ -b = -33
  | 0, h => by
    have e : b = nI 124 := of_decide_eq_true h
    subst e
    decide +kernel
  | 1, h => by
    have e : b = nI 38 := of_decide_eq_true h
    subst e
    decide +kernel
  | 2, h => by
    have e : (decide (b = nI 60) || (decide (b = nI 61) || decide (b = nI 62))) = true := h
    simp only [Bool.or_eq_true, decide_eq_true_eq] at e
    rcases e with e | e | e <;> subst e <;> decide +kernel
  | 3, h => by
    have e : (decide (b = nI 43) || decide (b = nI 45)) = true := h
    simp only [Bool.or_eq_true, decide_eq_true_eq] at e
    rcases e with e | e <;> subst e <;> decide +kernel
  | k + 4, h => by
    have e : (decide (b = nI 42) || (decide (b = nI 47) || decide (b = nI 37))) = true := h
    simp only [Bool.or_eq_true, decide_eq_true_eq] at e
    rcases e with e | e | e <;> subst e <;> decide +kernel
theorem nm_sg {u : Nat} {b : Int32} : ¬ -1 - nmQ u b < -3 := by
  unfold nmQ nmI
  split
  · decide +kernel
  · split
    · split
      · decide +kernel
      · split
        · decide +kernel
        · split <;> decide +kernel
    · split
      · decide +kernel
      · split
        · decide +kernel
        · split <;> decide +kernel
theorem dg_nI {tp : Nat → Int32} {e p : Nat} (ht : ∀ k, isN (tp k) 255) (h : dg (pk tp e p) = true) : ∃ c, 48 ≤ c ∧ c ≤ 57 ∧ pk tp e p = nI c := by
  have hp := dg_lt h
  have e1 : pk tp e p = tp p := if_pos (by omega)
  rw [e1] at h ⊢
  obtain ⟨h1, h2⟩ := ht p
  rw [h1] at h ⊢
  have e2 : (!decide (nI (nN (tp p)) < nI 48) && !decide (nI 57 < nI (nN (tp p)))) = true := h
  rw [Bool.and_eq_true] at e2
  obtain ⟨a, b⟩ := e2
  have a2 : ¬ nI (nN (tp p)) < nI 48 := by
    intro c
    rw [decide_eq_true c] at a
    cases a
  have b2 : ¬ nI 57 < nI (nN (tp p)) := by
    intro c
    rw [decide_eq_true c] at b
    cases b
  rw [nI_ltI (by omega) (by omega)] at a2 b2
  exact ⟨nN (tp p), by omega, by omega, rfl⟩
theorem pNum_v {tp : Nat → Int32} {e : Nat} (ht : ∀ k, isN (tp k) 255) : ∀ (m p a : Nat), a < 10000 → (a + 1) * 10 ^ m ≤ 10000 → p ≤ (pNum tp e m p (nI a)).1 ∧ ∃ q, q < 10000 ∧ (pNum tp e m p (nI a)).2 = nI q
  | 0, p, a, h, _ => ⟨Nat.le_refl p, a, h, rfl⟩
  | m + 1, p, a, h, h2 => by
    by_cases c : dg (pk tp e p) = true
    · obtain ⟨b, b1, b2, b3⟩ := dg_nI ht c
      have e1 : pNum tp e (m + 1) p (nI a) = pNum tp e m (p + 1) (nI (a * 10 + (b - 48))) := by
        show (if _ then _ else _) = _
        rw [if_pos c, b3, nI_mul, nI_add, nI_sub (by omega)]
        rw [show a * 10 + b - 48 = a * 10 + (b - 48) by omega]
      have h3 : (a * 10 + (b - 48) + 1) * 10 ^ m ≤ 10000 := by
        refine Nat.le_trans (Nat.mul_le_mul_right _ (show a * 10 + (b - 48) + 1 ≤ (a + 1) * 10 by omega)) ?_
        rw [Nat.pow_succ] at h2
        rw [Nat.mul_assoc, Nat.mul_comm 10]
        exact h2
      have h5 : a * 10 + (b - 48) + 1 ≤ 10000 := Nat.le_trans (Nat.le_mul_of_pos_right _ (Nat.pow_pos (by omega))) h3
      rw [e1]
      obtain ⟨g1, g2⟩ := pNum_v ht m (p + 1) (a * 10 + (b - 48)) (by omega) h3
      exact ⟨by omega, g2⟩
    · have e1 : pNum tp e (m + 1) p (nI a) = (p, nI a) := by
        show (if _ then _ else _) = _
        rw [if_neg c]
      rw [e1]
      exact ⟨Nat.le_refl p, a, h, rfl⟩
theorem WR_num {tp : Nat → Int32} {e p : Nat} {s : Nat × (Nat → Int32)} (ht : ∀ k, isN (tp k) 255) (he50 : e ≤ 50) (hpe : p ≤ e) (hs : s.1 ≤ p) (hw : WQ s) (h : dg (pk tp e p) = true) : WR e p s 1 (.inr ((pNum tp e 4 p (nI 0)).1, wrC s (pNum tp e 4 p (nI 0)).2)) := by
  obtain ⟨b, b1, b2, b3⟩ := dg_nI ht h
  have hp := dg_lt h
  have e1 : pNum tp e 4 p (nI 0) = pNum tp e 3 (p + 1) (nI (b - 48)) := by
    show (if _ then _ else _) = _
    rw [if_pos h, b3, nI_mul, nI_add, nI_sub (by omega)]
    rw [show 0 * 10 + b - 48 = b - 48 by omega]
  have hle := pNum_le (tp := tp) 4 p (nI 0) hpe
  rw [e1] at hle ⊢
  obtain ⟨g1, q, g2, g3⟩ := pNum_v (tp := tp) (e := e) ht 3 (p + 1) (b - 48) (by omega) (by omega)
  rw [g3]
  have n1 : ¬ nI q < -3 := fun c => nI_pos (n := q) (by omega) (Int32.lt_trans c (by decide +kernel))
  have n2 : ¬ nI q = -33 := fun c => n1 (by rw [c]; decide +kernel)
  have h50 : s.1 < 50 := by omega
  refine ⟨by omega, hle, ?_, WQ_wr h50 hw (fun c => absurd c n2) (fun c => absurd c n1), ?_⟩
  · rw [wrC_at h50]; show s.1 + 1 + p ≤ _ + s.1; omega
  · have e5 := dp_wr (g := nI q) h50
    rw [if_neg n1] at e5
    rw [show (wrC s (nI q)).1 = s.1 + 1 by rw [wrC_at h50]]
    exact e5
theorem WR_nm {e p u : Nat} {b : Int32} {s : Nat × (Nat → Int32)} (he50 : e ≤ 50) (hpe : p + 1 ≤ e) (hs : s.1 ≤ p) (hw : WQ s) : WR e p s 1 (.inr (p + 1, wrC s (-1 - nmQ u b))) := by
  have n1 : ¬ -1 - nmQ u b < -3 := nm_sg
  have n2 : ¬ -1 - nmQ u b = -33 := fun c => n1 (by rw [c]; decide +kernel)
  have h50 : s.1 < 50 := by omega
  refine ⟨by show p ≤ p + 1; omega, hpe, ?_, WQ_wr h50 hw (fun c => absurd c n2) (fun c => absurd c n1), ?_⟩
  · rw [wrC_at h50]; show s.1 + 1 + p ≤ p + 1 + s.1; omega
  · have e5 := dp_wr (g := -1 - nmQ u b) h50
    rw [if_neg n1] at e5
    rw [show (wrC s (-1 - nmQ u b)).1 = s.1 + 1 by rw [wrC_at h50]]
    exact e5
theorem WR_not {e p : Nat} {s : Nat × (Nat → Int32)} {s' : PS} (he50 : e ≤ 50) (hs : s.1 ≤ p) (h : WR e (p + 1) s 1 (.inr s')) : WR e p s 1 (.inr (s'.1, wrC s'.2 (-33))) := by
  obtain ⟨h1, h2, h3, h4, h5⟩ := h
  have h50 : s'.2.1 < 50 := by omega
  refine ⟨by show p ≤ s'.1; omega, h2, ?_, WQ_wr h50 h4 (fun _ => by omega) (fun _ c => absurd rfl c), ?_⟩
  · rw [wrC_at h50]; show s'.2.1 + 1 + p ≤ s'.1 + s.1; omega
  · have e5 := dp_wr (g := -33) h50
    rw [if_pos (by decide +kernel), if_pos rfl] at e5
    rw [show (wrC s'.2 (-33)).1 = s'.2.1 + 1 by rw [wrC_at h50]]
    rw [e5, h5]
theorem WR_qL {f : PS → PT} {tp : Nat → Int32} {e rk : Nat} (hrk : rk < 5) (he50 : e ≤ 50) (H : ∀ p s, p ≤ e → s.1 ≤ p → WQ s → WR e p s 1 (f (p, s))) : ∀ (m p : Nat) (s : Nat × (Nat → Int32)), p ≤ e → s.1 ≤ p → WQ s → 1 ≤ sDp s.2 s.1 → WR e p s 0 (qL f tp e rk m (p, s))
  | 0, p, s, hp, hs, hw, hd => ⟨Nat.le_refl p, hp, by show s.1 + p ≤ p + s.1; omega, hw, rfl⟩
  | m + 1, p, s, hp, hs, hw, hd => by
    by_cases c : jn2 rk (pk tp e p) = true
    · have hp1 := jn_lt hrk c
      have hh := H (p + 1) s hp1 (by omega) hw
      cases h1 : f (p + 1, s) with
      | inl a => rw [h1] at hh; rw [qL_inl c h1]; exact hh
      | inr a =>
        rw [h1] at hh
        rw [qL_inr c h1]
        obtain ⟨g1, g2, g3, g4, g5⟩ := hh
        obtain ⟨n1, n2⟩ := jn_sg rk c
        have h50 : a.2.1 < 50 := by omega
        have e1 : (wrC a.2 (-(pk tp e p))).1 = a.2.1 + 1 := by rw [wrC_at h50]
        have e5 := dp_wr (g := -(pk tp e p)) h50
        rw [if_pos n1, if_neg n2, g5, ← e1] at e5
        have ih := WR_qL (tp := tp) hrk he50 H m a.1 (wrC a.2 (-(pk tp e p))) g2 (by omega) (WQ_wr h50 g4 (fun c => absurd c n2) (fun _ _ => by omega)) (by omega)
        cases h2 : qL f tp e rk m (a.1, wrC a.2 (-(pk tp e p))) with
        | inl b => rw [h2] at ih; exact ih
        | inr b =>
          rw [h2] at ih
          obtain ⟨k1, k2, k3, k4, k5⟩ := ih
          exact ⟨by omega, k2, by omega, k4, by omega⟩
    · rw [qL_no c]
      exact ⟨Nat.le_refl p, hp, by show s.1 + p ≤ p + s.1; omega, hw, rfl⟩
theorem WR_qR {f : Nat → Nat → PS → PT} {tp : Nat → Int32} {e rk op : Nat} (hrk : rk < 5) (he50 : e ≤ 50) (H : ∀ p s, p ≤ e → s.1 ≤ p → WQ s → WR e p s 1 (f (rk + 1) op (p, s))) (p : Nat) (s : Nat × (Nat → Int32)) (hp : p ≤ e) (hs : s.1 ≤ p) (hw : WQ s) : WR e p s 1 (qR tp e f rk op (p, s)) := by
  have hh := H p s hp hs hw
  unfold qR
  cases h1 : f (rk + 1) op (p, s) with
  | inl a => rw [h1] at hh; exact hh
  | inr a =>
    rw [h1] at hh
    obtain ⟨g1, g2, g3, g4, g5⟩ := hh
    have ih := WR_qL (tp := tp) hrk he50 H (if rk = 2 then 1 else 50) a.1 a.2 g2 (by omega) g4 (by omega)
    show WR e p s 1 (qL (f (rk + 1) op) tp e rk (if rk = 2 then 1 else 50) (a.1, a.2))
    cases h2 : qL (f (rk + 1) op) tp e rk (if rk = 2 then 1 else 50) (a.1, a.2) with
    | inl b => rw [h2] at ih; exact ih
    | inr b =>
      rw [h2] at ih
      obtain ⟨k1, k2, k3, k4, k5⟩ := ih
      exact ⟨by omega, k2, by omega, k4, by omega⟩
theorem WR_qP {f : Nat → Nat → PS → PT} {tp : Nat → Int32} {e u op : Nat} (ht : ∀ k, isN (tp k) 255) (he50 : e ≤ 50) (H : ∀ rk p s, p ≤ e → s.1 ≤ p → WQ s → WR e p s 1 (f rk (op + 1) (p, s))) (p : Nat) (s : Nat × (Nat → Int32)) (hp : p ≤ e) (hs : s.1 ≤ p) (hw : WQ s) : WR e p s 1 (qP tp e u f op (p, s)) := by
  unfold qP
  by_cases c1 : dg (pk tp e p) = true
  · rw [if_pos c1]
    exact WR_num ht he50 hp hs hw c1
  rw [if_neg c1]
  by_cases c2 : ¬ nmQ u (pk tp e p) < 0
  · rw [if_pos c2]
    exact WR_nm he50 (pk_isN ht (fun c => c2 (by rw [show nmQ u (pk tp e p) = -1 from if_pos c]; decide +kernel))).2 hs hw
  rw [if_neg c2]
  by_cases c3 : pk tp e p = nI 33 ∧ op < 5
  · rw [if_pos c3]
    have hp1 := pkq_lt c3.1 (by decide +kernel)
    have hh := H 5 (p + 1) s hp1 (by omega) hw
    cases h1 : f 5 (op + 1) (p + 1, s) with
    | inl a => rw [h1] at hh; exact hh
    | inr a => rw [h1] at hh; exact WR_not he50 hs hh
  rw [if_neg c3]
  by_cases c4 : pk tp e p = nI 40 ∧ op < 5
  · rw [if_pos c4]
    have hp1 := pkq_lt c4.1 (by decide +kernel)
    have hh := H 0 (p + 1) s hp1 (by omega) hw
    cases h1 : f 0 (op + 1) (p + 1, s) with
    | inl a => rw [h1] at hh; exact hh
    | inr a =>
      rw [h1] at hh
      obtain ⟨g1, g2, g3, g4, g5⟩ := hh
      show WR e p s 1 (if pk tp e a.1 = nI 41 then _ else _)
      by_cases c5 : pk tp e a.1 = nI 41
      · rw [if_pos c5]
        have := pkq_lt c5 (by decide +kernel)
        exact ⟨by show p ≤ a.1 + 1; omega, by show a.1 + 1 ≤ e; omega, by show a.2.1 + p ≤ a.1 + 1 + s.1; omega, g4, g5⟩
      · rw [if_neg c5]
        exact g2
  rw [if_neg c4]
  exact hp
theorem WR_qq {tp : Nat → Int32} {e u : Nat} (ht : ∀ k, isN (tp k) 255) (he50 : e ≤ 50) : ∀ (F rk op p : Nat) (s : Nat × (Nat → Int32)), p ≤ e → s.1 ≤ p → WQ s → WR e p s 1 (qq tp e u F rk op (p, s))
  | 0, rk, op, p, s, hp, hs, hw => hp
  | F + 1, rk, op, p, s, hp, hs, hw => by
    have ih : ∀ rk op p s, p ≤ e → s.1 ≤ p → WQ s → WR e p s 1 (qq tp e u F rk op (p, s)) := WR_qq ht he50 F
    by_cases c : rk < 5
    · rw [qq_R c]
      exact WR_qR c he50 (fun p s h1 h2 h3 => ih (rk + 1) op p s h1 h2 h3) p s hp hs hw
    · have e1 : qq tp e u (F + 1) rk op (p, s) = qP tp e u (qq tp e u F) op (p, s) := by
        unfold qq
        rw [itF_succ]
        exact if_neg c
      rw [e1]
      exact WR_qP ht he50 (fun rk p s h1 h2 h3 => ih rk (op + 1) p s h1 h2 h3) p s hp hs hw
theorem sTx_wf {X : Nat → Nat → Int32} {u f : Nat} (ht : ∀ k, isN (X 20 k) 255) (hf50 : f ≤ 50) : match sTx X u f with
    | .inl y => y ≤ f
    | .inr s => s.1 ≤ f ∧ s.2.1 ≤ 50 ∧ wfC s.2.2 s.2.1 := by
  have h := WR_qq (u := u) ht hf50 36 0 0 0 (0, fun _ => 0) (Nat.zero_le f) (Nat.le_refl 0) (fun i hi => absurd hi (Nat.not_lt_zero i))
  unfold sTx
  cases h1 : qq (X 20) f u 36 0 0 (0, (0, fun _ => 0)) with
  | inl y => rw [h1] at h; exact h
  | inr s =>
    rw [h1] at h
    obtain ⟨g1, g2, g3, g4, g5⟩ := h
    have g6 : s.2.1 + 0 ≤ s.1 + 0 := g3
    exact ⟨g2, by omega, by omega, fun _ => g5, g4⟩
