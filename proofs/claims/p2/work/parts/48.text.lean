/-! READING a text: the method, and that what lay on the code before does not matter -/
def AG (s s' : Nat × (Nat → Int32)) : Prop := s.1 = s'.1 ∧ ∀ k, k < s.1 → s.2 k = s'.2 k
theorem AG_wr {s s' : Nat × (Nat → Int32)} {g : Int32} (h : AG s s') : AG (wrC s g) (wrC s' g) := by
  obtain ⟨h1, h2⟩ := h
  unfold wrC
  by_cases c : s.1 < 50
  · rw [if_pos c, if_pos (by omega)]
    refine ⟨by show s.1 + 1 = s'.1 + 1; omega, fun k hk => ?_⟩
    show u1 s.2 s.1 g k = u1 s'.2 s'.1 g k
    rw [← h1]
    unfold u1
    split
    · rfl
    · rename_i hne
      refine h2 k ?_
      have hk2 : k < s.1 + 1 := hk
      omega
  · rw [if_neg c, if_neg (by omega)]
    exact ⟨h1, h2⟩
def AGT (t t' : PT) : Prop := match t, t' with
  | .inl a, .inl b => a = b
  | .inr s, .inr s' => s.1 = s'.1 ∧ AG s.2 s'.2
  | _, _ => False
theorem AG_qL {f : PS → PT} {tp : Nat → Int32} {e rk : Nat} (H : ∀ p s s', AG s s' → AGT (f (p, s)) (f (p, s'))) : ∀ (m p : Nat) (s s' : Nat × (Nat → Int32)), AG s s' → AGT (qL f tp e rk m (p, s)) (qL f tp e rk m (p, s'))
  | 0, p, s, s', h => ⟨rfl, h⟩
  | m + 1, p, s, s', h => by
    by_cases c : jn2 rk (pk tp e p) = true
    · have hh := H (p + 1) s s' h
      cases h1 : f (p + 1, s) with
      | inl a =>
        cases h2 : f (p + 1, s') with
        | inl b => rw [h1, h2] at hh; rw [qL_inl c h1, qL_inl c h2]; exact hh
        | inr b => rw [h1, h2] at hh; exact False.elim hh
      | inr a =>
        cases h2 : f (p + 1, s') with
        | inl b => rw [h1, h2] at hh; exact False.elim hh
        | inr b =>
          rw [h1, h2] at hh
          obtain ⟨e1, e2⟩ := hh
          rw [qL_inr c h1, qL_inr c h2, e1]
          exact AG_qL H m _ _ _ (AG_wr e2)
    · rw [qL_no c, qL_no c]
      exact ⟨rfl, h⟩
theorem AG_qR {f : Nat → Nat → PS → PT} {tp : Nat → Int32} {e rk op : Nat} (H : ∀ rk op p s s', AG s s' → AGT (f rk op (p, s)) (f rk op (p, s'))) (p : Nat) (s s' : Nat × (Nat → Int32)) (h : AG s s') : AGT (qR tp e f rk op (p, s)) (qR tp e f rk op (p, s')) := by
  have hh := H (rk + 1) op p s s' h
  unfold qR
  cases h1 : f (rk + 1) op (p, s) with
  | inl a =>
    cases h2 : f (rk + 1) op (p, s') with
    | inl b => rw [h1, h2] at hh; exact hh
    | inr b => rw [h1, h2] at hh; exact False.elim hh
  | inr a =>
    cases h2 : f (rk + 1) op (p, s') with
    | inl b => rw [h1, h2] at hh; exact False.elim hh
    | inr b =>
      rw [h1, h2] at hh
      obtain ⟨e1, e2⟩ := hh
      obtain ⟨a1, a2⟩ := a
      obtain ⟨b1, b2⟩ := b
      have e3 : a1 = b1 := e1
      subst e3
      exact AG_qL (fun p s s' h => H (rk + 1) op p s s' h) _ _ _ _ e2
theorem AG_qP {f : Nat → Nat → PS → PT} {tp : Nat → Int32} {e u op : Nat} (H : ∀ rk op p s s', AG s s' → AGT (f rk op (p, s)) (f rk op (p, s'))) (p : Nat) (s s' : Nat × (Nat → Int32)) (h : AG s s') : AGT (qP tp e u f op (p, s)) (qP tp e u f op (p, s')) := by
  unfold qP
  by_cases c1 : dg (pk tp e p) = true
  · rw [if_pos c1, if_pos c1]
    exact ⟨rfl, AG_wr h⟩
  rw [if_neg c1, if_neg c1]
  by_cases c2 : ¬ nmQ u (pk tp e p) < 0
  · rw [if_pos c2, if_pos c2]
    exact ⟨rfl, AG_wr h⟩
  rw [if_neg c2, if_neg c2]
  by_cases c3 : pk tp e p = nI 33 ∧ op < 5
  · rw [if_pos c3, if_pos c3]
    have hh := H 5 (op + 1) (p + 1) s s' h
    cases h1 : f 5 (op + 1) (p + 1, s) with
    | inl a =>
      cases h2 : f 5 (op + 1) (p + 1, s') with
      | inl b => rw [h1, h2] at hh; exact hh
      | inr b => rw [h1, h2] at hh; exact False.elim hh
    | inr a =>
      cases h2 : f 5 (op + 1) (p + 1, s') with
      | inl b => rw [h1, h2] at hh; exact False.elim hh
      | inr b =>
        rw [h1, h2] at hh
        exact ⟨hh.1, AG_wr hh.2⟩
  rw [if_neg c3, if_neg c3]
  by_cases c4 : pk tp e p = nI 40 ∧ op < 5
  · rw [if_pos c4, if_pos c4]
    have hh := H 0 (op + 1) (p + 1) s s' h
    cases h1 : f 0 (op + 1) (p + 1, s) with
    | inl a =>
      cases h2 : f 0 (op + 1) (p + 1, s') with
      | inl b => rw [h1, h2] at hh; exact hh
      | inr b => rw [h1, h2] at hh; exact False.elim hh
    | inr a =>
      cases h2 : f 0 (op + 1) (p + 1, s') with
      | inl b => rw [h1, h2] at hh; exact False.elim hh
      | inr b =>
        rw [h1, h2] at hh
        obtain ⟨e1, e2⟩ := hh
        show AGT (if pk tp e a.1 = nI 41 then _ else _) (if pk tp e b.1 = nI 41 then _ else _)
        rw [e1]
        by_cases c5 : pk tp e b.1 = nI 41
        · rw [if_pos c5, if_pos c5]
          exact ⟨rfl, e2⟩
        · rw [if_neg c5, if_neg c5]
          rfl
  rw [if_neg c4, if_neg c4]
  rfl
theorem AG_qq {tp : Nat → Int32} {e u : Nat} : ∀ (F rk op p : Nat) (s s' : Nat × (Nat → Int32)), AG s s' → AGT (qq tp e u F rk op (p, s)) (qq tp e u F rk op (p, s'))
  | 0, rk, op, p, s, s', h => rfl
  | F + 1, rk, op, p, s, s', h => by
    have ih : ∀ rk op p s s', AG s s' → AGT (qq tp e u F rk op (p, s)) (qq tp e u F rk op (p, s')) := AG_qq F
    by_cases c : rk < 5
    · rw [qq_R c, qq_R c]
      exact AG_qR ih p s s' h
    · have e1 : ∀ s, qq tp e u (F + 1) rk op (p, s) = qP tp e u (qq tp e u F) op (p, s) := by
        intro s
        unfold qq
        rw [itF_succ]
        exact if_neg c
      rw [e1, e1]
      exact AG_qP ih p s s' h
theorem xHold_ag {X : Nat → Nat → Int32} {t : Nat} {s s' : Nat × (Nat → Int32)} (h : AG s s') : xHold X t s.2 s.1 = xHold X t s'.2 s'.1 := by
  obtain ⟨h1, h2⟩ := h
  unfold xHold
  rw [← h1]
  have e : cpf s.2 (X (t + 1)) 0 0 s.1 = cpf s'.2 (X (t + 1)) 0 0 s.1 := by
    funext i
    unfold cpf
    split
    · rename_i c
      exact h2 _ (by omega)
    · rfl
  rw [e]
def sTx (X : Nat → Nat → Int32) (u f : Nat) : PT := qq (X 20) f u 36 0 0 (0, (0, fun _ => 0))
set_option maxRecDepth 100000 in
set_option maxHeartbeats 4000000 in
theorem l_text_no (d : Nat) (X Z : Nat → Nat → Int32) (u : Int32) (hu : sUse u = false) : EC (d + 3) 88 [.ref 0, .int u] (Wd X Z) (RI (sErr 1) (xErr X 1)) := by
  refine er_enter (L := [(0, _), (1, _)]) rfl rfl rfl ?_
  refine er_loc (pc' := 1) rfl rfl rfl ?_
  refine er_cSi (pc' := 4) (rest := []) rfl rfl rfl (l_isUse _ _ _) ?_
  rw [hu]
  refine er_if_neF (pc' := 7) rfl (by decide +kernel) rfl ?_
  refine er_loc (pc' := 8) rfl rfl rfl ?_
  refine er_k (pc' := 9) (nI 1) rfl rfl rfl ?_
  refine er_cIz (pc' := 12) (rest := []) 11 rfl rfl rfl rfl rfl rfl (l_error _ _ _ 1 (by decide)) ?_
  intro Z9
  refine er_iret rfl rfl ?_
  exact RI_of rfl rfl
set_option maxRecDepth 100000 in
set_option maxHeartbeats 4000000 in
theorem l_text0 (d : Nat) (X Z : Nat → Nat → Int32) {f : Nat} (hf : X 9 14 = nI f) (hf50 : f ≤ 50) (ht : ∀ k, isN (X 20 k) 255) : EC (d + 81) 88 [.ref 0, .int (nI 0)] (Wd X Z) (fun r => match sTx X 0 f with | .inl y => RI (-10 - nI y) (ud X 9 14 (nI 0)) r | .inr s2 => if s2.1 < f then RI (-10 - nI s2.1) (ud X 9 14 (nI 0)) r else RI (nI 1) (xHold (ud X 9 14 (nI 0)) 14 s2.2.2 s2.2.1) r) := by
  refine er_enter (L := [(0, _), (1, _)]) rfl rfl rfl ?_
  refine er_loc (pc' := 1) rfl rfl rfl ?_
  refine er_cSi (pc' := 4) (rest := []) rfl rfl rfl (l_isUse _ _ _) ?_
  rw [show sUse (nI 0) = true from by decide +kernel]
  refine er_if_neT rfl (by decide +kernel) ?_
  refine er_loc (pc' := 14) rfl rfl rfl ?_
  refine er_gf (pc' := 17) (_) rfl rfl rfl rfl rfl ?_
  refine er_loc (pc' := 18) rfl rfl rfl ?_
  refine er_gf (pc' := 21) (_) rfl rfl rfl rfl rfl ?_
  refine er_gf (pc' := 24) (_) rfl rfl rfl rfl rfl ?_
  refine er_loc (pc' := 25) rfl rfl rfl ?_
  refine er_gf (pc' := 28) (_) rfl rfl rfl rfl rfl ?_
  refine er_gf (pc' := 31) (_) rfl rfl rfl rfl rfl ?_
  rw [hf]
  refine er_loc (pc' := 32) rfl rfl rfl ?_
  refine er_if_neF (pc' := 35) rfl (by decide +kernel) rfl ?_
  refine er_ldcR (pc' := 37) 1000101 rfl rfl rfl rfl ?_
  refine er_goto rfl ?_
  refine er_cI (pc' := 45) (rest := []) 9 rfl rfl rfl rfl rfl rfl (l_read0 d X Z (e := f) ht hf50) (fun r hr => ?_)
  have ag : AGT (qq (X 20) f 0 36 0 0 (0, (0, Z 50))) (sTx X 0 f) := AG_qq 36 0 0 0 _ _ ⟨rfl, fun k hk => absurd hk (Nat.not_lt_zero k)⟩
  cases h1 : qq (X 20) f 0 36 0 0 (0, (0, Z 50)) with
  | inl y =>
    rw [h1] at hr ag
    obtain ⟨s', g1, rfl⟩ := hr
    cases h2 : sTx X 0 f with
    | inr y2 => rw [h2] at ag; exact False.elim ag
    | inl y2 =>
      rw [h2] at ag
      have ag2 : y = y2 := ag
      subst ag2
      change ER _ _ _ _ [.int (nI y)] (Wd X (RZ Z 0 f y true s')) _
      refine er_loc (pc' := 46) (L' := [(2, _), (0, _), (1, _)]) rfl rfl rfl ?_
      refine er_loc (pc' := 47) rfl rfl rfl ?_
      refine er_gf (pc' := 50) (_) rfl rfl rfl rfl rfl ?_
      refine er_k (pc' := 51) (nI 0) rfl rfl rfl ?_
      refine er_pfIX (pc' := 54) 14 rfl rfl rfl rfl rfl rfl ?_
      refine er_loc (pc' := 55) rfl rfl rfl ?_
      refine er_if_ltF (pc' := 58) rfl (nI_pos (by omega)) rfl ?_
      refine er_k (pc' := 60) (-10) rfl rfl rfl ?_
      refine er_loc (pc' := 61) rfl rfl rfl ?_
      refine er_isub (pc' := 62) rfl rfl ?_
      refine er_iret rfl rfl ?_
      exact RI_of rfl rfl
  | inr s' =>
    rw [h1] at hr ag
    obtain ⟨g1, g2, rfl⟩ := hr
    cases h2 : sTx X 0 f with
    | inl y2 => rw [h2] at ag; exact False.elim ag
    | inr s2 =>
      rw [h2] at ag
      obtain ⟨a1, a2⟩ := ag
      change ER _ _ _ _ [.int (if s'.1 < f then nI s'.1 else -1)] (Wd X (RZ Z 0 f s'.1 false s'.2)) _
      by_cases hlt : s'.1 < f
      · rw [if_pos hlt]
        refine er_loc (pc' := 46) (L' := [(2, _), (0, _), (1, _)]) rfl rfl rfl ?_
        refine er_loc (pc' := 47) rfl rfl rfl ?_
        refine er_gf (pc' := 50) (_) rfl rfl rfl rfl rfl ?_
        refine er_k (pc' := 51) (nI 0) rfl rfl rfl ?_
        refine er_pfIX (pc' := 54) 14 rfl rfl rfl rfl rfl rfl ?_
        refine er_loc (pc' := 55) rfl rfl rfl ?_
        refine er_if_ltF (pc' := 58) rfl (nI_pos (by omega)) rfl ?_
        refine er_k (pc' := 60) (-10) rfl rfl rfl ?_
        refine er_loc (pc' := 61) rfl rfl rfl ?_
        refine er_isub (pc' := 62) rfl rfl ?_
        refine er_iret rfl rfl ?_
        show (if s2.1 < f then RI (-10 - nI s2.1) (ud X 9 14 (nI 0)) _ else RI (nI 1) (xHold (ud X 9 14 (nI 0)) 14 s2.2.2 s2.2.1) _)
        rw [← a1, if_pos hlt]
        exact RI_of rfl rfl
      · rw [if_neg hlt]
        refine er_loc (pc' := 46) (L' := [(2, _), (0, _), (1, _)]) rfl rfl rfl ?_
        refine er_loc (pc' := 47) rfl rfl rfl ?_
        refine er_gf (pc' := 50) (_) rfl rfl rfl rfl rfl ?_
        refine er_k (pc' := 51) (nI 0) rfl rfl rfl ?_
        refine er_pfIX (pc' := 54) 14 rfl rfl rfl rfl rfl rfl ?_
        refine er_loc (pc' := 55) rfl rfl rfl ?_
        refine er_if_ltT rfl (by decide +kernel) ?_
        refine er_loc (pc' := 64) rfl rfl rfl ?_
        refine er_if_neF (pc' := 67) rfl (by decide +kernel) rfl ?_
        refine er_loc (pc' := 68) rfl rfl rfl ?_
        refine er_gf (pc' := 71) (_) rfl rfl rfl rfl rfl ?_
        refine er_gf (pc' := 74) (_) rfl rfl rfl rfl rfl ?_
        refine er_goto rfl ?_
        refine er_loc (pc' := 85) (L' := [(3, _), (2, _), (0, _), (1, _)]) rfl rfl rfl ?_
        refine er_loc (pc' := 86) rfl rfl rfl ?_
        refine er_loc (pc' := 87) rfl rfl rfl ?_
        refine er_gf (pc' := 90) (_) rfl rfl rfl rfl rfl ?_
        refine er_gf (pc' := 93) (_) rfl rfl rfl rfl rfl ?_
        refine er_loc (pc' := 94) rfl rfl rfl ?_
        refine er_gf (pc' := 97) (_) rfl rfl rfl rfl rfl ?_
        refine er_gf (pc' := 100) (.int (nI s'.2.1)) rfl rfl rfl rfl rfl ?_
        refine er_cIv (pc' := 103) (rest := []) 8 rfl rfl rfl rfl rfl rfl (l_hold _ (t := 14) (by simp [tx]) _ _ 50 s'.2.2 rfl (by rfl) s'.2.1 g2) ?_
        intro Z9
        refine er_k (pc' := 104) (nI 1) rfl rfl rfl ?_
        refine er_iret rfl rfl ?_
        show (if s2.1 < f then RI (-10 - nI s2.1) (ud X 9 14 (nI 0)) _ else RI (nI 1) (xHold (ud X 9 14 (nI 0)) 14 s2.2.2 s2.2.1) _)
        rw [← a1, if_neg hlt]
        exact RI_of rfl (xHold_ag a2)
set_option maxRecDepth 100000 in
set_option maxHeartbeats 4000000 in
theorem l_text1 (d : Nat) (X Z : Nat → Nat → Int32) {f : Nat} (hf : X 9 14 = nI f) (hf50 : f ≤ 50) (ht : ∀ k, isN (X 20 k) 255) : EC (d + 81) 88 [.ref 0, .int (nI 1)] (Wd X Z) (fun r => match sTx X 1 f with | .inl y => RI (-10 - nI y) (ud X 9 14 (nI 0)) r | .inr s2 => if s2.1 < f then RI (-10 - nI s2.1) (ud X 9 14 (nI 0)) r else RI (nI 1) (xHold (ud X 9 14 (nI 0)) 17 s2.2.2 s2.2.1) r) := by
  refine er_enter (L := [(0, _), (1, _)]) rfl rfl rfl ?_
  refine er_loc (pc' := 1) rfl rfl rfl ?_
  refine er_cSi (pc' := 4) (rest := []) rfl rfl rfl (l_isUse _ _ _) ?_
  rw [show sUse (nI 1) = true from by decide +kernel]
  refine er_if_neT rfl (by decide +kernel) ?_
  refine er_loc (pc' := 14) rfl rfl rfl ?_
  refine er_gf (pc' := 17) (_) rfl rfl rfl rfl rfl ?_
  refine er_loc (pc' := 18) rfl rfl rfl ?_
  refine er_gf (pc' := 21) (_) rfl rfl rfl rfl rfl ?_
  refine er_gf (pc' := 24) (_) rfl rfl rfl rfl rfl ?_
  refine er_loc (pc' := 25) rfl rfl rfl ?_
  refine er_gf (pc' := 28) (_) rfl rfl rfl rfl rfl ?_
  refine er_gf (pc' := 31) (_) rfl rfl rfl rfl rfl ?_
  rw [hf]
  refine er_loc (pc' := 32) rfl rfl rfl ?_
  refine er_if_neT rfl (by decide +kernel) ?_
  refine er_ldcR (pc' := 42) 1000102 rfl rfl rfl rfl ?_
  refine er_cI (pc' := 45) (rest := []) 9 rfl rfl rfl rfl rfl rfl (l_read1 d X Z (e := f) ht hf50) (fun r hr => ?_)
  have ag : AGT (qq (X 20) f 1 36 0 0 (0, (0, Z 50))) (sTx X 1 f) := AG_qq 36 0 0 0 _ _ ⟨rfl, fun k hk => absurd hk (Nat.not_lt_zero k)⟩
  cases h1 : qq (X 20) f 1 36 0 0 (0, (0, Z 50)) with
  | inl y =>
    rw [h1] at hr ag
    obtain ⟨s', g1, rfl⟩ := hr
    cases h2 : sTx X 1 f with
    | inr y2 => rw [h2] at ag; exact False.elim ag
    | inl y2 =>
      rw [h2] at ag
      have ag2 : y = y2 := ag
      subst ag2
      change ER _ _ _ _ [.int (nI y)] (Wd X (RZ Z 1 f y true s')) _
      refine er_loc (pc' := 46) (L' := [(2, _), (0, _), (1, _)]) rfl rfl rfl ?_
      refine er_loc (pc' := 47) rfl rfl rfl ?_
      refine er_gf (pc' := 50) (_) rfl rfl rfl rfl rfl ?_
      refine er_k (pc' := 51) (nI 0) rfl rfl rfl ?_
      refine er_pfIX (pc' := 54) 14 rfl rfl rfl rfl rfl rfl ?_
      refine er_loc (pc' := 55) rfl rfl rfl ?_
      refine er_if_ltF (pc' := 58) rfl (nI_pos (by omega)) rfl ?_
      refine er_k (pc' := 60) (-10) rfl rfl rfl ?_
      refine er_loc (pc' := 61) rfl rfl rfl ?_
      refine er_isub (pc' := 62) rfl rfl ?_
      refine er_iret rfl rfl ?_
      exact RI_of rfl rfl
  | inr s' =>
    rw [h1] at hr ag
    obtain ⟨g1, g2, rfl⟩ := hr
    cases h2 : sTx X 1 f with
    | inl y2 => rw [h2] at ag; exact False.elim ag
    | inr s2 =>
      rw [h2] at ag
      obtain ⟨a1, a2⟩ := ag
      change ER _ _ _ _ [.int (if s'.1 < f then nI s'.1 else -1)] (Wd X (RZ Z 1 f s'.1 false s'.2)) _
      by_cases hlt : s'.1 < f
      · rw [if_pos hlt]
        refine er_loc (pc' := 46) (L' := [(2, _), (0, _), (1, _)]) rfl rfl rfl ?_
        refine er_loc (pc' := 47) rfl rfl rfl ?_
        refine er_gf (pc' := 50) (_) rfl rfl rfl rfl rfl ?_
        refine er_k (pc' := 51) (nI 0) rfl rfl rfl ?_
        refine er_pfIX (pc' := 54) 14 rfl rfl rfl rfl rfl rfl ?_
        refine er_loc (pc' := 55) rfl rfl rfl ?_
        refine er_if_ltF (pc' := 58) rfl (nI_pos (by omega)) rfl ?_
        refine er_k (pc' := 60) (-10) rfl rfl rfl ?_
        refine er_loc (pc' := 61) rfl rfl rfl ?_
        refine er_isub (pc' := 62) rfl rfl ?_
        refine er_iret rfl rfl ?_
        show (if s2.1 < f then RI (-10 - nI s2.1) (ud X 9 14 (nI 0)) _ else RI (nI 1) (xHold (ud X 9 14 (nI 0)) 17 s2.2.2 s2.2.1) _)
        rw [← a1, if_pos hlt]
        exact RI_of rfl rfl
      · rw [if_neg hlt]
        refine er_loc (pc' := 46) (L' := [(2, _), (0, _), (1, _)]) rfl rfl rfl ?_
        refine er_loc (pc' := 47) rfl rfl rfl ?_
        refine er_gf (pc' := 50) (_) rfl rfl rfl rfl rfl ?_
        refine er_k (pc' := 51) (nI 0) rfl rfl rfl ?_
        refine er_pfIX (pc' := 54) 14 rfl rfl rfl rfl rfl rfl ?_
        refine er_loc (pc' := 55) rfl rfl rfl ?_
        refine er_if_ltT rfl (by decide +kernel) ?_
        refine er_loc (pc' := 64) rfl rfl rfl ?_
        refine er_if_neT rfl (by decide +kernel) ?_
        refine er_loc (pc' := 78) rfl rfl rfl ?_
        refine er_gf (pc' := 81) (_) rfl rfl rfl rfl rfl ?_
        refine er_gf (pc' := 84) (_) rfl rfl rfl rfl rfl ?_
        refine er_loc (pc' := 85) (L' := [(3, _), (2, _), (0, _), (1, _)]) rfl rfl rfl ?_
        refine er_loc (pc' := 86) rfl rfl rfl ?_
        refine er_loc (pc' := 87) rfl rfl rfl ?_
        refine er_gf (pc' := 90) (_) rfl rfl rfl rfl rfl ?_
        refine er_gf (pc' := 93) (_) rfl rfl rfl rfl rfl ?_
        refine er_loc (pc' := 94) rfl rfl rfl ?_
        refine er_gf (pc' := 97) (_) rfl rfl rfl rfl rfl ?_
        refine er_gf (pc' := 100) (.int (nI s'.2.1)) rfl rfl rfl rfl rfl ?_
        refine er_cIv (pc' := 103) (rest := []) 8 rfl rfl rfl rfl rfl rfl (l_hold _ (t := 17) (by simp [tx]) _ _ 50 s'.2.2 rfl (by rfl) s'.2.1 g2) ?_
        intro Z9
        refine er_k (pc' := 104) (nI 1) rfl rfl rfl ?_
        refine er_iret rfl rfl ?_
        show (if s2.1 < f then RI (-10 - nI s2.1) (ud X 9 14 (nI 0)) _ else RI (nI 1) (xHold (ud X 9 14 (nI 0)) 17 s2.2.2 s2.2.1) _)
        rw [← a1, if_neg hlt]
        exact RI_of rfl (xHold_ag a2)
