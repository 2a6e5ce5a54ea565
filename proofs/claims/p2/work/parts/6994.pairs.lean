/-! BOTH SIDES, call by call: sheets, voices, the image -/
theorem SR_sheet {X : Nat → Nat → Int32} (h : Rel X) {a g : Nat} (ha : a < 4) (g40 : g ≤ 40) {b : Int32} (hb : sBits b = true) : Rel (ySheet (xSheet X a b (nI g) 40) a b (nI g)) := by
  have e78 : xSheet X a b (nI g) 40 78 = X 78 := by unfold xSheet; rw [uc_ne (by omega), ud_ne (by omega), ud_ne (by omega)]
  refine rel_sheets h (fun c c1 c2 => by unfold ySheet xSheet; rw [uc_ne (by omega), ud_ne (by omega), ud_ne (by omega), uc_ne (by omega), ud_ne (by omega), ud_ne (by omega)]) (fun q hq => ?_)
  obtain ⟨s1, s2, s3, s4⟩ := h.2.2.2.2.2.2 q hq
  have e60 : ySheet (xSheet X a b (nI g) 40) a b (nI g) 60 q = if q = a then b else X 60 q := by unfold ySheet xSheet; rw [uc_ne (by omega), ud_ne (by omega), ud_ne (by omega), uc_ne (by omega), ud_ne (by omega), ud_same, u1_at]
  have e59 : ySheet (xSheet X a b (nI g) 40) a b (nI g) 59 q = if q = a then nI g else X 59 q := by unfold ySheet xSheet; rw [uc_ne (by omega), ud_ne (by omega), ud_ne (by omega), uc_ne (by omega), ud_same, u1_at, ud_ne (by omega)]
  have e76 : ySheet (xSheet X a b (nI g) 40) a b (nI g) 76 q = if q = a then b else X 76 q := by unfold ySheet xSheet; rw [uc_ne (by omega), ud_ne (by omega), ud_same, u1_at, uc_ne (by omega), ud_ne (by omega), ud_ne (by omega)]
  have e77 : ySheet (xSheet X a b (nI g) 40) a b (nI g) 77 q = if q = a then nI g else X 77 q := by unfold ySheet xSheet; rw [uc_ne (by omega), ud_same, u1_at, ud_ne (by omega), uc_ne (by omega), ud_ne (by omega), ud_ne (by omega)]
  have ec : ∀ k, k < 40 → ySheet (xSheet X a b (nI g) 40) a b (nI g) 78 (40 * q + k) = if q = a then nI 0 else X 78 (40 * q + k) := by
    intro k hk
    unfold ySheet
    rw [uc_same, e78]
    show (if 40 * a ≤ 40 * q + k ∧ 40 * q + k < 40 * a + 40 then nI 0 else X 78 (40 * q + k)) = _
    by_cases hqa : q = a
    · rw [if_pos hqa, if_pos ⟨by omega, by omega⟩]
    · rw [if_neg hqa, if_neg (by omega)]
  have er : ∀ k, k < 40 → ySheet (xSheet X a b (nI g) 40) a b (nI g) (55 + q) k = if q = a then nI 0 else X (55 + q) k := by
    intro k hk
    unfold ySheet xSheet
    rw [uc_ne (by omega), ud_ne (by omega), ud_ne (by omega)]
    by_cases hqa : q = a
    · subst hqa
      rw [uc_same, if_pos rfl]
      exact if_pos hk
    · rw [if_neg hqa, uc_ne (by omega), ud_ne (by omega), ud_ne (by omega)]
  refine ⟨?_, ?_, ?_, fun k hk => ?_⟩
  · rw [e60]
    split
    · exact hb
    · exact s1
  · rw [e76, e60]
    split
    · rfl
    · exact s2
  · rw [e59, e77]
    by_cases hqa : q = a
    · rw [if_pos hqa, if_pos hqa]
      exact ⟨g, g40, rfl, rfl⟩
    · rw [if_neg hqa, if_neg hqa]
      exact s3
  · rw [e60, er k hk, ec k hk]
    by_cases hqa : q = a
    · rw [if_pos hqa, if_pos hqa, if_pos hqa]
      exact CR_0 b
    · rw [if_neg hqa, if_neg hqa, if_neg hqa]
      exact s4 k hk
theorem p_sheet {X Z : Nat → Nat → Int32} (h : Rel X) (s b n : Int32) : PAIR X Z 112 213 [.int s, .int b, .int n] true := by
  by_cases cs : sIn s (nI 0) (nI 3) = true
  · obtain ⟨a, _, ha3, rfl⟩ := sIn_ex (by omega) (by omega) cs
    have ha : a < 4 := by omega
    by_cases cb : sBits b = true
    · have cb2 := cb
      unfold sBits at cb2
      simp only [Bool.or_eq_true, decide_eq_true_eq] at cb2
      rcases cb2 with e | e | e | e
      · rw [show b = nI 0 from e]
        exact mk_pairC (v := nI 1) ((EC.up (l_sheet 0 X Z ha (nI 0) n (by decide +kernel)) (by omega)).mono (fun r hr => by
            rw [if_pos (show nI 0 = 0 by decide +kernel)] at hr
            exact hr)) (fun Z1 => EC.up (l_rSheet0 0 (xSheet X a (nI 0) (nI 0) 40) Z1 ha n) (by omega)) (SR_sheet h ha (by omega) (by decide +kernel))
      · subst e
        by_cases c1 : n < 0
        · exact mk_pair h (J := (jx X 9)) (v := (sErr 3)) (v2 := (sErr 3)) ((EC.up (l_sheet 0 X Z ha (nI 8) n (by decide +kernel)) (by omega)).mono (fun r hr => by
              rw [if_neg (show ¬ nI 8 = 0 by decide +kernel), if_pos c1] at hr
              exact XP_er rfl hr)) (fun X1 Z1 hx => (EC.up (l_rSheet8 0 X1 Z1 ha n) (by omega)).mono (fun r hr => by
              rw [if_pos c1] at hr
              exact MP_er (h.rk1 (E64 hx)) (h.j1 (E64 hx)) hr)) (fun _ => rfl)
        · by_cases c2 : nI 40 < n
          · exact mk_pair h (J := (jx X 9)) (v := (sErr 1)) (v2 := (sErr 1)) ((EC.up (l_sheet 0 X Z ha (nI 8) n (by decide +kernel)) (by omega)).mono (fun r hr => by
                rw [if_neg (show ¬ nI 8 = 0 by decide +kernel), if_neg c1, if_pos c2] at hr
                exact XP_er rfl hr)) (fun X1 Z1 hx => (EC.up (l_rSheet8 0 X1 Z1 ha n) (by omega)).mono (fun r hr => by
                rw [if_neg c1, if_pos c2] at hr
                exact MP_er (h.rk1 (E64 hx)) (h.j1 (E64 hx)) hr)) (fun _ => rfl)
          · obtain ⟨g, hg, rfl⟩ := nI_of c1
            have g40 : g ≤ 40 := by
              rcases Nat.lt_or_ge 40 g with h9 | h9
              · exact absurd (nI_lt h9 hg) c2
              · exact h9
            exact mk_pairC (v := nI 1) ((EC.up (l_sheet 0 X Z ha (nI 8) (nI g) (by decide +kernel)) (by omega)).mono (fun r hr => by
                rw [if_neg (show ¬ nI 8 = 0 by decide +kernel), if_neg c1, if_neg c2] at hr
                exact hr)) (fun Z1 => (EC.up (l_rSheet8 0 (xSheet X a (nI 8) (nI g) 40) Z1 ha (nI g)) (by omega)).mono (fun r hr => by
                rw [if_neg c1, if_neg c2] at hr
                exact hr)) (SR_sheet h ha g40 (by decide +kernel))
      · subst e
        by_cases c1 : n < 0
        · exact mk_pair h (J := (jx X 9)) (v := (sErr 3)) (v2 := (sErr 3)) ((EC.up (l_sheet 0 X Z ha (nI 16) n (by decide +kernel)) (by omega)).mono (fun r hr => by
              rw [if_neg (show ¬ nI 16 = 0 by decide +kernel), if_pos c1] at hr
              exact XP_er rfl hr)) (fun X1 Z1 hx => (EC.up (l_rSheet16 0 X1 Z1 ha n) (by omega)).mono (fun r hr => by
              rw [if_pos c1] at hr
              exact MP_er (h.rk1 (E64 hx)) (h.j1 (E64 hx)) hr)) (fun _ => rfl)
        · by_cases c2 : nI 40 < n
          · exact mk_pair h (J := (jx X 9)) (v := (sErr 1)) (v2 := (sErr 1)) ((EC.up (l_sheet 0 X Z ha (nI 16) n (by decide +kernel)) (by omega)).mono (fun r hr => by
                rw [if_neg (show ¬ nI 16 = 0 by decide +kernel), if_neg c1, if_pos c2] at hr
                exact XP_er rfl hr)) (fun X1 Z1 hx => (EC.up (l_rSheet16 0 X1 Z1 ha n) (by omega)).mono (fun r hr => by
                rw [if_neg c1, if_pos c2] at hr
                exact MP_er (h.rk1 (E64 hx)) (h.j1 (E64 hx)) hr)) (fun _ => rfl)
          · obtain ⟨g, hg, rfl⟩ := nI_of c1
            have g40 : g ≤ 40 := by
              rcases Nat.lt_or_ge 40 g with h9 | h9
              · exact absurd (nI_lt h9 hg) c2
              · exact h9
            exact mk_pairC (v := nI 1) ((EC.up (l_sheet 0 X Z ha (nI 16) (nI g) (by decide +kernel)) (by omega)).mono (fun r hr => by
                rw [if_neg (show ¬ nI 16 = 0 by decide +kernel), if_neg c1, if_neg c2] at hr
                exact hr)) (fun Z1 => (EC.up (l_rSheet16 0 (xSheet X a (nI 16) (nI g) 40) Z1 ha (nI g)) (by omega)).mono (fun r hr => by
                rw [if_neg c1, if_neg c2] at hr
                exact hr)) (SR_sheet h ha g40 (by decide +kernel))
      · subst e
        by_cases c1 : n < 0
        · exact mk_pair h (J := (jx X 9)) (v := (sErr 3)) (v2 := (sErr 3)) ((EC.up (l_sheet 0 X Z ha (nI 32) n (by decide +kernel)) (by omega)).mono (fun r hr => by
              rw [if_neg (show ¬ nI 32 = 0 by decide +kernel), if_pos c1] at hr
              exact XP_er rfl hr)) (fun X1 Z1 hx => (EC.up (l_rSheet32 0 X1 Z1 ha n) (by omega)).mono (fun r hr => by
              rw [if_pos c1] at hr
              exact MP_er (h.rk1 (E64 hx)) (h.j1 (E64 hx)) hr)) (fun _ => rfl)
        · by_cases c2 : nI 40 < n
          · exact mk_pair h (J := (jx X 9)) (v := (sErr 1)) (v2 := (sErr 1)) ((EC.up (l_sheet 0 X Z ha (nI 32) n (by decide +kernel)) (by omega)).mono (fun r hr => by
                rw [if_neg (show ¬ nI 32 = 0 by decide +kernel), if_neg c1, if_pos c2] at hr
                exact XP_er rfl hr)) (fun X1 Z1 hx => (EC.up (l_rSheet32 0 X1 Z1 ha n) (by omega)).mono (fun r hr => by
                rw [if_neg c1, if_pos c2] at hr
                exact MP_er (h.rk1 (E64 hx)) (h.j1 (E64 hx)) hr)) (fun _ => rfl)
          · obtain ⟨g, hg, rfl⟩ := nI_of c1
            have g40 : g ≤ 40 := by
              rcases Nat.lt_or_ge 40 g with h9 | h9
              · exact absurd (nI_lt h9 hg) c2
              · exact h9
            exact mk_pairC (v := nI 1) ((EC.up (l_sheet 0 X Z ha (nI 32) (nI g) (by decide +kernel)) (by omega)).mono (fun r hr => by
                rw [if_neg (show ¬ nI 32 = 0 by decide +kernel), if_neg c1, if_neg c2] at hr
                exact hr)) (fun Z1 => (EC.up (l_rSheet32 0 (xSheet X a (nI 32) (nI g) 40) Z1 ha (nI g)) (by omega)).mono (fun r hr => by
                rw [if_neg c1, if_neg c2] at hr
                exact hr)) (SR_sheet h ha g40 (by decide +kernel))
    · have cb2 : sBits b = false := by simpa using cb
      exact mk_pair h (J := (jx X 9)) (v := (sErr 1)) (v2 := (sErr 1)) ((EC.up (l_sheet_no 0 X Z (nI a) b n (by rw [cb2, Bool.and_false])) (by omega)).mono (fun r hr => by
          exact XP_er rfl hr)) (fun X1 Z1 hx => (EC.up (l_rSheet_nb 0 X1 Z1 ha b n cb2) (by omega)).mono (fun r hr => by
          exact MP_er (h.rk1 (E64 hx)) (h.j1 (E64 hx)) hr)) (fun _ => rfl)
  · have cs2 : sIn s (nI 0) (nI 3) = false := by simpa using cs
    exact mk_pair h (J := (jx X 9)) (v := (sErr 1)) (v2 := (sErr 1)) ((EC.up (l_sheet_no 0 X Z s b n (by rw [cs2]; rfl)) (by omega)).mono (fun r hr => by
        exact XP_er rfl hr)) (fun X1 Z1 hx => (EC.up (l_rSheet_ns 0 X1 Z1 s b n cs2) (by omega)).mono (fun r hr => by
        exact MP_er (h.rk1 (E64 hx)) (h.j1 (E64 hx)) hr)) (fun _ => rfl)
theorem SR_move {X : Nat → Nat → Int32} (h : Rel X) {a p i j n : Nat} (ha : a < 4) (hp : p < 4) (heq : X 60 a = X 60 p) (hi : i + n ≤ 40) (hj : j + n ≤ 40) : Rel (uc (uc X (55 + p) (cpf (X (55 + a)) (X (55 + p)) i j n)) 78 (cpf (X 78) (X 78) (40 * a + i) (40 * p + j) n)) := by
  refine rel_sheets h (fun c c1 c2 => by rw [uc_ne (by omega), uc_ne (by omega)]) (fun q hq => ?_)
  obtain ⟨s1, s2, s3, s4⟩ := h.2.2.2.2.2.2 q hq
  refine ⟨by rw [uc_ne (by omega), uc_ne (by omega)]; exact s1, by rw [uc_ne (by omega), uc_ne (by omega), uc_ne (by omega), uc_ne (by omega)]; exact s2, by rw [uc_ne (by omega), uc_ne (by omega), uc_ne (by omega), uc_ne (by omega)]; exact s3, fun k hk => ?_⟩
  rw [uc_same, show uc (uc X (55 + p) (cpf (X (55 + a)) (X (55 + p)) i j n)) 78 (cpf (X 78) (X 78) (40 * a + i) (40 * p + j) n) 60 = X 60 from by rw [uc_ne (by omega), uc_ne (by omega)], uc_ne (show 55 + q ≠ 78 by omega)]
  by_cases hqp : q = p
  · subst hqp
    rw [uc_same, cpf_at, cpf_at]
    by_cases hk2 : j ≤ k ∧ k < j + n
    · rw [if_pos hk2, if_pos ⟨by omega, by omega⟩, show 40 * q + k - (40 * q + j) + (40 * a + i) = 40 * a + (k - j + i) by omega, ← heq]
      exact (h.2.2.2.2.2.2 a ha).2.2.2 _ (by omega)
    · rw [if_neg hk2, if_neg (by omega)]
      exact s4 k hk
  · rw [uc_ne (by omega), cpf_at, if_neg (by omega)]
    exact s4 k hk
theorem p_move {X Z : Nat → Nat → Int32} (h : Rel X) (s i p0 j n : Int32) : PAIR X Z 115 216 [.int s, .int i, .int p0, .int j, .int n] true := by
  by_cases c1 : (sIn s (nI 0) (nI 3) && sIn p0 (nI 0) (nI 3)) = true
  · have cs := c1
    rw [Bool.and_eq_true] at cs
    obtain ⟨a, _, ha3, rfl⟩ := sIn_ex (by omega) (by omega) cs.1
    have ha : a < 4 := by omega
    obtain ⟨p, _, hp3, rfl⟩ := sIn_ex (by omega) (by omega) cs.2
    have hp : p < 4 := by omega
    obtain ⟨g, g40, hg, hg2⟩ := sh_ex h ha
    obtain ⟨e, e40, he, he2⟩ := sh_ex h hp
    by_cases c2 : X 60 a = 0 ∨ X 60 p = 0
    · exact mk_pair h (J := (jx X 9)) (v := (sErr 2)) (v2 := (sErr 2)) ((EC.up (l_move 0 X Z ha hp i j n hg g40 he e40) (by omega)).mono (fun r hr => by
          rw [if_pos c2] at hr
          exact XP_er rfl hr)) (fun X1 Z1 hx => (EC.up (l_rMove_0 0 X1 Z1 ha hp i j n (by rw [hx 76 (by omega), sh_b h ha, sh_b h hp]; exact c2)) (by omega)).mono (fun r hr => by
          exact MP_er (h.rk1 (E64 hx)) (h.j1 (E64 hx)) hr)) (fun _ => rfl)
    · have ca : ¬ X 60 a = 0 := fun hh => c2 (Or.inl hh)
      have cp : ¬ X 60 p = 0 := fun hh => c2 (Or.inr hh)
      by_cases c3 : X 60 a = X 60 p
      · by_cases c4 : (sStand g i n && sStand e j n) = true
        · have c5 := c4
          rw [Bool.and_eq_true] at c5
          obtain ⟨i0, n0, q1, hi0, hn0⟩ := stand_ex g40 c5.1
          obtain ⟨j0, n1, q2, hj0, hn1⟩ := stand_ex e40 c5.2
          have hn01 : n0 = n1 := nIj (by omega) (by omega) (hn0.symm.trans hn1)
          have ei : nN i = i0 := by rw [hi0]; exact nN_nI (by omega)
          have ej : nN j = j0 := by rw [hj0]; exact nN_nI (by omega)
          have en : nN n = n0 := by rw [hn0]; exact nN_nI (by omega)
          exact mk_pairC (v := n) ((EC.up (l_move 0 X Z ha hp i j n hg g40 he e40) (by omega)).mono (fun r hr => by
              rw [if_neg c2, if_pos c3, if_pos c4] at hr
              exact hr)) (fun Z1 => (EC.up (l_rMove 0 (uc X (55 + p) (cpf (X (55 + a)) (X (55 + p)) (nN i) (nN j) (nN n))) Z1 ha hp i j n (by rw [uc_ne (by omega), sh_b h ha]; exact ca) (by rw [uc_ne (by omega), sh_b h hp]; exact cp) (by rw [uc_ne (by omega), sh_b h ha, sh_b h hp]; exact c3) (g := g) (e := e) (by rw [uc_ne (by omega)]; exact hg2) g40 (by rw [uc_ne (by omega)]; exact he2) e40 c4) (by omega)).mono (fun r hr => by
              rw [show uc X (55 + p) (cpf (X (55 + a)) (X (55 + p)) (nN i) (nN j) (nN n)) 78 = X 78 from uc_ne (by omega)] at hr
              exact hr)) (SR_move h ha hp c3 (by omega) (by omega))
        · have c5 : yMay g e i j n = false := by rw [may_eq g40 e40]; simpa using c4
          exact mk_pair h (J := (jx X 9)) (v := (sErr 1)) (v2 := (sErr 1)) ((EC.up (l_move 0 X Z ha hp i j n hg g40 he e40) (by omega)).mono (fun r hr => by
              rw [if_neg c2, if_pos c3, if_neg c4] at hr
              exact XP_er rfl hr)) (fun X1 Z1 hx => (EC.up (l_rMove_b 0 X1 Z1 ha hp i j n (by rw [hx 76 (by omega), sh_b h ha]; exact ca) (by rw [hx 76 (by omega), sh_b h hp]; exact cp) (by rw [hx 76 (by omega), sh_b h ha, sh_b h hp]; exact c3) (g := g) (e := e) (by rw [hx 77 (by omega)]; exact hg2) (by rw [hx 77 (by omega)]; exact he2) c5) (by omega)).mono (fun r hr => by
              exact MP_er (h.rk1 (E64 hx)) (h.j1 (E64 hx)) hr)) (fun _ => rfl)
      · exact mk_pair h (J := (jx X 9)) (v := (sErr 5)) (v2 := (sErr 5)) ((EC.up (l_move 0 X Z ha hp i j n hg g40 he e40) (by omega)).mono (fun r hr => by
            rw [if_neg c2, if_neg c3] at hr
            exact XP_er rfl hr)) (fun X1 Z1 hx => (EC.up (l_rMove_k 0 X1 Z1 ha hp i j n (by rw [hx 76 (by omega), sh_b h ha]; exact ca) (by rw [hx 76 (by omega), sh_b h hp]; exact cp) (by rw [hx 76 (by omega), sh_b h ha, sh_b h hp]; exact c3)) (by omega)).mono (fun r hr => by
            exact MP_er (h.rk1 (E64 hx)) (h.j1 (E64 hx)) hr)) (fun _ => rfl)
  · have cs2 : (sIn s (nI 0) (nI 3) && sIn p0 (nI 0) (nI 3)) = false := by simpa using c1
    exact mk_pair h (J := (jx X 9)) (v := (sErr 1)) (v2 := (sErr 1)) ((EC.up (l_move_no 0 X Z s i p0 j n cs2) (by omega)).mono (fun r hr => by
        exact XP_er rfl hr)) (fun X1 Z1 hx => (EC.up (l_rMove_no 0 X1 Z1 s i p0 j n cs2) (by omega)).mono (fun r hr => by
        exact MP_er (h.rk1 (E64 hx)) (h.j1 (E64 hx)) hr)) (fun _ => rfl)
theorem rel_voice {X : Nat → Nat → Int32} (h : Rel X) {n m : Int32} {t t' : VT} (ht : VA t t') (h40 : t.1 ≤ 40) : Rel (YT (XT (xStart X n m) t) t') := by
  have hc : ∀ c, c ≠ 51 → c ≠ 52 → c ≠ 63 → c ≠ 75 → YT (XT (xStart X n m) t) t' c = X c := by
    intro c a1 a2 a3 a4
    unfold YT XT xStart
    rw [ud_ne a3, uc_ne a4, ud_ne a1, uc_ne a2, ud_ne a1, ud_ne a1, ud_ne a1]
  have h63 : ∀ j, j ≠ 21 → YT (XT (xStart X n m) t) t' 63 j = X 63 j := by
    intro j hj
    unfold YT XT xStart
    rw [ud_same, u1_ne hj, uc_ne (by omega), ud_ne (by omega), uc_ne (by omega), ud_ne (by omega), ud_ne (by omega), ud_ne (by omega)]
  have h9 : jx (YT (XT (xStart X n m) t) t') 9 = jx X 9 := jx_off (fun c c1 c2 => hc c (by omega) (by omega) (by omega) (by omega))
  have h22 : jx (YT (XT (xStart X n m) t) t') 22 = jx X 22 := jx_off (fun c c1 c2 => hc c (by omega) (by omega) (by omega) (by omega))
  refine ⟨by rw [hc 64 (by omega) (by omega) (by omega) (by omega)]; exact h.rk, by rw [h9, hc 64 (by omega) (by omega) (by omega) (by omega)]; exact h.j, by rw [h22]; exact h.im, by rw [hc 0 (by omega) (by omega) (by omega) (by omega), hc 65 (by omega) (by omega) (by omega) (by omega), h22]; exact h.2.2.2.1, by rw [hc 0 (by omega) (by omega) (by omega) (by omega), h63 3 (by omega)]; exact h.2.2.2.2.1, ⟨t.1, h40, ?_, ?_, fun k hk => ?_⟩, fun a ha => (h.2.2.2.2.2.2 a ha).keep ha (fun c c1 c2 => hc c (by omega) (by omega) (by omega) (by omega)) (fun c c1 c2 => hc c (by omega) (by omega) (by omega) (by omega))⟩
  · unfold YT XT
    rw [ud_ne (by omega), uc_ne (by omega), ud_same, u1_same]
  · unfold YT
    rw [ud_same, u1_same, ht.1]
  · unfold YT XT
    rw [ud_ne (by omega), uc_ne (by omega), ud_ne (by omega), uc_same, ud_ne (by omega), uc_same]
    exact ht.2 k hk
theorem VA_0 {f g : Nat → Int32} : VA (0, f) (0, g) := ⟨rfl, fun k hk => absurd hk (Nat.not_lt_zero k)⟩
theorem xs64 {X : Nat → Nat → Int32} {n m : Int32} {t : VT} {c : Nat} (h1 : c ≠ 51) (h2 : c ≠ 52) : XT (xStart X n m) t c = X c := by
  unfold XT xStart
  rw [ud_ne h1, uc_ne h2, ud_ne h1, ud_ne h1, ud_ne h1]
theorem p_voice {X Z : Nat → Nat → Int32} (h : Rel X) (s w x : Int32) : PAIR X Z 110 200 [.int s, .int w, .int x] true := by
  by_cases cs : jHas (jx X 9) s = true
  · obtain ⟨k, hk, rfl⟩ := xHas_k h.ij (show xHas X s = true from cs)
    have hk1 : ∀ X1 : Nat → Nat → Int32, X1 64 = X 64 → k < jn (jm (X1 64)) := fun X1 e => by rw [h.j1 e]; exact hk
    by_cases c1 : sIn w (nI 0) (nI 3) = true
    · have hv : VQ (sVoice (sKind (jx X 9) k) k (jx X 9 2 k) w x (0, X 52)) (sVoice (sKind (jx X 9) k) k (jx X 9 2 k) w x (0, X 75)) := VA.voice (t := (0, X 52)) (t' := (0, X 75)) VA_0
      have e64 : (XT (xStart X (nI k) (jx X 9 2 k)) (sVoice (sKind (jx X 9) k) k (jx X 9 2 k) w x (0, X 52)).2) 64 = X 64 := xs64 (by omega) (by omega)
      refine mk_pairC (v := (sVoice (sKind (jx X 9) k) k (jx X 9 2 k) w x (0, X 52)).1) ((EC.up (l_voice 0 X Z h.ij hk w x) (by omega)).mono (fun r hr => by
          rw [if_pos c1] at hr
          exact hr)) (fun Z1 => (EC.up (l_rVoice 0 (XT (xStart X (nI k) (jx X 9 2 k)) (sVoice (sKind (jx X 9) k) k (jx X 9 2 k) w x (0, X 52)).2) Z1 (h.rk1 e64) (by rw [h.j1 e64]; exact hk) w x) (by omega)).mono (fun r hr => by
          rw [if_pos c1, h.j1 e64, show (XT (xStart X (nI k) (jx X 9 2 k)) (sVoice (sKind (jx X 9) k) k (jx X 9 2 k) w x (0, X 52)).2) 75 = X 75 from xs64 (by omega) (by omega), ← hv.1] at hr
          exact hr)) (rel_voice h hv.2 (sVoice_le (t := (0, X 52)) (Nat.zero_le 40)))
    · exact mk_pair h (J := (jx X 9)) (v := (sErr 1)) (v2 := (sErr 1)) ((EC.up (l_voice 0 X Z h.ij hk w x) (by omega)).mono (fun r hr => by
          rw [if_neg c1] at hr
          exact XP_er rfl hr)) (fun X1 Z1 hx => (EC.up (l_rVoice 0 X1 Z1 (h.rk1 (E64 hx)) (hk1 X1 (E64 hx)) w x) (by omega)).mono (fun r hr => by
          rw [if_neg c1] at hr
          exact MP_er (h.rk1 (E64 hx)) (h.j1 (E64 hx)) hr)) (fun _ => rfl)
  · have cs2 : jHas (jx X 9) s = false := by simpa using cs
    exact mk_pair h (J := (jx X 9)) (v := sErr 1) (v2 := sErr 1) ((EC.up (l_voice_no 0 X Z s w x (show xHas X s = false from cs2)) (by omega)).mono (fun r hr => by
        exact XP_er rfl hr)) (fun X1 Z1 hx => (EC.up (l_rVoice_no 0 X1 Z1 (h.rk1 (E64 hx)) s w x (by rw [h.j1 (E64 hx)]; exact cs2)) (by omega)).mono (fun r hr => by
        exact MP_er (h.rk1 (E64 hx)) (h.j1 (E64 hx)) hr)) (fun _ => rfl)
theorem p_image {X Z : Nat → Nat → Int32} (h : Rel X) : PAIR X Z 119 220 [] true := by
  refine (EC.up (l_image 0 X Z h.ij) (show 0 + 3 ≤ 200 by omega)).mono (fun r hr => ?_)
  obtain ⟨X1, Z1, rfl, h22, ho⟩ := hr
  refine ⟨X 0 4 + nI 1, X1, Z1, rfl, (EC.up (l_rImage 0 X1 Z1) (show 0 + 3 ≤ 200 by omega)).mono (fun r2 hr2 => ?_)⟩
  obtain ⟨Z2, rfl⟩ := hr2
  have hc : ∀ c, (c < 22 ∨ 34 < c) → c ≠ 0 → X1 c = X c := fun c c1 c2 => by rw [ho c (by omega), ud_ne c2]
  have h04 : X1 0 4 = X 0 4 + nI 1 := by rw [ho 0 (by omega), ud_same, u1_same]
  have h633 : X1 63 3 = X 0 4 := by rw [hc 63 (by omega) (by omega)]; exact h.2.2.2.2.1.symm
  have hb : ∀ c, c ≠ 63 → c ≠ 65 → ud (uc X1 65 (X1 64)) 63 3 (X1 63 3 + nI 1) c = X1 c := fun c a1 a2 => by rw [ud_ne a1, uc_ne a2]
  have e64 : X1 64 = X 64 := hc 64 (by omega) (by omega)
  have k22 : jx (ud (uc X1 65 (X1 64)) 63 3 (X1 63 3 + nI 1)) 22 = jx X 9 := by rw [← h22]; exact jx_off (fun c c1 c2 => hb c (by omega) (by omega))
  have k9 : jx (ud (uc X1 65 (X1 64)) 63 3 (X1 63 3 + nI 1)) 9 = jx X 9 := jx_off (fun c c1 c2 => by rw [hb c (by omega) (by omega)]; exact hc c (by omega) (by omega))
  have k65 : ud (uc X1 65 (X1 64)) 63 3 (X1 63 3 + nI 1) 65 = X 64 := by rw [ud_ne (by omega), uc_same, e64]
  refine ⟨_, _, Z2, rfl, ⟨by rw [hb 64 (by omega) (by omega), e64]; exact h.rk, by rw [k9, hb 64 (by omega) (by omega), e64]; exact h.j, by rw [k22]; exact h.ij, Or.inr ⟨by rw [k65]; exact h.rk, by rw [k22, k65]; exact h.j⟩, ?_, ?_, fun a ha => (h.2.2.2.2.2.2 a ha).keep ha (fun c c1 c2 => by rw [hb c (by omega) (by omega)]; exact hc c (by omega) (by omega)) (fun c c1 c2 => by rw [hb c (by omega) (by omega)]; exact hc c (by omega) (by omega))⟩, fun _ => by rw [h633]⟩
  · rw [hb 0 (by omega) (by omega), h04, ud_same, u1_same, h633]
  · obtain ⟨g, g1, g2, g3, g4⟩ := h.2.2.2.2.2.1
    refine ⟨g, g1, by rw [hb 51 (by omega) (by omega), hc 51 (by omega) (by omega)]; exact g2, by rw [ud_same, u1_ne (by omega), uc_ne (by omega), hc 63 (by omega) (by omega)]; exact g3, fun k hk => by rw [hb 52 (by omega) (by omega), hc 52 (by omega) (by omega), hb 75 (by omega) (by omega), hc 75 (by omega) (by omega)]; exact g4 k hk⟩
