/-! BOTH SIDES, call by call: laws in texts, draws, the best order, sheets -/
theorem RK.own {R : Nat → Int32} {T : Nat} (h : RK T R) : RK (nN (R 0)) R := ⟨⟨h.1.n, h.1.kind, h.1.m, h.1.sc, h.1.needs, h.1.done, h.1.wrong, h.1.hands, h.1.bag, ⟨h.1.minute.1, Nat.le_refl _⟩, h.1.tl, h.1.te, h.1.fed, h.1.waits, h.1.tape⟩, h.2.1, h.2.2.1, h.2.2.2⟩
theorem IJ.own {J : Nat → Nat → Int32} {T : Nat} (h : IJ T J) : IJ (nN (J 0 10)) J := ⟨h.n, h.kind, h.m, h.sc, h.needs, h.done, h.wrong, h.hands, h.bag, ⟨h.minute.1, Nat.le_refl _⟩, h.tl, h.te, h.fed, h.waits, h.tape⟩
theorem MP_le {v : Int32} {J X : Nat → Nat → Int32} {T : Nat} {r : ab_R} (hT : T ≤ 99999) (h : RNJ v J T X r) : MP v J X r := by
  obtain ⟨X', Z', rfl, h1⟩ := h
  exact ⟨_, Z', rfl, h1.1, h1.2.1.mono hT, OM.o64 h1.2.2.1⟩
theorem loose_T {J : Nat → Nat → Int32} (h : IJ 99999 J) {n : Int32} (h1 : sIn n (nI 1) (nI 40) = true) (h2 : sLooseOk J n = true) : nN (J 0 10) + 300 * nN n ≤ 99999 := by
  obtain ⟨q, q1, q2, rfl⟩ := sIn_ex (by omega) (by omega) h1
  obtain ⟨m1, m2⟩ := h.minute
  unfold sLooseOk at h2
  simp only [Bool.not_eq_true', decide_eq_false_iff_not] at h2
  rw [m1, nI_mul, nI_add] at h2
  rw [nN_nI (by omega)]
  rcases Nat.lt_or_ge 99999 (nN (J 0 10) + q * 300) with h9 | h9
  · exact absurd (nI_lt h9 (by omega)) h2
  · omega
theorem p_loose {X Z : Nat → Nat → Int32} (h : Rel X) (n : Int32) : PAIR X Z 93 170 [.int n] true := by
  by_cases c1 : sIn n (nI 1) (nI 40) = true
  · by_cases c2 : sLooseOk (jx X 9) n = true
    · have hT := loose_T h.ij c1 c2
      exact mk_pair h (J := (itN loT (nN n) (jx X 9, nI 0)).1) (v := (itN loT (nN n) (jx X 9, nI 0)).2) (v2 := (itN loT (nN n) (jx X 9, nI 0)).2) ((EC.up (l_loose 0 X Z h.ij.own (by have := h.ij.minute.2; omega) n) (by omega)).mono (fun r hr => by
          rw [if_pos c1, if_pos c2] at hr
          exact XP_rj hr)) (fun X1 Z1 hx => (EC.up (l_rLoose 0 X1 Z1 (h.rk1 (E64 hx)).own (by have := (h.rk1 (E64 hx)).ij.minute.2; exact Nat.lt_succ_of_le this) n) (by omega)).mono (fun r hr => by
          rw [h.j1 (E64 hx), show X1 64 0 = jm (X1 64) 0 10 from rfl, h.j1 (E64 hx)] at hr
          rw [if_pos c1, if_pos c2] at hr
          exact MP_le hT hr)) (fun _ => rfl)
    · exact mk_pair h (J := (jx X 9)) (v := (sErr 3)) (v2 := (sErr 3)) ((EC.up (l_loose 0 X Z h.ij.own (by have := h.ij.minute.2; omega) n) (by omega)).mono (fun r hr => by
          rw [if_pos c1, if_neg c2] at hr
          exact XP_er rfl hr)) (fun X1 Z1 hx => (EC.up (l_rLoose 0 X1 Z1 (h.rk1 (E64 hx)).own (by have := (h.rk1 (E64 hx)).ij.minute.2; exact Nat.lt_succ_of_le this) n) (by omega)).mono (fun r hr => by
          rw [h.j1 (E64 hx)] at hr
          rw [if_pos c1, if_neg c2] at hr
          exact MP_er (h.rk1 (E64 hx)) (h.j1 (E64 hx)) hr)) (fun _ => rfl)
  · exact mk_pair h (J := (jx X 9)) (v := (sErr 1)) (v2 := (sErr 1)) ((EC.up (l_loose 0 X Z h.ij.own (by have := h.ij.minute.2; omega) n) (by omega)).mono (fun r hr => by
        rw [if_neg c1] at hr
        exact XP_er rfl hr)) (fun X1 Z1 hx => (EC.up (l_rLoose 0 X1 Z1 (h.rk1 (E64 hx)).own (by have := (h.rk1 (E64 hx)).ij.minute.2; exact Nat.lt_succ_of_le this) n) (by omega)).mono (fun r hr => by
        rw [h.j1 (E64 hx)] at hr
        rw [if_neg c1] at hr
        exact MP_er (h.rk1 (E64 hx)) (h.j1 (E64 hx)) hr)) (fun _ => rfl)
theorem Wd_tape {X Z : Nat → Nat → Int32} : Wd X Z = Wd (uc X 20 (jx X 9 9)) Z := by
  have e := Wd_row (X := X) (Z := Z) (c := 20) (n := 50) (f := X 20) (g := jx X 9 9) (fun _ _ => rfl) (fun k hk => (jx9 (X := X) (b := 9) hk).symm)
  rw [uc_id] at e
  exact e
theorem jx_tape {X : Nat → Nat → Int32} : jx (uc X 20 (jx X 9 9)) 9 = jx X 9 := by
  refine jx_take ?_ ?_ ?_ ?_ ?_ ?_ ?_ ?_ ?_ ?_ ?_
  · intro k _; rw [uc_ne (by omega)]
  · intro k _; rw [uc_ne (by omega)]
  · intro k _; rw [uc_ne (by omega)]
  · intro k _; rw [uc_ne (by omega)]
  · intro k _; rw [uc_ne (by omega)]
  · rw [uc_ne (by omega)]
  · intro k _; rw [uc_ne (by omega)]
  · rw [uc_ne (by omega)]
  · intro k _; rw [uc_ne (by omega)]
  · intro k hk
    rw [show (9 + 11 : Nat) = 20 from rfl, uc_same]
    exact jx9 (X := X) (b := 9) hk
  · intro k _; rw [uc_ne (by omega)]
theorem O9.tape (X : Nat → Nat → Int32) {f : Nat → Int32} : O9 X (uc X 20 f) := fun c hc => uc_ne (by omega)
theorem O9.hold {X X1 : Nat → Nat → Int32} (h : O9 X X1) {t : Nat} {f : Nat → Int32} {l : Nat} (ht : 9 ≤ t ∧ t + 1 ≤ 21) : O9 X (xHold X1 t f l) := fun c hc => by
  unfold xHold
  rw [ud_ne (by omega), uc_ne (by omega)]
  exact h c hc
theorem p_text0 {X Z : Nat → Nat → Int32} (h : Rel X) : PAIR X Z 88 152 [.int (nI 0)] true := by
  obtain ⟨f, h50, hf⟩ : ∃ f, f ≤ 50 ∧ X 9 14 = nI f := ⟨_, h.ij.fed.2, h.ij.fed.1⟩
  have hf1 : ∀ X1 : Nat → Nat → Int32, (∀ c, 63 ≤ c → X1 c = X c) → X1 64 5 = nI f := fun X1 hx => by rw [show X1 64 5 = jm (X1 64) 0 14 from rfl, h.j1 (E64 hx)]; exact hf
  have hc0 : EC 200 88 [.ref 0, .int (nI 0)] (Wd X Z) (fun r => match sTx (uc X 20 (jx X 9 9)) 0 f with | .inl y => RI (-10 - nI y) (ud (uc X 20 (jx X 9 9)) 9 14 (nI 0)) r | .inr s2 => if s2.1 < f then RI (-10 - nI s2.1) (ud (uc X 20 (jx X 9 9)) 9 14 (nI 0)) r else RI (nI 1) (xHold (ud (uc X 20 (jx X 9 9)) 9 14 (nI 0)) 14 s2.2.2 s2.2.1) r) := by
    rw [Wd_tape]
    exact EC.up (l_text0 0 (uc X 20 (jx X 9 9)) Z (f := f) (by rw [uc_ne (by omega)]; exact hf) h50 (fun k => by rw [uc_same]; exact h.ij.tape k)) (by omega)
  have hj : jx (ud (uc X 20 (jx X 9 9)) 9 14 (nI 0)) 9 = ud (jx X 9) 0 14 (nI 0) := by rw [jx_ud0 (b := 9) rfl, jx_tape]
  have ho : O9 X (ud (uc X 20 (jx X 9 9)) 9 14 (nI 0)) := (O9.tape X).ud (by omega)
  have hs : sTx (uc X 20 (jx X 9 9)) 0 f = sTx (fun _ => jx X 9 9) 0 f := by
    show qq _ f 0 36 0 0 _ = qq _ f 0 36 0 0 _
    rw [uc_same]
  have hwf := sTx_wf (X := fun _ => jx X 9 9) (u := 0) (f := f) h.ij.tape h50
  have hm0 : ∀ X1 Z1 : Nat → Nat → Int32, (∀ c, 63 ≤ c → X1 c = X c) → EC 200 152 [.ref 63, .int (nI 0)] (Wd X1 Z1) (fun r => match sTx (fun _ => jx X 9 9) 0 f with | .inl x => RNT (-10 - nI x) (ud (jx X 9) 0 14 (nI 0)) 99999 X1 r | .inr s => (if s.1 < f then RNT (-10 - nI s.1) (ud (jx X 9) 0 14 (nI 0)) 99999 X1 else RNT (nI 1) (jTx0 (ud (jx X 9) 0 14 (nI 0)) s.2) 99999 X1) r) := by
    intro X1 Z1 hx
    have e := EC.up (l_rText0 0 X1 Z1 (h.rk1 (E64 hx)) (f := f) (hf1 X1 hx) h50) (show 0 + 120 ≤ 200 by omega)
    unfold rTx at e
    rw [h.j1 (E64 hx)] at e
    exact e
  rw [hs] at hc0
  cases hT : sTx (fun _ => jx X 9 9) 0 f with
  | inl y =>
    rw [hT] at hc0
    exact mk_pair h (J := ud (jx X 9) 0 14 (nI 0)) (v := -10 - nI y) (v2 := -10 - nI y) (hc0.mono (fun r hr => XP_r9 ho hj hr)) (fun X1 Z1 hx => (hm0 X1 Z1 hx).mono (fun r hr => by
      rw [hT] at hr
      exact MP_nt hr)) (fun _ => rfl)
  | inr s =>
    rw [hT] at hc0 hwf
    obtain ⟨_, w50, _⟩ := hwf
    by_cases c1 : s.1 < f
    · exact mk_pair h (J := ud (jx X 9) 0 14 (nI 0)) (v := -10 - nI s.1) (v2 := -10 - nI s.1) (hc0.mono (fun r hr => XP_r9 ho hj ((if_pos c1 : (if s.1 < f then RI (-10 - nI s.1) (ud (uc X 20 (jx X 9 9)) 9 14 (nI 0)) r else RI (nI 1) (xHold (ud (uc X 20 (jx X 9 9)) 9 14 (nI 0)) 14 s.2.2 s.2.1) r) = _).mp hr))) (fun X1 Z1 hx => (hm0 X1 Z1 hx).mono (fun r hr => by
        rw [hT] at hr
        replace hr : (if s.1 < f then RNT (-10 - nI s.1) (ud (jx X 9) 0 14 (nI 0)) 99999 X1 else RNT (nI 1) (jTx0 (ud (jx X 9) 0 14 (nI 0)) s.2) 99999 X1) r := hr
        rw [if_pos c1] at hr
        exact MP_nt hr)) (fun _ => rfl)
    · exact mk_pair h (J := jTx0 (ud (jx X 9) 0 14 (nI 0)) s.2) (v := nI 1) (v2 := nI 1) (hc0.mono (fun r hr => XP_r9 (ho.hold (by omega)) (by rw [jx_text0 w50, hj]) ((if_neg c1 : (if s.1 < f then RI (-10 - nI s.1) (ud (uc X 20 (jx X 9 9)) 9 14 (nI 0)) r else RI (nI 1) (xHold (ud (uc X 20 (jx X 9 9)) 9 14 (nI 0)) 14 s.2.2 s.2.1) r) = _).mp hr))) (fun X1 Z1 hx => (hm0 X1 Z1 hx).mono (fun r hr => by
        rw [hT] at hr
        replace hr : (if s.1 < f then RNT (-10 - nI s.1) (ud (jx X 9) 0 14 (nI 0)) 99999 X1 else RNT (nI 1) (jTx0 (ud (jx X 9) 0 14 (nI 0)) s.2) 99999 X1) r := hr
        rw [if_neg c1] at hr
        exact MP_nt hr)) (fun _ => rfl)
theorem p_text1 {X Z : Nat → Nat → Int32} (h : Rel X) : PAIR X Z 88 152 [.int (nI 1)] true := by
  obtain ⟨f, h50, hf⟩ : ∃ f, f ≤ 50 ∧ X 9 14 = nI f := ⟨_, h.ij.fed.2, h.ij.fed.1⟩
  have hf1 : ∀ X1 : Nat → Nat → Int32, (∀ c, 63 ≤ c → X1 c = X c) → X1 64 5 = nI f := fun X1 hx => by rw [show X1 64 5 = jm (X1 64) 0 14 from rfl, h.j1 (E64 hx)]; exact hf
  have hc0 : EC 200 88 [.ref 0, .int (nI 1)] (Wd X Z) (fun r => match sTx (uc X 20 (jx X 9 9)) 1 f with | .inl y => RI (-10 - nI y) (ud (uc X 20 (jx X 9 9)) 9 14 (nI 0)) r | .inr s2 => if s2.1 < f then RI (-10 - nI s2.1) (ud (uc X 20 (jx X 9 9)) 9 14 (nI 0)) r else RI (nI 1) (xHold (ud (uc X 20 (jx X 9 9)) 9 14 (nI 0)) 17 s2.2.2 s2.2.1) r) := by
    rw [Wd_tape]
    exact EC.up (l_text1 0 (uc X 20 (jx X 9 9)) Z (f := f) (by rw [uc_ne (by omega)]; exact hf) h50 (fun k => by rw [uc_same]; exact h.ij.tape k)) (by omega)
  have hj : jx (ud (uc X 20 (jx X 9 9)) 9 14 (nI 0)) 9 = ud (jx X 9) 0 14 (nI 0) := by rw [jx_ud0 (b := 9) rfl, jx_tape]
  have ho : O9 X (ud (uc X 20 (jx X 9 9)) 9 14 (nI 0)) := (O9.tape X).ud (by omega)
  have hs : sTx (uc X 20 (jx X 9 9)) 1 f = sTx (fun _ => jx X 9 9) 1 f := by
    show qq _ f 1 36 0 0 _ = qq _ f 1 36 0 0 _
    rw [uc_same]
  have hwf := sTx_wf (X := fun _ => jx X 9 9) (u := 1) (f := f) h.ij.tape h50
  have hm0 : ∀ X1 Z1 : Nat → Nat → Int32, (∀ c, 63 ≤ c → X1 c = X c) → EC 200 152 [.ref 63, .int (nI 1)] (Wd X1 Z1) (fun r => match sTx (fun _ => jx X 9 9) 1 f with | .inl x => RNT (-10 - nI x) (ud (jx X 9) 0 14 (nI 0)) 99999 X1 r | .inr s => (if s.1 < f then RNT (-10 - nI s.1) (ud (jx X 9) 0 14 (nI 0)) 99999 X1 else RNT (nI 1) (jTx1 (ud (jx X 9) 0 14 (nI 0)) s.2) 99999 X1) r) := by
    intro X1 Z1 hx
    have e := EC.up (l_rText1 0 X1 Z1 (h.rk1 (E64 hx)) (f := f) (hf1 X1 hx) h50) (show 0 + 120 ≤ 200 by omega)
    unfold rTx at e
    rw [h.j1 (E64 hx)] at e
    exact e
  rw [hs] at hc0
  cases hT : sTx (fun _ => jx X 9 9) 1 f with
  | inl y =>
    rw [hT] at hc0
    exact mk_pair h (J := ud (jx X 9) 0 14 (nI 0)) (v := -10 - nI y) (v2 := -10 - nI y) (hc0.mono (fun r hr => XP_r9 ho hj hr)) (fun X1 Z1 hx => (hm0 X1 Z1 hx).mono (fun r hr => by
      rw [hT] at hr
      exact MP_nt hr)) (fun _ => rfl)
  | inr s =>
    rw [hT] at hc0 hwf
    obtain ⟨_, w50, _⟩ := hwf
    by_cases c1 : s.1 < f
    · exact mk_pair h (J := ud (jx X 9) 0 14 (nI 0)) (v := -10 - nI s.1) (v2 := -10 - nI s.1) (hc0.mono (fun r hr => XP_r9 ho hj ((if_pos c1 : (if s.1 < f then RI (-10 - nI s.1) (ud (uc X 20 (jx X 9 9)) 9 14 (nI 0)) r else RI (nI 1) (xHold (ud (uc X 20 (jx X 9 9)) 9 14 (nI 0)) 17 s.2.2 s.2.1) r) = _).mp hr))) (fun X1 Z1 hx => (hm0 X1 Z1 hx).mono (fun r hr => by
        rw [hT] at hr
        replace hr : (if s.1 < f then RNT (-10 - nI s.1) (ud (jx X 9) 0 14 (nI 0)) 99999 X1 else RNT (nI 1) (jTx1 (ud (jx X 9) 0 14 (nI 0)) s.2) 99999 X1) r := hr
        rw [if_pos c1] at hr
        exact MP_nt hr)) (fun _ => rfl)
    · exact mk_pair h (J := jTx1 (ud (jx X 9) 0 14 (nI 0)) s.2) (v := nI 1) (v2 := nI 1) (hc0.mono (fun r hr => XP_r9 (ho.hold (by omega)) (by rw [jx_text1 w50, hj]) ((if_neg c1 : (if s.1 < f then RI (-10 - nI s.1) (ud (uc X 20 (jx X 9 9)) 9 14 (nI 0)) r else RI (nI 1) (xHold (ud (uc X 20 (jx X 9 9)) 9 14 (nI 0)) 17 s.2.2 s.2.1) r) = _).mp hr))) (fun X1 Z1 hx => (hm0 X1 Z1 hx).mono (fun r hr => by
        rw [hT] at hr
        replace hr : (if s.1 < f then RNT (-10 - nI s.1) (ud (jx X 9) 0 14 (nI 0)) 99999 X1 else RNT (nI 1) (jTx1 (ud (jx X 9) 0 14 (nI 0)) s.2) 99999 X1) r := hr
        rw [if_neg c1] at hr
        exact MP_nt hr)) (fun _ => rfl)
theorem p_text {X Z : Nat → Nat → Int32} (h : Rel X) (u : Int32) : PAIR X Z 88 152 [.int u] true := by
  by_cases cu : sUse u = true
  · have c2 := cu
    unfold sUse at c2
    simp only [Bool.or_eq_true, decide_eq_true_eq] at c2
    rcases c2 with e | e
    · subst e; exact p_text0 h
    · subst e; exact p_text1 h
  · have cu2 : sUse u = false := by simpa using cu
    exact mk_pair h (J := (jx X 9)) (v := (sErr 1)) (v2 := (sErr 1)) ((EC.up (l_text_no 0 X Z u cu2) (by omega)).mono (fun r hr => by
        exact XP_er rfl hr)) (fun X1 Z1 hx => (EC.up (l_rText_no 0 X1 Z1 u cu2) (by omega)).mono (fun r hr => by
        exact MP_er (h.rk1 (E64 hx)) (h.j1 (E64 hx)) hr)) (fun _ => rfl)
theorem ord_TR {X X1 : Nat → Nat → Int32} (h : Rel X) (hx : ∀ c, 63 ≤ c → X1 c = X c) (h5 : unN (jx X 9) (jn (jx X 9)) ≤ 5) : TR (unN (jx X 9) (jn (jx X 9))) 0 (nN (jx X 9 0 10)) (sOrd X) (rO X1) := by
  unfold rO
  rw [h.j1 (E64 hx), show X1 64 0 = jm (X1 64) 0 10 from rfl, h.j1 (E64 hx)]
  have hb : jx X 9 0 10 = nI (nN (jx X 9 0 10)) := h.ij.minute.1
  have e := TR_sk (unN (jx X 9) (jn (jx X 9))) (nN (jx X 9 0 10)) h5 (unN (jx X 9) (jn (jx X 9))) 0 5 (jx X 9) (jx X 9) 99999 (-1, X 62, X 61) (-1, X1 73, X1 72) (by omega) (by omega) h.ij (by omega) (Nat.le_refl _) (Sim.rf _) rfl ⟨Or.inl ⟨show (-1 : Int32) < 0 by decide +kernel, show (-1 : Int32) < 0 by decide +kernel⟩, fun k hk => absurd hk (Nat.not_lt_zero k)⟩
  rw [← hb] at e
  exact e
theorem ord_n {X : Nat → Nat → Int32} (h : Rel X) (c : ¬ nI 5 < sOpen (jx X 9)) : unN (jx X 9) (jn (jx X 9)) ≤ 5 := by
  rw [sOpen_un h.ij] at c
  have := Nat.le_trans (unN_le (jx X 9) (jn (jx X 9))) (jn8 h.ij)
  rcases Nat.lt_or_ge 5 (unN (jx X 9) (jn (jx X 9))) with h9 | h9
  · exact absurd (nI_lt h9 (by omega)) c
  · exact h9
theorem TR.neg {many p b : Nat} {s t : skT} (h : TR many p b s t) : s.1 < 0 ↔ t.1 < 0 := by
  rcases h.1 with ⟨h1, h2⟩ | ⟨a, c, h1, h2, h3, h4, _⟩
  · exact ⟨fun _ => h2, fun _ => h1⟩
  · rw [h3, h4]
    exact ⟨fun hh => absurd hh (nI_pos (by omega)), fun hh => absurd hh (nI_pos (by omega))⟩
theorem TR.val {many p b : Nat} {s t : skT} (h : TR many p b s t) (hs : ¬ s.1 < 0) : s.1 - nI b = t.1 ∧ ∀ k, k < many → s.2.1 k = t.2.1 k := by
  rcases h.1 with ⟨h1, h2⟩ | ⟨a, c, h1, h2, h3, h4, h5⟩
  · exact absurd h1 hs
  · refine ⟨?_, h5⟩
    rw [h3, h4, h1, nI_sub (by omega)]
    congr 1
    omega
theorem p_order {X Z : Nat → Nat → Int32} (h : Rel X) (w : Int32) : PAIR X Z 96 182 [.int w] true := by
  by_cases c1 : sIn w (-1) (nI 4) = true
  · by_cases c2 : nI 5 < sOpen (jx X 9)
    · exact mk_pair h (J := (jx X 9)) (v := (sErr 3)) (v2 := (sErr 3)) ((EC.up (l_order 0 X Z h.ij (by omega) w) (by omega)).mono (fun r hr => by
          rw [if_pos c1] at hr
          unfold OrP at hr
          rw [if_pos c2] at hr
          exact XP_er rfl hr)) (fun X1 Z1 hx => (EC.up (l_rOrder 0 X1 Z1 (h.rk1 (E64 hx)) (by omega) w) (by omega)).mono (fun r hr => by
          rw [if_pos c1] at hr
          unfold OrM at hr
          rw [h.j1 (E64 hx)] at hr
          rw [if_pos c2] at hr
          exact MP_er (h.rk1 (E64 hx)) (h.j1 (E64 hx)) hr)) (fun _ => rfl)
    · have h5 := ord_n h c2
      by_cases c3 : (sOrd X).1 < 0 ∨ ¬ w < sOpen (jx X 9)
      · exact mk_pair h (J := (jx X 9)) (v := (sErr 2)) (v2 := (sErr 2)) ((EC.up (l_order 0 X Z h.ij (by omega) w) (by omega)).mono (fun r hr => by
            rw [if_pos c1] at hr
            unfold OrP at hr
            rw [if_neg c2, if_pos c3] at hr
            obtain ⟨X9, ho, Z9, rfl⟩ := hr
            exact ⟨_, Z9, rfl, (XS.op ho rfl).err⟩)) (fun X1 Z1 hx => (EC.up (l_rOrder 0 X1 Z1 (h.rk1 (E64 hx)) (by omega) w) (by omega)).mono (fun r hr => by
            rw [if_pos c1] at hr
            unfold OrM at hr
            rw [h.j1 (E64 hx)] at hr
            have c4 : (rO X1).1 < 0 ∨ ¬ w < sOpen (jx X 9) := by rw [← (ord_TR h hx h5).neg]; exact c3
            rw [if_neg c2, if_pos c4] at hr
            exact MP_oq (h.rk1 (E64 hx)) (h.j1 (E64 hx)) hr)) (fun _ => rfl)
      · have c5 : ¬ (sOrd X).1 < 0 := fun hh => c3 (Or.inl hh)
        exact mk_pair h (J := (jx X 9)) (v := (if w < 0 then (sOrd X).1 - jx X 9 0 10 else (sOrd X).2.1 (nN w))) (v2 := (if w < 0 then (sOrd X).1 - jx X 9 0 10 else (sOrd X).2.1 (nN w))) ((EC.up (l_order 0 X Z h.ij (by omega) w) (by omega)).mono (fun r hr => by
            rw [if_pos c1] at hr
            unfold OrP at hr
            rw [if_neg c2, if_neg c3] at hr
            obtain ⟨X9, ho, Z9, rfl⟩ := hr
            exact ⟨_, Z9, rfl, XS.op ho rfl⟩)) (fun X1 Z1 hx => (EC.up (l_rOrder 0 X1 Z1 (h.rk1 (E64 hx)) (by omega) w) (by omega)).mono (fun r hr => by
            rw [if_pos c1] at hr
            unfold OrM at hr
            rw [h.j1 (E64 hx)] at hr
            have ht := ord_TR h hx h5
            have c4 : ¬ ((rO X1).1 < 0 ∨ ¬ w < sOpen (jx X 9)) := by rw [← ht.neg]; exact c3
            rw [if_neg c2, if_neg c4] at hr
            obtain ⟨v1, v2⟩ := ht.val c5
            have ev : (if w < 0 then (rO X1).1 else (rO X1).2.1 (nN w)) = (if w < 0 then (sOrd X).1 - jx X 9 0 10 else (sOrd X).2.1 (nN w)) := by
              by_cases cw : w < 0
              · rw [if_pos cw, if_pos cw, ← v1, show jx X 9 0 10 = nI (nN (jx X 9 0 10)) from h.ij.minute.1, nN_nI (by have := h.ij.minute.2; omega)]
              · rw [if_neg cw, if_neg cw]
                obtain ⟨q, _, q4, hq⟩ := wIn c1 cw
                refine (v2 (nN w) ?_).symm
                have hw : w < sOpen (jx X 9) := Classical.byContradiction (fun hh => c3 (Or.inr hh))
                rw [sOpen_un h.ij, hq, nI_ltI (by omega) (by omega)] at hw
                rw [hq, nN_nI (by omega)]
                exact hw
            rw [ev] at hr
            exact MP_oq (h.rk1 (E64 hx)) (h.j1 (E64 hx)) hr)) (fun _ => rfl)
  · exact mk_pair h (J := (jx X 9)) (v := (sErr 1)) (v2 := (sErr 1)) ((EC.up (l_order 0 X Z h.ij (by omega) w) (by omega)).mono (fun r hr => by
        rw [if_neg c1] at hr
        exact XP_er rfl hr)) (fun X1 Z1 hx => (EC.up (l_rOrder 0 X1 Z1 (h.rk1 (E64 hx)) (by omega) w) (by omega)).mono (fun r hr => by
        rw [if_neg c1] at hr
        exact MP_er (h.rk1 (E64 hx)) (h.j1 (E64 hx)) hr)) (fun _ => rfl)
theorem mk_pairF {X Z J : Nat → Nat → Int32} {j1 j2 : Nat} {as : List Value} (h : Rel X) (h1 : EC 200 j1 (.ref 0 :: as) (Wd X Z) (fun r => ∃ v, XP v J X r)) (h2 : ∀ X1 Z1, (∀ c, 63 ≤ c → X1 c = X c) → EC 200 j2 (.ref 63 :: as) (Wd X1 Z1) (fun r => ∃ v, MP v J X1 r)) : PAIR X Z j1 j2 as false := by
  refine h1.mono (fun r hr => ?_)
  obtain ⟨v, X1, Z1, rfl, hx⟩ := hr
  refine ⟨v, X1, Z1, rfl, (h2 X1 Z1 (fun c hc => hx.2.2.2 c (by omega) (by omega) (by omega) (by omega))).mono (fun r2 hr2 => ?_)⟩
  obtain ⟨v2, X2, Z2, rfl, hm⟩ := hr2
  exact ⟨v2, X2, Z2, rfl, rel_keep h hx hm, fun hh => by cases hh⟩
theorem sh_ex {X : Nat → Nat → Int32} (h : Rel X) {a : Nat} (ha : a < 4) : ∃ g, g ≤ 40 ∧ X 59 a = nI g ∧ X 77 a = nI g := (h.2.2.2.2.2.2 a ha).2.2.1
theorem sh_b {X : Nat → Nat → Int32} (h : Rel X) {a : Nat} (ha : a < 4) : X 76 a = X 60 a := (h.2.2.2.2.2.2 a ha).2.1
theorem p_orders {X Z : Nat → Nat → Int32} (h : Rel X) (s w : Int32) : PAIR X Z 105 195 [.int s, .int w] false := by
  by_cases c1 : (sIn s (nI 0) (nI 3) && sIn w (nI 0) (nI 1)) = true
  · have c2 := c1
    rw [Bool.and_eq_true] at c2
    obtain ⟨a, _, ha3, rfl⟩ := sIn_ex (by omega) (by omega) c2.1
    have ha : a < 4 := by omega
    obtain ⟨g, g40, hg, hg2⟩ := sh_ex h ha
    exact mk_pairF h (J := (jx X 9)) ((EC.up (l_orders 0 X Z h.ij (by omega) ha w c2.2 hg g40) (by omega)).mono (fun r hr => by
        obtain ⟨v, X8, Z8, rfl, ho | ⟨X7, ho, rfl⟩⟩ := hr
        · exact ⟨v, _, Z8, rfl, XS.ot ho rfl⟩
        · exact ⟨v, _, Z8, rfl, (XS.ot ho rfl).err⟩)) (fun X1 Z1 hx => (EC.up (l_rOrders 0 X1 Z1 (h.rk1 (E64 hx)) (by omega) ha w c2.2 (by rw [hx 77 (by omega)]; exact hg2) g40) (by omega)).mono (fun r hr => by
        obtain ⟨v, X8, Z8, rfl, e8, om⟩ := hr
        exact ⟨v, X8, Z8, rfl, by rw [e8]; exact h.j1 (E64 hx), by rw [e8]; exact (h.rk1 (E64 hx)), om⟩))
  · have cs2 : (sIn s (nI 0) (nI 3) && sIn w (nI 0) (nI 1)) = false := by simpa using c1
    exact mk_pair h (J := (jx X 9)) (v := (sErr 1)) (v2 := (sErr 1)) ((EC.up (l_orders_no 0 X Z s w cs2) (by omega)).mono (fun r hr => by
        exact XP_er rfl hr)) (fun X1 Z1 hx => (EC.up (l_rOrders_no 0 X1 Z1 s w cs2) (by omega)).mono (fun r hr => by
        exact MP_er (h.rk1 (E64 hx)) (h.j1 (E64 hx)) hr)) (fun hh => by cases hh)
theorem p_judge {X Z : Nat → Nat → Int32} (h : Rel X) (s : Int32) : PAIR X Z 118 219 [.int s] false := by
  by_cases cs : sIn s (nI 0) (nI 3) = true
  · obtain ⟨a, _, ha3, rfl⟩ := sIn_ex (by omega) (by omega) cs
    have ha : a < 4 := by omega
    obtain ⟨g, g40, hg, hg2⟩ := sh_ex h ha
    by_cases c1 : X 60 a = 0
    · exact mk_pair h (J := (jx X 9)) (v := (sErr 2)) (v2 := (sErr 2)) ((EC.up (l_judge 0 X Z h.ij ha hg g40) (by omega)).mono (fun r hr => by
          rw [if_pos c1] at hr
          exact XP_er rfl hr)) (fun X1 Z1 hx => (EC.up (l_rJudge_0 0 X1 Z1 ha (by rw [hx 76 (by omega), sh_b h ha]; exact c1)) (by omega)).mono (fun r hr => by
          exact MP_er (h.rk1 (E64 hx)) (h.j1 (E64 hx)) hr)) (fun hh => by cases hh)
    · exact mk_pairF h (J := (jx X 9)) ((EC.up (l_judge 0 X Z h.ij ha hg g40) (by omega)).mono (fun r hr => by
          rw [if_neg c1] at hr
          exact ⟨_, XP_ri rfl hr⟩)) (fun X1 Z1 hx => (EC.up (l_rJudge 0 X1 Z1 (h.rk1 (E64 hx)) (by omega) ha (by rw [hx 76 (by omega), sh_b h ha]; exact c1) (by rw [hx 77 (by omega)]; exact hg2) g40) (by omega)).mono (fun r hr => by
          obtain ⟨v, Z8, rfl⟩ := hr
          exact ⟨v, X1, Z8, rfl, MS.rf (h.rk1 (E64 hx)) (h.j1 (E64 hx))⟩))
  · have cs2 : sIn s (nI 0) (nI 3) = false := by simpa using cs
    exact mk_pair h (J := (jx X 9)) (v := (sErr 1)) (v2 := (sErr 1)) ((EC.up (l_judge_no 0 X Z s cs2) (by omega)).mono (fun r hr => by
        exact XP_er rfl hr)) (fun X1 Z1 hx => (EC.up (l_rJudge_no 0 X1 Z1 s cs2) (by omega)).mono (fun r hr => by
        exact MP_er (h.rk1 (E64 hx)) (h.j1 (E64 hx)) hr)) (fun hh => by cases hh)
theorem p_restore {X Z : Nat → Nat → Int32} (h : Rel X) : PAIR X Z 120 221 [] true := by
  have h04 : ∀ X1 : Nat → Nat → Int32, (∀ c, 63 ≤ c → X1 c = X c) → X1 63 3 = X 0 4 := fun X1 hx => by rw [hx 63 (by omega)]; exact h.2.2.2.2.1.symm
  by_cases c1 : X 0 4 = 0
  · exact mk_pair h (J := (jx X 9)) (v := (sErr 2)) (v2 := (sErr 2)) ((EC.up (l_restore 0 X Z h.im) (by omega)).mono (fun r hr => by
        rw [if_pos c1] at hr
        exact XP_er rfl hr)) (fun X1 Z1 hx => (EC.up (l_rRestore 0 X1 Z1) (by omega)).mono (fun r hr => by
        rw [if_pos (by rw [h04 X1 hx]; exact c1)] at hr
        exact MP_er (h.rk1 (E64 hx)) (h.j1 (E64 hx)) hr)) (fun _ => rfl)
  · obtain ⟨k1, k2⟩ : RK 99999 (X 65) ∧ jx X 22 = jm (X 65) := h.2.2.2.1.resolve_left c1
    exact mk_pair h (J := (jx X 22)) (v := (jx X 22 0 10)) (v2 := (jx X 22 0 10)) ((EC.up (l_restore 0 X Z h.im) (by omega)).mono (fun r hr => by
        rw [if_neg c1] at hr
        exact XP_rt hr rfl)) (fun X1 Z1 hx => (EC.up (l_rRestore 0 X1 Z1) (by omega)).mono (fun r hr => by
        rw [if_neg (by rw [h04 X1 hx]; exact c1), hx 65 (by omega)] at hr
        rw [show X 65 0 = jx X 22 0 10 from by rw [k2]; rfl] at hr
        obtain ⟨Z9, rfl⟩ := hr
        exact ⟨_, Z9, rfl, by rw [uc_same, k2], by rw [uc_same]; exact k1, OM.o64 (fun c hc => uc_ne hc)⟩)) (fun _ => rfl)
