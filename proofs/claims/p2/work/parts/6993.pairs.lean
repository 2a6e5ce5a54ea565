/-! BOTH SIDES, call by call: voices, sheets, the image -/
theorem sx8 (v : Int32) (i : Nat) (h : i < 32) : bt v.toInt8.toInt32 i = if i < 8 then bt v i else bt v 7 := by
  unfold bt
  rw [show v.toInt8.toInt32.toBitVec = (v.toBitVec.signExtend 8).signExtend 32 from rfl, BitVec.getLsbD_signExtend, BitVec.getLsbD_signExtend]
  rw [show (BitVec.signExtend 8 v.toBitVec).msb = (BitVec.signExtend 8 v.toBitVec).getLsbD 7 from BitVec.msb_eq_getLsbD_last _, BitVec.getLsbD_signExtend]
  by_cases h8 : i < 8
  · simp [h, h8, show i < 32 by omega]
  · simp [h, h8]
theorem sx16 (v : Int32) (i : Nat) (h : i < 32) : bt v.toInt16.toInt32 i = if i < 16 then bt v i else bt v 15 := by
  unfold bt
  rw [show v.toInt16.toInt32.toBitVec = (v.toBitVec.signExtend 16).signExtend 32 from rfl, BitVec.getLsbD_signExtend, BitVec.getLsbD_signExtend]
  rw [show (BitVec.signExtend 16 v.toBitVec).msb = (BitVec.signExtend 16 v.toBitVec).getLsbD 15 from BitVec.msb_eq_getLsbD_last _, BitVec.getLsbD_signExtend]
  by_cases h8 : i < 16
  · simp [h, h8, show i < 32 by omega]
  · simp [h, h8]
theorem bt255 (i : Nat) (h : i < 32) : bt (nI 255) i = decide (i < 8) := fin32 (p := fun i => bt (nI 255) i = decide (i < 8)) h (by decide +kernel)
theorem bt65535 (i : Nat) (h : i < 32) : bt 65535 i = decide (i < 16) := fin32 (p := fun i => bt 65535 i = decide (i < 16)) h (by decide +kernel)
theorem low8 (v : Int32) : v.toInt8.toInt32 &&& nI 255 = v &&& nI 255 := by
  apply bt_ext
  intro i hi
  rw [bt_and, bt_and, bt255 i hi, sx8 v i hi]
  by_cases h : i < 8
  · rw [if_pos h]
  · rw [decide_eq_false h, Bool.and_false, Bool.and_false]
theorem low16 (v : Int32) : v.toInt16.toInt32 &&& 65535 = v &&& 65535 := by
  apply bt_ext
  intro i hi
  rw [bt_and, bt_and, bt65535 i hi, sx16 v i hi]
  by_cases h : i < 16
  · rw [if_pos h]
  · rw [decide_eq_false h, Bool.and_false, Bool.and_false]
theorem two8 (v : Int32) : v.toInt8.toInt32.toInt8.toInt32 = v.toInt8.toInt32 := by
  apply bt_ext
  intro i hi
  rw [sx8 _ i hi, sx8 v i hi, sx8 v 7 (by omega)]
  by_cases h : i < 8
  · rw [if_pos h, if_pos h]
  · rw [if_neg h, if_neg h, if_pos (by omega)]
theorem two16 (v : Int32) : v.toInt16.toInt32.toInt16.toInt32 = v.toInt16.toInt32 := by
  apply bt_ext
  intro i hi
  rw [sx16 _ i hi, sx16 v i hi, sx16 v 15 (by omega)]
  by_cases h : i < 16
  · rw [if_pos h, if_pos h]
  · rw [if_neg h, if_neg h, if_pos (by omega)]
theorem un8 (v : Int32) : (v &&& nI 255).toInt8.toInt32 = v.toInt8.toInt32 := by
  apply bt_ext
  intro i hi
  rw [sx8 _ i hi, sx8 v i hi, bt_and, bt_and, bt255 i hi, bt255 7 (by omega)]
  by_cases h : i < 8
  · rw [if_pos h, if_pos h, decide_eq_true h, Bool.and_true]
  · rw [if_neg h, if_neg h]
    simp
theorem un16 (v : Int32) : (v &&& 65535).toInt16.toInt32 = v.toInt16.toInt32 := by
  apply bt_ext
  intro i hi
  rw [sx16 _ i hi, sx16 v i hi, bt_and, bt_and, bt65535 i hi, bt65535 15 (by omega)]
  by_cases h : i < 16
  · rw [if_pos h, if_pos h, decide_eq_true h, Bool.and_true]
  · rw [if_neg h, if_neg h]
    simp
theorem CR_put (b v : Int32) : CRl b (sLow v b) (yLow v b) := by
  unfold CRl sLow yLow
  by_cases h8 : b = nI 8
  · rw [if_pos h8, if_pos h8, if_pos h8, if_pos h8]
    exact ⟨(low8 v).symm, (two8 v).symm⟩
  · rw [if_neg h8, if_neg h8, if_neg h8, if_neg h8]
    by_cases h16 : b = nI 16
    · rw [if_pos h16, if_pos h16, if_pos h16, if_pos h16]
      exact ⟨(low16 v).symm, (two16 v).symm⟩
    · rw [if_neg h16, if_neg h16, if_neg h16, if_neg h16]
      exact ⟨rfl, rfl⟩
theorem CR_0 (b : Int32) : CRl b (nI 0) (nI 0) := by
  unfold CRl sLow yLow
  by_cases h8 : b = nI 8
  · rw [if_pos h8, if_pos h8]; decide +kernel
  · rw [if_neg h8, if_neg h8]
    by_cases h16 : b = nI 16
    · rw [if_pos h16, if_pos h16]; decide +kernel
    · rw [if_neg h16, if_neg h16]; exact ⟨rfl, rfl⟩
theorem CR_in {b c r : Int32} (h : CRl b c r) : sIn c (nI 0) (nI 9) = sIn r (nI 0) (nI 9) ∧ (sIn r (nI 0) (nI 9) = true → c = r) := by
  have key : (sIn c (nI 0) (nI 9) = true → c = r) → (sIn r (nI 0) (nI 9) = true → c = r) → sIn c (nI 0) (nI 9) = sIn r (nI 0) (nI 9) ∧ (sIn r (nI 0) (nI 9) = true → c = r) := by
    intro k1 k2
    refine ⟨?_, k2⟩
    cases h1 : sIn c (nI 0) (nI 9) with
    | true => rw [← k1 h1, h1]
    | false =>
      cases h2 : sIn r (nI 0) (nI 9) with
      | false => rfl
      | true => rw [k2 h2, h2] at h1; cases h1
  obtain ⟨h1, h2⟩ := h
  unfold sLow at h1
  unfold yLow at h2
  by_cases h8 : b = nI 8
  · rw [if_pos h8] at h1 h2
    refine key (fun hc => ?_) (fun hr => ?_)
    · obtain ⟨j, _, hj, e⟩ := sIn_ex (by omega) (by omega) hc
      rw [h2, ← un8, ← h1, e]
      exact (fin_le (m := 9) (p := fun j => (nI j).toInt8.toInt32 = nI j) hj (by decide +kernel)).symm
    · obtain ⟨j, _, hj, e⟩ := sIn_ex (by omega) (by omega) hr
      rw [h1, e]
      exact fin_le (m := 9) (p := fun j => nI j &&& nI 255 = nI j) hj (by decide +kernel)
  · rw [if_neg h8] at h1 h2
    by_cases h16 : b = nI 16
    · rw [if_pos h16] at h1 h2
      refine key (fun hc => ?_) (fun hr => ?_)
      · obtain ⟨j, _, hj, e⟩ := sIn_ex (by omega) (by omega) hc
        rw [h2, ← un16, ← h1, e]
        exact (fin_le (m := 9) (p := fun j => (nI j).toInt16.toInt32 = nI j) hj (by decide +kernel)).symm
      · obtain ⟨j, _, hj, e⟩ := sIn_ex (by omega) (by omega) hr
        rw [h1, e]
        exact fin_le (m := 9) (p := fun j => nI j &&& 65535 = nI j) hj (by decide +kernel)
    · rw [if_neg h16] at h1
      exact key (fun _ => h1) (fun _ => h1)
theorem jSc_al {f f' : Nat → Int32} (h : ∀ k, k < 40 → sIn (f k) (nI 0) (nI 9) = sIn (f' k) (nI 0) (nI 9) ∧ (sIn (f' k) (nI 0) (nI 9) = true → f k = f' k)) : ∀ (m i : Nat) (J : Nat → Nat → Int32), i + m ≤ 40 → jSc f m i J = jSc f' m i J
  | 0, _, _, _ => rfl
  | m + 1, i, J, hi => by
    obtain ⟨h1, h2⟩ := h i (by omega)
    cases hb : sIn (f' i) (nI 0) (nI 9) with
    | true => rw [jSc_y (by rw [h1]; exact hb), jSc_y hb, h2 hb]; exact jSc_al h m (i + 1) _ (by omega)
    | false => rw [jSc_n (by rw [h1]; exact hb), jSc_n hb]
theorem sc_J {f : Nat → Int32} : ∀ (m i : Nat) (J : Nat → Nat → Int32), jSc f m i J = jSc f m i J := fun _ _ _ => rfl
theorem p_screws {X Z : Nat → Nat → Int32} (h : Rel X) (s : Int32) : PAIR X Z 117 218 [.int s] true := by
  by_cases cs : sIn s (nI 0) (nI 3) = true
  · obtain ⟨a, _, ha3, rfl⟩ := sIn_ex (by omega) (by omega) cs
    have ha : a < 4 := by omega
    obtain ⟨g, g40, hg, hg2⟩ := sh_ex h ha
    by_cases c1 : X 60 a = 0
    · exact mk_pair h (J := (jx X 9)) (v := (sErr 2)) (v2 := (sErr 2)) ((EC.up (l_screws 0 X Z h.ij ha hg g40) (by omega)).mono (fun r hr => by
          rw [if_pos c1] at hr
          exact XP_er rfl hr)) (fun X1 Z1 hx => (EC.up (l_rScrews_0 0 X1 Z1 ha (by rw [hx 76 (by omega), sh_b h ha]; exact c1)) (by omega)).mono (fun r hr => by
          exact MP_er (h.rk1 (E64 hx)) (h.j1 (E64 hx)) hr)) (fun _ => rfl)
    · have h8 := jn8 h.ij
      have hal : jSc (X (55 + a)) (min g (jn (jx X 9))) 0 (jx X 9) = jSc (fun k => X 78 (40 * a + k)) (min g (jn (jx X 9))) 0 (jx X 9) := jSc_al (fun k hk => CR_in ((h.2.2.2.2.2.2 a ha).2.2.2 k hk)) _ _ _ (by omega)
      exact mk_pair h (J := (jSc (X (55 + a)) (min g (jn (jx X 9))) 0 (jx X 9)).1) (v := (nI (jSc (X (55 + a)) (min g (jn (jx X 9))) 0 (jx X 9)).2)) (v2 := (nI (jSc (X (55 + a)) (min g (jn (jx X 9))) 0 (jx X 9)).2)) ((EC.up (l_screws 0 X Z h.ij ha hg g40) (by omega)).mono (fun r hr => by
          rw [if_neg c1] at hr
          exact XP_rj hr)) (fun X1 Z1 hx => (EC.up (l_rScrews 0 X1 Z1 (h.rk1 (E64 hx)) ha (by rw [hx 76 (by omega), sh_b h ha]; exact c1) (by rw [hx 77 (by omega)]; exact hg2) g40) (by omega)).mono (fun r hr => by
          rw [h.j1 (E64 hx), hx 78 (by omega), ← hal] at hr
          exact MP_nj hr)) (fun _ => rfl)
  · have cs2 : sIn s (nI 0) (nI 3) = false := by simpa using cs
    exact mk_pair h (J := (jx X 9)) (v := (sErr 1)) (v2 := (sErr 1)) ((EC.up (l_screws_no 0 X Z s cs2) (by omega)).mono (fun r hr => by
        exact XP_er rfl hr)) (fun X1 Z1 hx => (EC.up (l_rScrews_no 0 X1 Z1 s cs2) (by omega)).mono (fun r hr => by
        exact MP_er (h.rk1 (E64 hx)) (h.j1 (E64 hx)) hr)) (fun _ => rfl)
theorem mk_pairC {X Z : Nat → Nat → Int32} {j1 j2 : Nat} {as : List Value} {v : Int32} {X1 : Nat → Nat → Int32} {X2 : Nat → Nat → Int32} (h1 : EC 200 j1 (.ref 0 :: as) (Wd X Z) (RI v X1)) (h2 : ∀ Z1, EC 200 j2 (.ref 63 :: as) (Wd X1 Z1) (RI v X2)) (hR : Rel X2) : PAIR X Z j1 j2 as true := by
  refine h1.mono (fun r hr => ?_)
  obtain ⟨Z1, rfl⟩ := hr
  refine ⟨v, X1, Z1, rfl, (h2 Z1).mono (fun r2 hr2 => ?_)⟩
  obtain ⟨Z2, rfl⟩ := hr2
  exact ⟨v, X2, Z2, rfl, hR, fun _ => rfl⟩
theorem rel_sheets {X X2 : Nat → Nat → Int32} (h : Rel X) (h1 : ∀ c, (c < 55 ∨ 60 < c) → (c < 76 ∨ 78 < c) → X2 c = X c) (hs : ∀ a, a < 4 → SR X2 a) : Rel X2 := by
  have h9 : jx X2 9 = jx X 9 := jx_off (fun c c1 c2 => h1 c (by omega) (by omega))
  have h22 : jx X2 22 = jx X 22 := jx_off (fun c c1 c2 => h1 c (by omega) (by omega))
  refine ⟨by rw [h1 64 (by omega) (by omega)]; exact h.rk, by rw [h9, h1 64 (by omega) (by omega)]; exact h.j, by rw [h22]; exact h.im, by rw [h1 0 (by omega) (by omega), h1 65 (by omega) (by omega), h22]; exact h.2.2.2.1, by rw [h1 0 (by omega) (by omega), h1 63 (by omega) (by omega)]; exact h.2.2.2.2.1, ?_, hs⟩
  unfold TRc
  rw [h1 51 (by omega) (by omega), h1 63 (by omega) (by omega), h1 52 (by omega) (by omega), h1 75 (by omega) (by omega)]
  exact h.2.2.2.2.2.1
theorem SR_put {X : Nat → Nat → Int32} (h : Rel X) {a j : Nat} (ha : a < 4) (hj : j < 40) (v : Int32) : Rel (ud (ud X (55 + a) j (sLow v (X 60 a))) 78 (40 * a + j) (yLow v (X 60 a))) := by
  refine rel_sheets h (fun c c1 c2 => by rw [ud_ne (by omega), ud_ne (by omega)]) (fun b hb => ?_)
  obtain ⟨s1, s2, s3, s4⟩ := h.2.2.2.2.2.2 b hb
  refine ⟨by rw [ud_ne (by omega), ud_ne (by omega)]; exact s1, by rw [ud_ne (by omega), ud_ne (by omega), ud_ne (by omega), ud_ne (by omega)]; exact s2, by rw [ud_ne (by omega), ud_ne (by omega), ud_ne (by omega), ud_ne (by omega)]; exact s3, fun k hk => ?_⟩
  rw [show ud (ud X (55 + a) j (sLow v (X 60 a))) 78 (40 * a + j) (yLow v (X 60 a)) 60 = X 60 from by rw [ud_ne (by omega), ud_ne (by omega)], show ud (ud X (55 + a) j (sLow v (X 60 a))) 78 (40 * a + j) (yLow v (X 60 a)) (55 + b) = ud X (55 + a) j (sLow v (X 60 a)) (55 + b) from by rw [ud_ne (by omega)], ud_same, show ud X (55 + a) j (sLow v (X 60 a)) 78 = X 78 from ud_ne (by omega)]
  by_cases hba : b = a
  · subst hba
    rw [ud_same, u1_at, u1_at]
    by_cases hkj : k = j
    · subst hkj
      rw [if_pos rfl, if_pos rfl]
      exact CR_put _ _
    · rw [if_neg hkj, if_neg (by omega)]
      exact s4 k hk
  · rw [ud_ne (by omega), u1_ne (by omega)]
    exact s4 k hk
theorem p_put {X Z : Nat → Nat → Int32} (h : Rel X) (s i v : Int32) : PAIR X Z 113 214 [.int s, .int i, .int v] true := by
  by_cases cs : sIn s (nI 0) (nI 3) = true
  · obtain ⟨a, _, ha3, rfl⟩ := sIn_ex (by omega) (by omega) cs
    have ha : a < 4 := by omega
    obtain ⟨g, g40, hg, hg2⟩ := sh_ex h ha
    by_cases c1 : X 60 a = 0
    · exact mk_pair h (J := (jx X 9)) (v := (sErr 2)) (v2 := (sErr 2)) ((EC.up (l_put 0 X Z ha i v hg g40) (by omega)).mono (fun r hr => by
          rw [if_pos c1] at hr
          exact XP_er rfl hr)) (fun X1 Z1 hx => (EC.up (l_rPut_0 0 X1 Z1 ha (by rw [hx 76 (by omega), sh_b h ha]; exact c1) i v) (by omega)).mono (fun r hr => by
          exact MP_er (h.rk1 (E64 hx)) (h.j1 (E64 hx)) hr)) (fun _ => rfl)
    · by_cases c2 : sIn i (nI 0) (nI g - nI 1) = true
      · obtain ⟨j, hj, rfl⟩ := sIn_lt (by omega) c2
        have hj2 : nN (nI j) = j := nN_nI (by omega)
        refine mk_pairC (v := nI 1) ((EC.up (l_put 0 X Z ha (nI j) v hg g40) (by omega)).mono (fun r hr => by
            rw [if_neg c1, if_pos c2, hj2] at hr
            exact hr)) (fun Z1 => (EC.up (l_rPut 0 (ud X (55 + a) j (sLow v (X 60 a))) Z1 ha (by rw [ud_ne (by omega), sh_b h ha]; exact c1) (nI j) v (g := g) (by rw [ud_ne (by omega)]; exact hg2) g40) (by omega)).mono (fun r hr => by
            rw [if_pos c2, hj2, show ud X (55 + a) j (sLow v (X 60 a)) 76 a = X 60 a from by rw [ud_ne (by omega)]; exact sh_b h ha] at hr
            exact hr)) (SR_put h ha (by omega) v)
      · exact mk_pair h (J := (jx X 9)) (v := (sErr 1)) (v2 := (sErr 1)) ((EC.up (l_put 0 X Z ha i v hg g40) (by omega)).mono (fun r hr => by
            rw [if_neg c1, if_neg c2] at hr
            exact XP_er rfl hr)) (fun X1 Z1 hx => (EC.up (l_rPut 0 X1 Z1 ha (by rw [hx 76 (by omega), sh_b h ha]; exact c1) i v (g := g) (by rw [hx 77 (by omega)]; exact hg2) g40) (by omega)).mono (fun r hr => by
            rw [if_neg c2] at hr
            exact MP_er (h.rk1 (E64 hx)) (h.j1 (E64 hx)) hr)) (fun _ => rfl)
  · have cs2 : sIn s (nI 0) (nI 3) = false := by simpa using cs
    exact mk_pair h (J := (jx X 9)) (v := (sErr 1)) (v2 := (sErr 1)) ((EC.up (l_put_no 0 X Z s i v cs2) (by omega)).mono (fun r hr => by
        exact XP_er rfl hr)) (fun X1 Z1 hx => (EC.up (l_rPut_no 0 X1 Z1 s i v cs2) (by omega)).mono (fun r hr => by
        exact MP_er (h.rk1 (E64 hx)) (h.j1 (E64 hx)) hr)) (fun _ => rfl)
