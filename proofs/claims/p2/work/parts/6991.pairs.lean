/-! BOTH SIDES, call by call -/
theorem E64 {X X1 : Nat → Nat → Int32} (h : ∀ c, 63 ≤ c → X1 c = X c) : X1 64 = X 64 := h 64 (by omega)
theorem p_step {X Z : Nat → Nat → Int32} (h : Rel X) (km s nd : Int32) : PAIR X Z 75 126 [.int km, .int s, .int nd] true := by
  by_cases c1 : sStepOk (jx X 9 0 1) km s nd = true
  · by_cases c2 : jn (jx X 9) < 8
    · exact mk_pair h (J := (jAdd (jx X 9) (jn (jx X 9)) km s nd)) (v := (nI (jn (jx X 9)))) (v2 := (nI (jn (jx X 9)))) ((EC.up (l_step 0 X Z h.ij km s nd) (by omega)).mono (fun r hr => by
          rw [if_pos c1, if_pos c2] at hr
          exact XP_r9 (fun c hc => by unfold xAdd; rw [ud_ne (by omega), ud_ne (by omega), ud_ne (by omega), ud_ne (by omega), ud_ne (by omega)]) (jx_xAdd c2) hr)) (fun X1 Z1 hx => (EC.up (l_rStep 0 X1 Z1 (h.rk1 (E64 hx)) km s nd) (by omega)).mono (fun r hr => by
          rw [h.j1 (E64 hx)] at hr
          rw [if_pos c1, if_pos c2] at hr
          exact MP_nj hr)) (fun _ => rfl)
    · exact mk_pair h (J := (jx X 9)) (v := (sErr 4)) (v2 := (sErr 4)) ((EC.up (l_step 0 X Z h.ij km s nd) (by omega)).mono (fun r hr => by
          rw [if_pos c1, if_neg c2] at hr
          exact XP_er rfl hr)) (fun X1 Z1 hx => (EC.up (l_rStep 0 X1 Z1 (h.rk1 (E64 hx)) km s nd) (by omega)).mono (fun r hr => by
          rw [h.j1 (E64 hx)] at hr
          rw [if_pos c1, if_neg c2] at hr
          exact MP_er (h.rk1 (E64 hx)) (h.j1 (E64 hx)) hr)) (fun _ => rfl)
  · exact mk_pair h (J := (jx X 9)) (v := (sErr 1)) (v2 := (sErr 1)) ((EC.up (l_step 0 X Z h.ij km s nd) (by omega)).mono (fun r hr => by
        rw [if_neg c1] at hr
        exact XP_er rfl hr)) (fun X1 Z1 hx => (EC.up (l_rStep 0 X1 Z1 (h.rk1 (E64 hx)) km s nd) (by omega)).mono (fun r hr => by
        rw [h.j1 (E64 hx)] at hr
        rw [if_neg c1] at hr
        exact MP_er (h.rk1 (E64 hx)) (h.j1 (E64 hx)) hr)) (fun _ => rfl)
theorem p_ofStep {X Z : Nat → Nat → Int32} (h : Rel X) (s w : Int32) : PAIR X Z 78 131 [.int s, .int w] true := by
  by_cases cs : jHas (jx X 9) s = true
  · obtain ⟨k, hk, rfl⟩ := xHas_k h.ij (show xHas X s = true from cs)
    have hk1 : ∀ X1 : Nat → Nat → Int32, X1 64 = X 64 → k < jn (jm (X1 64)) := fun X1 e => by rw [h.j1 e]; exact hk
    by_cases c1 : sIn w (nI 0) (nI 9) = true
    · exact mk_pair h (J := (jx X 9)) (v := (sOf (jx X 9) k w)) (v2 := (sOf (jx X 9) k w)) ((EC.up (l_ofStep 0 X Z h.ij hk w) (by omega)).mono (fun r hr => by
          rw [if_pos c1] at hr
          exact XP_ri rfl hr)) (fun X1 Z1 hx => (EC.up (l_rOfStep 0 X1 Z1 (h.rk1 (E64 hx)) (by omega) (hk1 X1 (E64 hx)) w) (by omega)).mono (fun r hr => by
          rw [h.j1 (E64 hx)] at hr
          rw [if_pos c1] at hr
          exact MP_ri (h.rk1 (E64 hx)) (h.j1 (E64 hx)) hr)) (fun _ => rfl)
    · exact mk_pair h (J := (jx X 9)) (v := (sErr 1)) (v2 := (sErr 1)) ((EC.up (l_ofStep 0 X Z h.ij hk w) (by omega)).mono (fun r hr => by
          rw [if_neg c1] at hr
          exact XP_er rfl hr)) (fun X1 Z1 hx => (EC.up (l_rOfStep 0 X1 Z1 (h.rk1 (E64 hx)) (by omega) (hk1 X1 (E64 hx)) w) (by omega)).mono (fun r hr => by
          rw [h.j1 (E64 hx)] at hr
          rw [if_neg c1] at hr
          exact MP_er (h.rk1 (E64 hx)) (h.j1 (E64 hx)) hr)) (fun _ => rfl)
  · have cs2 : jHas (jx X 9) s = false := by simpa using cs
    exact mk_pair h (J := (jx X 9)) (v := sErr 1) (v2 := sErr 1) ((EC.up (l_ofStep_no 0 X Z s w (show xHas X s = false from cs2)) (by omega)).mono (fun r hr => by
        exact XP_er rfl hr)) (fun X1 Z1 hx => (EC.up (l_rOfStep_no 0 X1 Z1 (h.rk1 (E64 hx)) s w (by rw [h.j1 (E64 hx)]; exact cs2)) (by omega)).mono (fun r hr => by
        exact MP_er (h.rk1 (E64 hx)) (h.j1 (E64 hx)) hr)) (fun _ => rfl)
theorem p_change {X Z : Nat → Nat → Int32} (h : Rel X) (s w v : Int32) : PAIR X Z 80 146 [.int s, .int w, .int v] true := by
  by_cases cs : jHas (jx X 9) s = true
  · obtain ⟨k, hk, rfl⟩ := xHas_k h.ij (show xHas X s = true from cs)
    have hk1 : ∀ X1 : Nat → Nat → Int32, X1 64 = X 64 → k < jn (jm (X1 64)) := fun X1 e => by rw [h.j1 e]; exact hk
    have hk8 : k < 8 := Nat.lt_of_lt_of_le hk (jn8 h.ij)
    by_cases c1 : sIn v (nI 0) (sMost k w) = true
    · by_cases c2 : w = 0
      · exact mk_pair h (J := (ud (jx X 9) 3 k v)) (v := (jx X 9 3 k)) (v2 := (jx X 9 3 k)) ((EC.up (l_change 0 X Z h.ij hk w v) (by omega)).mono (fun r hr => by
            rw [if_pos c1, if_pos c2] at hr
            exact XP_r9 (fun c hc => ud_ne (by omega)) (jx_ud3 hk8) hr)) (fun X1 Z1 hx => (EC.up (l_rChange 0 X1 Z1 (h.rk1 (E64 hx)) (hk1 X1 (E64 hx)) w v) (by omega)).mono (fun r hr => by
            rw [h.j1 (E64 hx)] at hr
            rw [if_pos c1, if_pos c2] at hr
            exact MP_nj hr)) (fun _ => rfl)
      · by_cases c3 : w = nI 1
        · exact mk_pair h (J := (ud (jx X 9) 4 k v)) (v := (jx X 9 4 k)) (v2 := (jx X 9 4 k)) ((EC.up (l_change 0 X Z h.ij hk w v) (by omega)).mono (fun r hr => by
              rw [if_pos c1, if_neg c2, if_pos c3] at hr
              exact XP_r9 (fun c hc => ud_ne (by omega)) (jx_ud4 hk8) hr)) (fun X1 Z1 hx => (EC.up (l_rChange 0 X1 Z1 (h.rk1 (E64 hx)) (hk1 X1 (E64 hx)) w v) (by omega)).mono (fun r hr => by
              rw [h.j1 (E64 hx)] at hr
              rw [if_pos c1, if_neg c2, if_pos c3] at hr
              exact MP_nj hr)) (fun _ => rfl)
        · by_cases c4 : sDone (jx X 9) k = true
          · exact mk_pair h (J := (ud (jx X 9) 0 7 (sWith (jx X 9 0 7) (nI k) (decide (v = nI 1))))) (v := (bI (sBit (jx X 9 0 7) (nI k)))) (v2 := (bI (sBit (jx X 9 0 7) (nI k)))) ((EC.up (l_change 0 X Z h.ij hk w v) (by omega)).mono (fun r hr => by
                rw [if_pos c1, if_neg c2, if_neg c3, if_pos (show sBit (jx X 9 0 6) (nI k) = true from c4)] at hr
                exact XP_r9 (fun c hc => ud_ne (by omega)) (jx_ud0 (b := 9) rfl) hr)) (fun X1 Z1 hx => (EC.up (l_rChange 0 X1 Z1 (h.rk1 (E64 hx)) (hk1 X1 (E64 hx)) w v) (by omega)).mono (fun r hr => by
                rw [h.j1 (E64 hx)] at hr
                rw [if_pos c1, if_neg c2, if_neg c3, if_pos c4] at hr
                exact MP_nj hr)) (fun _ => rfl)
          · exact mk_pair h (J := (jx X 9)) (v := (sErr 3)) (v2 := (sErr 3)) ((EC.up (l_change 0 X Z h.ij hk w v) (by omega)).mono (fun r hr => by
                rw [if_pos c1, if_neg c2, if_neg c3, if_neg (show ¬ sBit (jx X 9 0 6) (nI k) = true from c4)] at hr
                exact XP_er rfl hr)) (fun X1 Z1 hx => (EC.up (l_rChange 0 X1 Z1 (h.rk1 (E64 hx)) (hk1 X1 (E64 hx)) w v) (by omega)).mono (fun r hr => by
                rw [h.j1 (E64 hx)] at hr
                rw [if_pos c1, if_neg c2, if_neg c3, if_neg c4] at hr
                exact MP_er (h.rk1 (E64 hx)) (h.j1 (E64 hx)) hr)) (fun _ => rfl)
    · exact mk_pair h (J := (jx X 9)) (v := (sErr 1)) (v2 := (sErr 1)) ((EC.up (l_change 0 X Z h.ij hk w v) (by omega)).mono (fun r hr => by
          rw [if_neg c1] at hr
          exact XP_er rfl hr)) (fun X1 Z1 hx => (EC.up (l_rChange 0 X1 Z1 (h.rk1 (E64 hx)) (hk1 X1 (E64 hx)) w v) (by omega)).mono (fun r hr => by
          rw [h.j1 (E64 hx)] at hr
          rw [if_neg c1] at hr
          exact MP_er (h.rk1 (E64 hx)) (h.j1 (E64 hx)) hr)) (fun _ => rfl)
  · have cs2 : jHas (jx X 9) s = false := by simpa using cs
    exact mk_pair h (J := (jx X 9)) (v := sErr 1) (v2 := sErr 1) ((EC.up (l_change_no 0 X Z s w v (show xHas X s = false from cs2)) (by omega)).mono (fun r hr => by
        exact XP_er rfl hr)) (fun X1 Z1 hx => (EC.up (l_rChange_no 0 X1 Z1 (h.rk1 (E64 hx)) s w v (by rw [h.j1 (E64 hx)]; exact cs2)) (by omega)).mono (fun r hr => by
        exact MP_er (h.rk1 (E64 hx)) (h.j1 (E64 hx)) hr)) (fun _ => rfl)
theorem p_set {X Z : Nat → Nat → Int32} (h : Rel X) (w v : Int32) : PAIR X Z 83 148 [.int w, .int v] true := by
  by_cases c1 : w = 0 ∧ sIn v (nI 1) (nI 2) = true
  · exact mk_pair h (J := (ud (jx X 9) 0 8 v)) (v := (jx X 9 0 8)) (v2 := (jx X 9 0 8)) ((EC.up (l_set 0 X Z h.ij w v) (by omega)).mono (fun r hr => by
        rw [if_pos c1] at hr
        exact XP_r9 (fun c hc => ud_ne (by omega)) (jx_ud0 (b := 9) rfl) hr)) (fun X1 Z1 hx => (EC.up (l_rSet 0 X1 Z1 (h.rk1 (E64 hx)) w v) (by omega)).mono (fun r hr => by
        rw [if_pos c1] at hr
        rw [show X1 64 3 = jm (X1 64) 0 8 from rfl, h.j1 (E64 hx)] at hr
        exact MP_nj hr)) (fun _ => rfl)
  · by_cases c2 : w = nI 1 ∧ sIn v (nI 0) (nI 999) = true
    · exact mk_pair h (J := (ud (jx X 9) 0 9 v)) (v := (jx X 9 0 9)) (v2 := (jx X 9 0 9)) ((EC.up (l_set 0 X Z h.ij w v) (by omega)).mono (fun r hr => by
          rw [if_neg c1, if_pos c2] at hr
          exact XP_r9 (fun c hc => ud_ne (by omega)) (jx_ud0 (b := 9) rfl) hr)) (fun X1 Z1 hx => (EC.up (l_rSet 0 X1 Z1 (h.rk1 (E64 hx)) w v) (by omega)).mono (fun r hr => by
          rw [if_neg c1, if_pos c2] at hr
          rw [show X1 64 4 = jm (X1 64) 0 9 from rfl, h.j1 (E64 hx)] at hr
          exact MP_nj hr)) (fun _ => rfl)
    · by_cases c3 : w = nI 2 ∧ sIn v (nI 0) 99999 = true
      · exact mk_pair h (J := (ud (jx X 9) 0 10 v)) (v := (jx X 9 0 10)) (v2 := (jx X 9 0 10)) ((EC.up (l_set 0 X Z h.ij w v) (by omega)).mono (fun r hr => by
            rw [if_neg c1, if_neg c2, if_pos c3] at hr
            exact XP_r9 (fun c hc => ud_ne (by omega)) (jx_ud0 (b := 9) rfl) hr)) (fun X1 Z1 hx => (EC.up (l_rSet 0 X1 Z1 (h.rk1 (E64 hx)) w v) (by omega)).mono (fun r hr => by
            rw [if_neg c1, if_neg c2, if_pos c3] at hr
            rw [show X1 64 0 = jm (X1 64) 0 10 from rfl, h.j1 (E64 hx)] at hr
            exact MP_nj hr)) (fun _ => rfl)
      · exact mk_pair h (J := (jx X 9)) (v := (sErr 1)) (v2 := (sErr 1)) ((EC.up (l_set 0 X Z h.ij w v) (by omega)).mono (fun r hr => by
            rw [if_neg c1, if_neg c2, if_neg c3] at hr
            exact XP_er rfl hr)) (fun X1 Z1 hx => (EC.up (l_rSet 0 X1 Z1 (h.rk1 (E64 hx)) w v) (by omega)).mono (fun r hr => by
            rw [if_neg c1, if_neg c2, if_neg c3] at hr
            exact MP_er (h.rk1 (E64 hx)) (h.j1 (E64 hx)) hr)) (fun _ => rfl)
theorem p_become {X Z : Nat → Nat → Int32} (h : Rel X) (s km : Int32) : PAIR X Z 84 149 [.int s, .int km] true := by
  by_cases cs : jHas (jx X 9) s = true
  · obtain ⟨k, hk, rfl⟩ := xHas_k h.ij (show xHas X s = true from cs)
    have hk1 : ∀ X1 : Nat → Nat → Int32, X1 64 = X 64 → k < jn (jm (X1 64)) := fun X1 e => by rw [h.j1 e]; exact hk
    have hk8 : k < 8 := Nat.lt_of_lt_of_le hk (jn8 h.ij)
    by_cases c1 : sIn km (nI 0) (nI 69) = true
    · exact mk_pair h (J := (ud (ud (jx X 9) 1 k (km / nI 10)) 2 k (km - km / nI 10 * nI 10))) (v := (jx X 9 1 k)) (v2 := (jx X 9 1 k)) ((EC.up (l_become 0 X Z h.ij hk km) (by omega)).mono (fun r hr => by
          rw [if_pos c1] at hr
          exact XP_r9 (fun c hc => by rw [ud_ne (by omega), ud_ne (by omega)]) (by rw [jx_ud2 hk8, jx_ud1 hk8]) hr)) (fun X1 Z1 hx => (EC.up (l_rBecome 0 X1 Z1 (h.rk1 (E64 hx)) (hk1 X1 (E64 hx)) km) (by omega)).mono (fun r hr => by
          rw [h.j1 (E64 hx)] at hr
          rw [if_pos c1] at hr
          exact MP_nj hr)) (fun _ => rfl)
    · exact mk_pair h (J := (jx X 9)) (v := (sErr 1)) (v2 := (sErr 1)) ((EC.up (l_become 0 X Z h.ij hk km) (by omega)).mono (fun r hr => by
          rw [if_neg c1] at hr
          exact XP_er rfl hr)) (fun X1 Z1 hx => (EC.up (l_rBecome 0 X1 Z1 (h.rk1 (E64 hx)) (hk1 X1 (E64 hx)) km) (by omega)).mono (fun r hr => by
          rw [h.j1 (E64 hx)] at hr
          rw [if_neg c1] at hr
          exact MP_er (h.rk1 (E64 hx)) (h.j1 (E64 hx)) hr)) (fun _ => rfl)
  · have cs2 : jHas (jx X 9) s = false := by simpa using cs
    exact mk_pair h (J := (jx X 9)) (v := sErr 1) (v2 := sErr 1) ((EC.up (l_become_no 0 X Z s km (show xHas X s = false from cs2)) (by omega)).mono (fun r hr => by
        exact XP_er rfl hr)) (fun X1 Z1 hx => (EC.up (l_rBecome_no 0 X1 Z1 (h.rk1 (E64 hx)) s km (by rw [h.j1 (E64 hx)]; exact cs2)) (by omega)).mono (fun r hr => by
        exact MP_er (h.rk1 (E64 hx)) (h.j1 (E64 hx)) hr)) (fun _ => rfl)
theorem p_as {X Z : Nat → Nat → Int32} (h : Rel X) (s w : Int32) : PAIR X Z 85 150 [.int s, .int w] true := by
  by_cases cs : jHas (jx X 9) s = true
  · obtain ⟨k, hk, rfl⟩ := xHas_k h.ij (show xHas X s = true from cs)
    have hk1 : ∀ X1 : Nat → Nat → Int32, X1 64 = X 64 → k < jn (jm (X1 64)) := fun X1 e => by rw [h.j1 e]; exact hk
    by_cases c1 : sIn w (nI 0) (nI 6) = true
    · by_cases c2 : sIsOf (sKind (jx X 9) k) w = true
      · exact mk_pair h (J := (jx X 9)) (v := (jx X 9 2 k)) (v2 := (jx X 9 2 k)) ((EC.up (l_as 0 X Z h.ij hk w) (by omega)).mono (fun r hr => by
            rw [if_pos c1, if_pos c2] at hr
            exact XP_ri rfl hr)) (fun X1 Z1 hx => (EC.up (l_rAs 0 X1 Z1 (h.rk1 (E64 hx)) (hk1 X1 (E64 hx)) w) (by omega)).mono (fun r hr => by
            rw [h.j1 (E64 hx)] at hr
            rw [if_pos c1, if_pos c2] at hr
            exact MP_ri (h.rk1 (E64 hx)) (h.j1 (E64 hx)) hr)) (fun _ => rfl)
      · exact mk_pair h (J := (jx X 9)) (v := (sErr 5)) (v2 := (sErr 5)) ((EC.up (l_as 0 X Z h.ij hk w) (by omega)).mono (fun r hr => by
            rw [if_pos c1, if_neg c2] at hr
            exact XP_er rfl hr)) (fun X1 Z1 hx => (EC.up (l_rAs 0 X1 Z1 (h.rk1 (E64 hx)) (hk1 X1 (E64 hx)) w) (by omega)).mono (fun r hr => by
            rw [h.j1 (E64 hx)] at hr
            rw [if_pos c1, if_neg c2] at hr
            exact MP_er (h.rk1 (E64 hx)) (h.j1 (E64 hx)) hr)) (fun _ => rfl)
    · exact mk_pair h (J := (jx X 9)) (v := (sErr 1)) (v2 := (sErr 1)) ((EC.up (l_as 0 X Z h.ij hk w) (by omega)).mono (fun r hr => by
          rw [if_neg c1] at hr
          exact XP_er rfl hr)) (fun X1 Z1 hx => (EC.up (l_rAs 0 X1 Z1 (h.rk1 (E64 hx)) (hk1 X1 (E64 hx)) w) (by omega)).mono (fun r hr => by
          rw [h.j1 (E64 hx)] at hr
          rw [if_neg c1] at hr
          exact MP_er (h.rk1 (E64 hx)) (h.j1 (E64 hx)) hr)) (fun _ => rfl)
  · have cs2 : jHas (jx X 9) s = false := by simpa using cs
    exact mk_pair h (J := (jx X 9)) (v := sErr 1) (v2 := sErr 1) ((EC.up (l_as_no 0 X Z s w (show xHas X s = false from cs2)) (by omega)).mono (fun r hr => by
        exact XP_er rfl hr)) (fun X1 Z1 hx => (EC.up (l_rAs_no 0 X1 Z1 (h.rk1 (E64 hx)) s w (by rw [h.j1 (E64 hx)]; exact cs2)) (by omega)).mono (fun r hr => by
        exact MP_er (h.rk1 (E64 hx)) (h.j1 (E64 hx)) hr)) (fun _ => rfl)
theorem p_feed {X Z : Nat → Nat → Int32} (h : Rel X) (w : Int64) (n : Int32) : PAIR X Z 87 151 [.long w, .int n] true := by
  obtain ⟨f, h50, hf⟩ : ∃ f, f ≤ 50 ∧ X 9 14 = nI f := ⟨_, h.ij.fed.2, h.ij.fed.1⟩
  have hf1 : ∀ X1 : Nat → Nat → Int32, (∀ c, 63 ≤ c → X1 c = X c) → X1 64 5 = nI f := fun X1 hx => by rw [show X1 64 5 = jm (X1 64) 0 14 from rfl, h.j1 (E64 hx)]; exact hf
  by_cases c1 : sIn n (nI 1) (nI 8) = true
  · by_cases c2 : f + nN n ≤ 50
    · exact mk_pair h (J := (jFeed (jx X 9) w f (nN n))) (v := (nI (f + nN n))) (v2 := (nI (f + nN n))) ((EC.up (l_feed 0 X Z hf h50 w n) (by omega)).mono (fun r hr => by
          rw [if_pos c1, if_pos c2] at hr
          exact XP_r9 xFeed_off (jx_xFeed c2) hr)) (fun X1 Z1 hx => (EC.up (l_rFeed 0 X1 Z1 (h.rk1 (E64 hx)) (hf1 X1 hx) h50 w n) (by omega)).mono (fun r hr => by
          rw [h.j1 (E64 hx)] at hr
          rw [if_pos c1, if_pos c2] at hr
          exact MP_nj hr)) (fun _ => rfl)
    · exact mk_pair h (J := (jx X 9)) (v := (sErr 4)) (v2 := (sErr 4)) ((EC.up (l_feed 0 X Z hf h50 w n) (by omega)).mono (fun r hr => by
          rw [if_pos c1, if_neg c2] at hr
          exact XP_er rfl hr)) (fun X1 Z1 hx => (EC.up (l_rFeed 0 X1 Z1 (h.rk1 (E64 hx)) (hf1 X1 hx) h50 w n) (by omega)).mono (fun r hr => by
          rw [h.j1 (E64 hx)] at hr
          rw [if_pos c1, if_neg c2] at hr
          exact MP_er (h.rk1 (E64 hx)) (h.j1 (E64 hx)) hr)) (fun _ => rfl)
  · exact mk_pair h (J := (jx X 9)) (v := (sErr 1)) (v2 := (sErr 1)) ((EC.up (l_feed 0 X Z hf h50 w n) (by omega)).mono (fun r hr => by
        rw [if_neg c1] at hr
        exact XP_er rfl hr)) (fun X1 Z1 hx => (EC.up (l_rFeed 0 X1 Z1 (h.rk1 (E64 hx)) (hf1 X1 hx) h50 w n) (by omega)).mono (fun r hr => by
        rw [h.j1 (E64 hx)] at hr
        rw [if_neg c1] at hr
        exact MP_er (h.rk1 (E64 hx)) (h.j1 (E64 hx)) hr)) (fun _ => rfl)
theorem p_law {X Z : Nat → Nat → Int32} (h : Rel X) (u p q r0 : Int32) : PAIR X Z 90 164 [.int u, .int p, .int q, .int r0] true := by
  by_cases c1 : sUse u = true
  · by_cases c2 : u = 0
    · exact mk_pair h (J := (jx X 9)) (v := (sLastsBy (jx X 9) p q r0)) (v2 := (sLastsBy (jx X 9) p q r0)) ((EC.up (l_law 0 X Z h.ij u p q r0) (by omega)).mono (fun r hr => by
          rw [if_pos c1, if_pos c2] at hr
          exact XP_ri rfl hr)) (fun X1 Z1 hx => (EC.up (l_rLaw 0 X1 Z1 (h.rk1 (E64 hx)) u p q r0) (by omega)).mono (fun r hr => by
          rw [h.j1 (E64 hx)] at hr
          rw [if_pos c1, if_pos c2] at hr
          exact MP_ri (h.rk1 (E64 hx)) (h.j1 (E64 hx)) hr)) (fun _ => rfl)
    · exact mk_pair h (J := (jx X 9)) (v := (sErrsBy (jx X 9) p q r0)) (v2 := (sErrsBy (jx X 9) p q r0)) ((EC.up (l_law 0 X Z h.ij u p q r0) (by omega)).mono (fun r hr => by
          rw [if_pos c1, if_neg c2] at hr
          exact XP_ri rfl hr)) (fun X1 Z1 hx => (EC.up (l_rLaw 0 X1 Z1 (h.rk1 (E64 hx)) u p q r0) (by omega)).mono (fun r hr => by
          rw [h.j1 (E64 hx)] at hr
          rw [if_pos c1, if_neg c2] at hr
          exact MP_ri (h.rk1 (E64 hx)) (h.j1 (E64 hx)) hr)) (fun _ => rfl)
  · exact mk_pair h (J := (jx X 9)) (v := (sErr 1)) (v2 := (sErr 1)) ((EC.up (l_law 0 X Z h.ij u p q r0) (by omega)).mono (fun r hr => by
        rw [if_neg c1] at hr
        exact XP_er rfl hr)) (fun X1 Z1 hx => (EC.up (l_rLaw 0 X1 Z1 (h.rk1 (E64 hx)) u p q r0) (by omega)).mono (fun r hr => by
        rw [h.j1 (E64 hx)] at hr
        rw [if_neg c1] at hr
        exact MP_er (h.rk1 (E64 hx)) (h.j1 (E64 hx)) hr)) (fun _ => rfl)
theorem lasts_cap {J : Nat → Nat → Int32} (h : IJ 99999 J) {k : Nat} {l : Int32} (hl : isN l 300) (hc : ¬ 99999 < J 0 10 + l) : isN (J 0 10 + l) 99999 := by
  obtain ⟨m1, m2⟩ := h.minute
  obtain ⟨l1, l2⟩ := hl
  rw [m1, l1, nI_add] at hc ⊢
  refine isN.of ?_ (by omega)
  rcases Nat.lt_or_ge 99999 (nN (J 0 10) + nN l) with h9 | h9
  · exact absurd (nI_lt h9 (by omega)) hc
  · exact h9
theorem can_m {J : Nat → Nat → Int32} (h : IJ 99999 J) {k : Nat} (hc : sCan J k = true) : sMayDo J k = true ∧ isN (jFin J k 0 10) 99999 := by
  unfold sCan at hc
  simp only [Bool.and_eq_true, Bool.not_eq_true', decide_eq_false_iff_not] at hc
  exact ⟨hc.1, lasts_cap (k := k) h (lasts300 h k) hc.2⟩
theorem canU_m {J : Nat → Nat → Int32} (h : IJ 99999 J) {k : Nat} (hc : sCanU J k = true) : sMayUn J k = true ∧ isN (jApart J k 0 10) 99999 := by
  unfold sCanU at hc
  simp only [Bool.and_eq_true, Bool.not_eq_true', decide_eq_false_iff_not] at hc
  exact ⟨hc.1, lasts_cap (k := k) h (back300 h k) hc.2⟩
theorem p_does {X Z : Nat → Nat → Int32} (h : Rel X) (s : Int32) : PAIR X Z 91 165 [.int s] true := by
  by_cases cs : jHas (jx X 9) s = true
  · obtain ⟨k, hk, rfl⟩ := xHas_k h.ij (show xHas X s = true from cs)
    have hk1 : ∀ X1 : Nat → Nat → Int32, X1 64 = X 64 → k < jn (jm (X1 64)) := fun X1 e => by rw [h.j1 e]; exact hk
    have hk8 : k < 8 := Nat.lt_of_lt_of_le hk (jn8 h.ij)
    by_cases c1 : sCan (jx X 9) k = true
    · have hm := (can_m h.ij c1).2
      exact mk_pair h (J := (jFin (jx X 9) k)) (v := (bI (sBit (jFin (jx X 9) k 0 7) (nI k)))) (v2 := (bI (sBit (jFin (jx X 9) k 0 7) (nI k)))) ((EC.up (l_does 0 X Z h.ij hk) (by omega)).mono (fun r hr => by
          rw [if_pos c1] at hr
          exact XP_r9 (fun c hc => xFin_off (by omega)) (jx_xFin hk8) hr)) (fun X1 Z1 hx => (EC.up (l_rDoes 0 X1 Z1 (h.rk1 (E64 hx)) (by omega) (hk1 X1 (E64 hx))) (by omega)).mono (fun r hr => by
          rw [h.j1 (E64 hx)] at hr
          rw [if_pos c1] at hr
          exact MP_cap hm hr)) (fun _ => rfl)
    · exact mk_pair h (J := (jx X 9)) (v := (sErr 3)) (v2 := (sErr 3)) ((EC.up (l_does 0 X Z h.ij hk) (by omega)).mono (fun r hr => by
          rw [if_neg c1] at hr
          exact XP_er rfl hr)) (fun X1 Z1 hx => (EC.up (l_rDoes 0 X1 Z1 (h.rk1 (E64 hx)) (by omega) (hk1 X1 (E64 hx))) (by omega)).mono (fun r hr => by
          rw [h.j1 (E64 hx)] at hr
          rw [if_neg c1] at hr
          exact MP_er (h.rk1 (E64 hx)) (h.j1 (E64 hx)) hr)) (fun _ => rfl)
  · have cs2 : jHas (jx X 9) s = false := by simpa using cs
    exact mk_pair h (J := (jx X 9)) (v := sErr 1) (v2 := sErr 1) ((EC.up (l_does_no 0 X Z s (show xHas X s = false from cs2)) (by omega)).mono (fun r hr => by
        exact XP_er rfl hr)) (fun X1 Z1 hx => (EC.up (l_rDoes_no 0 X1 Z1 (h.rk1 (E64 hx)) s (by rw [h.j1 (E64 hx)]; exact cs2)) (by omega)).mono (fun r hr => by
        exact MP_er (h.rk1 (E64 hx)) (h.j1 (E64 hx)) hr)) (fun _ => rfl)
theorem p_undo {X Z : Nat → Nat → Int32} (h : Rel X) (s : Int32) : PAIR X Z 92 168 [.int s] true := by
  by_cases cs : jHas (jx X 9) s = true
  · obtain ⟨k, hk, rfl⟩ := xHas_k h.ij (show xHas X s = true from cs)
    have hk1 : ∀ X1 : Nat → Nat → Int32, X1 64 = X 64 → k < jn (jm (X1 64)) := fun X1 e => by rw [h.j1 e]; exact hk
    have hk8 : k < 8 := Nat.lt_of_lt_of_le hk (jn8 h.ij)
    by_cases c1 : sCanU (jx X 9) k = true
    · have hm := (canU_m h.ij c1).2
      exact mk_pair h (J := (jApart (jx X 9) k)) (v := (jApart (jx X 9) k 0 9)) (v2 := (jApart (jx X 9) k 0 9)) ((EC.up (l_undo 0 X Z h.ij hk) (by omega)).mono (fun r hr => by
          rw [if_pos c1] at hr
          exact XP_r9 (fun c hc => xApart_off (by omega)) (jx_xApart hk8) hr)) (fun X1 Z1 hx => (EC.up (l_rUndo 0 X1 Z1 (h.rk1 (E64 hx)) (by omega) (hk1 X1 (E64 hx))) (by omega)).mono (fun r hr => by
          rw [h.j1 (E64 hx)] at hr
          rw [if_pos c1] at hr
          exact MP_cap hm hr)) (fun _ => rfl)
    · exact mk_pair h (J := (jx X 9)) (v := (sErr 3)) (v2 := (sErr 3)) ((EC.up (l_undo 0 X Z h.ij hk) (by omega)).mono (fun r hr => by
          rw [if_neg c1] at hr
          exact XP_er rfl hr)) (fun X1 Z1 hx => (EC.up (l_rUndo 0 X1 Z1 (h.rk1 (E64 hx)) (by omega) (hk1 X1 (E64 hx))) (by omega)).mono (fun r hr => by
          rw [h.j1 (E64 hx)] at hr
          rw [if_neg c1] at hr
          exact MP_er (h.rk1 (E64 hx)) (h.j1 (E64 hx)) hr)) (fun _ => rfl)
  · have cs2 : jHas (jx X 9) s = false := by simpa using cs
    exact mk_pair h (J := (jx X 9)) (v := sErr 1) (v2 := sErr 1) ((EC.up (l_undo_no 0 X Z s (show xHas X s = false from cs2)) (by omega)).mono (fun r hr => by
        exact XP_er rfl hr)) (fun X1 Z1 hx => (EC.up (l_rUndo_no 0 X1 Z1 (h.rk1 (E64 hx)) s (by rw [h.j1 (E64 hx)]; exact cs2)) (by omega)).mono (fun r hr => by
        exact MP_er (h.rk1 (E64 hx)) (h.j1 (E64 hx)) hr)) (fun _ => rfl)
theorem p_next {X Z : Nat → Nat → Int32} (h : Rel X) (w : Int32) : PAIR X Z 94 173 [.int w] true := by
  by_cases c1 : sIn w (nI 0) (nI 1) = true
  · exact mk_pair h (J := (jx X 9)) (v := (sSetOf (sPn (jx X 9) w) (jn (jx X 9)))) (v2 := (sSetOf (sPn (jx X 9) w) (jn (jx X 9)))) ((EC.up (l_next 0 X Z h.ij w) (by omega)).mono (fun r hr => by
        rw [if_pos c1] at hr
        exact XP_ri rfl hr)) (fun X1 Z1 hx => (EC.up (l_rNext 0 X1 Z1 (h.rk1 (E64 hx)) w) (by omega)).mono (fun r hr => by
        rw [h.j1 (E64 hx)] at hr
        rw [if_pos c1] at hr
        exact MP_ri (h.rk1 (E64 hx)) (h.j1 (E64 hx)) hr)) (fun _ => rfl)
  · exact mk_pair h (J := (jx X 9)) (v := (sErr 1)) (v2 := (sErr 1)) ((EC.up (l_next 0 X Z h.ij w) (by omega)).mono (fun r hr => by
        rw [if_neg c1] at hr
        exact XP_er rfl hr)) (fun X1 Z1 hx => (EC.up (l_rNext 0 X1 Z1 (h.rk1 (E64 hx)) w) (by omega)).mono (fun r hr => by
        rw [h.j1 (E64 hx)] at hr
        rw [if_neg c1] at hr
        exact MP_er (h.rk1 (E64 hx)) (h.j1 (E64 hx)) hr)) (fun _ => rfl)
theorem p_all {X Z : Nat → Nat → Int32} (h : Rel X) (w : Int32) : PAIR X Z 95 175 [.int w] true := by
  by_cases c1 : sIn w (nI 0) (nI 2) = true
  · exact mk_pair h (J := (jx X 9)) (v := (sAll (jx X 9) w)) (v2 := (sAll (jx X 9) w)) ((EC.up (l_all 0 X Z h.ij (by omega) w) (by omega)).mono (fun r hr => by
        rw [if_pos c1] at hr
        exact XP_ro rfl hr)) (fun X1 Z1 hx => (EC.up (l_rAll 0 X1 Z1 (h.rk1 (E64 hx)) (by omega) w) (by omega)).mono (fun r hr => by
        rw [h.j1 (E64 hx)] at hr
        rw [if_pos c1] at hr
        exact MP_r6 (h.rk1 (E64 hx)) (h.j1 (E64 hx)) hr)) (fun _ => rfl)
  · exact mk_pair h (J := (jx X 9)) (v := (sErr 1)) (v2 := (sErr 1)) ((EC.up (l_all 0 X Z h.ij (by omega) w) (by omega)).mono (fun r hr => by
        rw [if_neg c1] at hr
        exact XP_er rfl hr)) (fun X1 Z1 hx => (EC.up (l_rAll 0 X1 Z1 (h.rk1 (E64 hx)) (by omega) w) (by omega)).mono (fun r hr => by
        rw [h.j1 (E64 hx)] at hr
        rw [if_neg c1] at hr
        exact MP_er (h.rk1 (E64 hx)) (h.j1 (E64 hx)) hr)) (fun _ => rfl)
theorem p_under {X Z : Nat → Nat → Int32} (h : Rel X) (s : Int32) : PAIR X Z 98 186 [.int s] true := by
  by_cases cs : jHas (jx X 9) s = true
  · obtain ⟨k, hk, rfl⟩ := xHas_k h.ij (show xHas X s = true from cs)
    have hk1 : ∀ X1 : Nat → Nat → Int32, X1 64 = X 64 → k < jn (jm (X1 64)) := fun X1 e => by rw [h.j1 e]; exact hk
    by_cases c1 : sDone (jx X 9) k = true
    · exact mk_pair h (J := (jx X 9)) (v := (sRest (jx X 9) k (jn (jx X 9)))) (v2 := (sRest (jx X 9) k (jn (jx X 9)))) ((EC.up (l_under 0 X Z h.ij hk) (by omega)).mono (fun r hr => by
          rw [if_pos c1] at hr
          exact XP_ri rfl hr)) (fun X1 Z1 hx => (EC.up (l_rUnder 0 X1 Z1 (h.rk1 (E64 hx)) (hk1 X1 (E64 hx))) (by omega)).mono (fun r hr => by
          rw [h.j1 (E64 hx)] at hr
          rw [if_pos c1] at hr
          exact MP_ri (h.rk1 (E64 hx)) (h.j1 (E64 hx)) hr)) (fun _ => rfl)
    · exact mk_pair h (J := (jx X 9)) (v := (sErr 3)) (v2 := (sErr 3)) ((EC.up (l_under 0 X Z h.ij hk) (by omega)).mono (fun r hr => by
          rw [if_neg c1] at hr
          exact XP_er rfl hr)) (fun X1 Z1 hx => (EC.up (l_rUnder 0 X1 Z1 (h.rk1 (E64 hx)) (hk1 X1 (E64 hx))) (by omega)).mono (fun r hr => by
          rw [h.j1 (E64 hx)] at hr
          rw [if_neg c1] at hr
          exact MP_er (h.rk1 (E64 hx)) (h.j1 (E64 hx)) hr)) (fun _ => rfl)
  · have cs2 : jHas (jx X 9) s = false := by simpa using cs
    exact mk_pair h (J := (jx X 9)) (v := sErr 1) (v2 := sErr 1) ((EC.up (l_under_no 0 X Z s (show xHas X s = false from cs2)) (by omega)).mono (fun r hr => by
        exact XP_er rfl hr)) (fun X1 Z1 hx => (EC.up (l_rUnder_no 0 X1 Z1 (h.rk1 (E64 hx)) s (by rw [h.j1 (E64 hx)]; exact cs2)) (by omega)).mono (fun r hr => by
        exact MP_er (h.rk1 (E64 hx)) (h.j1 (E64 hx)) hr)) (fun _ => rfl)
theorem p_goBack {X Z : Nat → Nat → Int32} (h : Rel X) (s w : Int32) : PAIR X Z 99 188 [.int s, .int w] true := by
  by_cases cs : jHas (jx X 9) s = true
  · obtain ⟨k, hk, rfl⟩ := xHas_k h.ij (show xHas X s = true from cs)
    have hk1 : ∀ X1 : Nat → Nat → Int32, X1 64 = X 64 → k < jn (jm (X1 64)) := fun X1 e => by rw [h.j1 e]; exact hk
    by_cases c1 : sIn w (nI 0) (nI 1) = true
    · by_cases c2 : sDone (jx X 9) k = true
      · by_cases c3 : w = 0
        · exact mk_pair h (J := (jx X 9)) (v := (sGoM (jx X 9) k)) (v2 := (sGoM (jx X 9) k)) ((EC.up (l_goBack 0 X Z h.ij hk (by omega) w) (by omega)).mono (fun r hr => by
              rw [if_pos c1, if_pos c2, if_pos c3] at hr
              exact XP_ro rfl hr)) (fun X1 Z1 hx => (EC.up (l_rGoBack 0 X1 Z1 (h.rk1 (E64 hx)) (hk1 X1 (E64 hx)) (by omega) w) (by omega)).mono (fun r hr => by
              rw [h.j1 (E64 hx)] at hr
              rw [if_pos c1, if_pos c2, if_pos c3] at hr
              exact MP_r6 (h.rk1 (E64 hx)) (h.j1 (E64 hx)) hr)) (fun _ => rfl)
        · exact mk_pair h (J := (jx X 9)) (v := (bI (sBlocked (jx X 9) k))) (v2 := (bI (sBlocked (jx X 9) k))) ((EC.up (l_goBack 0 X Z h.ij hk (by omega) w) (by omega)).mono (fun r hr => by
              rw [if_pos c1, if_pos c2, if_neg c3] at hr
              exact XP_ri rfl hr)) (fun X1 Z1 hx => (EC.up (l_rGoBack 0 X1 Z1 (h.rk1 (E64 hx)) (hk1 X1 (E64 hx)) (by omega) w) (by omega)).mono (fun r hr => by
              rw [h.j1 (E64 hx)] at hr
              rw [if_pos c1, if_pos c2, if_neg c3] at hr
              exact MP_ri (h.rk1 (E64 hx)) (h.j1 (E64 hx)) hr)) (fun _ => rfl)
      · exact mk_pair h (J := (jx X 9)) (v := (sErr 3)) (v2 := (sErr 3)) ((EC.up (l_goBack 0 X Z h.ij hk (by omega) w) (by omega)).mono (fun r hr => by
            rw [if_pos c1, if_neg c2] at hr
            exact XP_er rfl hr)) (fun X1 Z1 hx => (EC.up (l_rGoBack 0 X1 Z1 (h.rk1 (E64 hx)) (hk1 X1 (E64 hx)) (by omega) w) (by omega)).mono (fun r hr => by
            rw [h.j1 (E64 hx)] at hr
            rw [if_pos c1, if_neg c2] at hr
            exact MP_er (h.rk1 (E64 hx)) (h.j1 (E64 hx)) hr)) (fun _ => rfl)
    · exact mk_pair h (J := (jx X 9)) (v := (sErr 1)) (v2 := (sErr 1)) ((EC.up (l_goBack 0 X Z h.ij hk (by omega) w) (by omega)).mono (fun r hr => by
          rw [if_neg c1] at hr
          exact XP_er rfl hr)) (fun X1 Z1 hx => (EC.up (l_rGoBack 0 X1 Z1 (h.rk1 (E64 hx)) (hk1 X1 (E64 hx)) (by omega) w) (by omega)).mono (fun r hr => by
          rw [h.j1 (E64 hx)] at hr
          rw [if_neg c1] at hr
          exact MP_er (h.rk1 (E64 hx)) (h.j1 (E64 hx)) hr)) (fun _ => rfl)
  · have cs2 : jHas (jx X 9) s = false := by simpa using cs
    exact mk_pair h (J := (jx X 9)) (v := sErr 1) (v2 := sErr 1) ((EC.up (l_goBack_no 0 X Z s w (show xHas X s = false from cs2)) (by omega)).mono (fun r hr => by
        exact XP_er rfl hr)) (fun X1 Z1 hx => (EC.up (l_rGoBack_no 0 X1 Z1 (h.rk1 (E64 hx)) s w (by rw [h.j1 (E64 hx)]; exact cs2)) (by omega)).mono (fun r hr => by
        exact MP_er (h.rk1 (E64 hx)) (h.j1 (E64 hx)) hr)) (fun _ => rfl)
theorem p_left {X Z : Nat → Nat → Int32} (h : Rel X) : PAIR X Z 102 191 [] true := by
  exact mk_pair h (J := (jx X 9)) (v := (sLeft (jx X 9) (jn (jx X 9)))) (v2 := (sLeft (jx X 9) (jn (jx X 9)))) ((EC.up (l_left 0 X Z h.ij) (by omega)).mono (fun r hr => by
      exact XP_ri rfl hr)) (fun X1 Z1 hx => (EC.up (l_rLeft 0 X1 Z1 (h.rk1 (E64 hx))) (by omega)).mono (fun r hr => by
      rw [h.j1 (E64 hx)] at hr
      exact MP_ri (h.rk1 (E64 hx)) (h.j1 (E64 hx)) hr)) (fun _ => rfl)
theorem p_whose {X Z : Nat → Nat → Int32} (h : Rel X) (q w : Int32) : PAIR X Z 103 192 [.int q, .int w] true := by
  by_cases c1 : (sIn q (nI 0) (nI 99) && sIn w (nI 0) (nI 1)) = true
  · by_cases c2 : w = 0
    · exact mk_pair h (J := (jx X 9)) (v := (sWh (jx X 9) q).1) (v2 := (sWh (jx X 9) q).1) ((EC.up (l_whose 0 X Z h.ij q w) (by omega)).mono (fun r hr => by
          rw [if_pos c1] at hr
          unfold WhP at hr
          rw [if_pos c2] at hr
          exact XP_ri rfl hr)) (fun X1 Z1 hx => (EC.up (l_rWhose 0 X1 Z1 (h.rk1 (E64 hx)) q w) (by omega)).mono (fun r hr => by
          rw [h.j1 (E64 hx)] at hr
          rw [if_pos c1] at hr
          unfold WhM at hr
          rw [if_pos c2] at hr
          exact MP_ri (h.rk1 (E64 hx)) (h.j1 (E64 hx)) hr)) (fun _ => rfl)
    · by_cases c3 : (sWh (jx X 9) q).2 < 0
      · exact mk_pair h (J := (jx X 9)) (v := (sErr 2)) (v2 := (sErr 2)) ((EC.up (l_whose 0 X Z h.ij q w) (by omega)).mono (fun r hr => by
            rw [if_pos c1] at hr
            unfold WhP at hr
            rw [if_neg c2, if_pos c3] at hr
            exact XP_er rfl hr)) (fun X1 Z1 hx => (EC.up (l_rWhose 0 X1 Z1 (h.rk1 (E64 hx)) q w) (by omega)).mono (fun r hr => by
            rw [h.j1 (E64 hx)] at hr
            rw [if_pos c1] at hr
            unfold WhM at hr
            rw [if_neg c2, if_pos c3] at hr
            exact MP_er (h.rk1 (E64 hx)) (h.j1 (E64 hx)) hr)) (fun _ => rfl)
      · exact mk_pair h (J := (jx X 9)) (v := (sWh (jx X 9) q).2) (v2 := (sWh (jx X 9) q).2) ((EC.up (l_whose 0 X Z h.ij q w) (by omega)).mono (fun r hr => by
            rw [if_pos c1] at hr
            unfold WhP at hr
            rw [if_neg c2, if_neg c3] at hr
            exact XP_ri rfl hr)) (fun X1 Z1 hx => (EC.up (l_rWhose 0 X1 Z1 (h.rk1 (E64 hx)) q w) (by omega)).mono (fun r hr => by
            rw [h.j1 (E64 hx)] at hr
            rw [if_pos c1] at hr
            unfold WhM at hr
            rw [if_neg c2, if_neg c3] at hr
            exact MP_ri (h.rk1 (E64 hx)) (h.j1 (E64 hx)) hr)) (fun _ => rfl)
  · exact mk_pair h (J := (jx X 9)) (v := (sErr 1)) (v2 := (sErr 1)) ((EC.up (l_whose 0 X Z h.ij q w) (by omega)).mono (fun r hr => by
        rw [if_neg c1] at hr
        exact XP_er rfl hr)) (fun X1 Z1 hx => (EC.up (l_rWhose 0 X1 Z1 (h.rk1 (E64 hx)) q w) (by omega)).mono (fun r hr => by
        rw [h.j1 (E64 hx)] at hr
        rw [if_neg c1] at hr
        exact MP_er (h.rk1 (E64 hx)) (h.j1 (E64 hx)) hr)) (fun _ => rfl)
theorem p_lookAt {X Z : Nat → Nat → Int32} (h : Rel X) : PAIR X Z 104 194 [] true := by
  by_cases c1 : (lkF (jx X 9) (jn (jx X 9)) 0 (-1) (nI 0)) < 0
  · exact mk_pair h (J := (jx X 9)) (v := (sErr 2)) (v2 := (sErr 2)) ((EC.up (l_lookAt 0 X Z h.ij (by omega)) (by omega)).mono (fun r hr => by
        unfold LkP at hr
        rw [if_pos c1] at hr
        obtain ⟨X9, Z9, rfl, X8, ho, rfl⟩ := hr
        exact ⟨_, Z9, rfl, (XS.ot ho rfl).err⟩)) (fun X1 Z1 hx => (EC.up (l_rLookAt 0 X1 Z1 (h.rk1 (E64 hx)) (by omega)) (by omega)).mono (fun r hr => by
        rw [h.j1 (E64 hx)] at hr
        unfold LkM at hr
        rw [if_pos c1] at hr
        obtain ⟨X9, Z9, rfl, ho⟩ := hr
        have e9 : X9 64 = X1 64 := ho 64 (by omega) (by omega)
        exact ⟨_, Z9, rfl, by rw [e9]; exact h.j1 (E64 hx), by rw [e9]; exact h.rk1 (E64 hx), fun c _ _ a3 a4 _ _ _ => ho c a3 a4, by rw [ho 63 (by omega) (by omega)], by rw [ho 63 (by omega) (by omega)]⟩)) (fun _ => rfl)
  · exact mk_pair h (J := (jx X 9)) (v := (lkF (jx X 9) (jn (jx X 9)) 0 (-1) (nI 0))) (v2 := (lkF (jx X 9) (jn (jx X 9)) 0 (-1) (nI 0))) ((EC.up (l_lookAt 0 X Z h.ij (by omega)) (by omega)).mono (fun r hr => by
        unfold LkP at hr
        rw [if_neg c1] at hr
        exact XP_ro rfl hr)) (fun X1 Z1 hx => (EC.up (l_rLookAt 0 X1 Z1 (h.rk1 (E64 hx)) (by omega)) (by omega)).mono (fun r hr => by
        rw [h.j1 (E64 hx)] at hr
        unfold LkM at hr
        rw [if_neg c1] at hr
        exact MP_r6 (h.rk1 (E64 hx)) (h.j1 (E64 hx)) hr)) (fun _ => rfl)
theorem p_odds {X Z : Nat → Nat → Int32} (h : Rel X) (s w : Int32) : PAIR X Z 108 198 [.int s, .int w] true := by
  by_cases cs : jHas (jx X 9) s = true
  · obtain ⟨k, hk, rfl⟩ := xHas_k h.ij (show xHas X s = true from cs)
    have hk1 : ∀ X1 : Nat → Nat → Int32, X1 64 = X 64 → k < jn (jm (X1 64)) := fun X1 e => by rw [h.j1 e]; exact hk
    by_cases c1 : sIn w (nI 0) (nI 1) = true
    · exact mk_pair h (J := (jx X 9)) (v := (if w = 0 then (sOdds (jx X 9) k).1 else (sOdds (jx X 9) k).2)) (v2 := (if w = 0 then (sOdds (jx X 9) k).1 else (sOdds (jx X 9) k).2)) ((EC.up (l_odds 0 X Z h.ij hk w) (by omega)).mono (fun r hr => by
          rw [if_pos c1] at hr
          exact XP_ri rfl hr)) (fun X1 Z1 hx => (EC.up (l_rOdds 0 X1 Z1 (h.rk1 (E64 hx)) (hk1 X1 (E64 hx)) w) (by omega)).mono (fun r hr => by
          rw [h.j1 (E64 hx)] at hr
          rw [if_pos c1] at hr
          exact MP_ri (h.rk1 (E64 hx)) (h.j1 (E64 hx)) hr)) (fun _ => rfl)
    · exact mk_pair h (J := (jx X 9)) (v := (sErr 1)) (v2 := (sErr 1)) ((EC.up (l_odds 0 X Z h.ij hk w) (by omega)).mono (fun r hr => by
          rw [if_neg c1] at hr
          exact XP_er rfl hr)) (fun X1 Z1 hx => (EC.up (l_rOdds 0 X1 Z1 (h.rk1 (E64 hx)) (hk1 X1 (E64 hx)) w) (by omega)).mono (fun r hr => by
          rw [h.j1 (E64 hx)] at hr
          rw [if_neg c1] at hr
          exact MP_er (h.rk1 (E64 hx)) (h.j1 (E64 hx)) hr)) (fun _ => rfl)
  · have cs2 : jHas (jx X 9) s = false := by simpa using cs
    exact mk_pair h (J := (jx X 9)) (v := sErr 1) (v2 := sErr 1) ((EC.up (l_odds_no 0 X Z s w (show xHas X s = false from cs2)) (by omega)).mono (fun r hr => by
        exact XP_er rfl hr)) (fun X1 Z1 hx => (EC.up (l_rOdds_no 0 X1 Z1 (h.rk1 (E64 hx)) s w (by rw [h.j1 (E64 hx)]; exact cs2)) (by omega)).mono (fun r hr => by
        exact MP_er (h.rk1 (E64 hx)) (h.j1 (E64 hx)) hr)) (fun _ => rfl)
theorem p_seed {X Z : Nat → Nat → Int32} (h : Rel X) (v : Int32) : PAIR X Z 109 199 [.int v] true := by
  exact mk_pair h (J := (ud (jx X 9) 0 17 v)) (v := (jx X 9 0 17)) (v2 := (jx X 9 0 17)) ((EC.up (l_seed 0 X Z v) (by omega)).mono (fun r hr => by
      exact XP_r9 (fun c hc => ud_ne (by omega)) (jx_ud0 (b := 9) rfl) hr)) (fun X1 Z1 hx => (EC.up (l_rSeed 0 X1 Z1 (h.rk1 (E64 hx)) v) (by omega)).mono (fun r hr => by
      rw [show X1 64 1 = jm (X1 64) 0 17 from rfl, h.j1 (E64 hx)] at hr
      exact MP_nj hr)) (fun _ => rfl)
theorem p_tell {X Z : Nat → Nat → Int32} (h : Rel X) (v : Int32) : PAIR X Z 121 222 [.int v] true := by
  obtain ⟨w, h20, hw⟩ : ∃ w, w ≤ 20 ∧ X 9 16 = nI w := ⟨_, h.ij.waits.2, h.ij.waits.1⟩
  have hw1 : ∀ X1 : Nat → Nat → Int32, (∀ c, 63 ≤ c → X1 c = X c) → X1 64 6 = nI w := fun X1 hx => by rw [show X1 64 6 = jm (X1 64) 0 16 from rfl, h.j1 (E64 hx)]; exact hw
  by_cases c1 : w < 20
  · exact mk_pair h (J := (ud (ud (jx X 9) 10 w v) 0 16 (nI (w + 1)))) (v := (nI (w + 1))) (v2 := (nI (w + 1))) ((EC.up (l_tell 0 X Z v w hw h20) (by omega)).mono (fun r hr => by
        rw [if_pos c1] at hr
        exact XP_r9 (fun c hc => by rw [ud_ne (by omega), ud_ne (by omega)]) (by rw [jx_ud0 (b := 9) rfl, jx_ud10 c1]) hr)) (fun X1 Z1 hx => (EC.up (l_rTell 0 X1 Z1 (h.rk1 (E64 hx)) v w (hw1 X1 hx) h20) (by omega)).mono (fun r hr => by
        rw [h.j1 (E64 hx)] at hr
        rw [if_pos c1] at hr
        exact MP_nj hr)) (fun _ => rfl)
  · exact mk_pair h (J := (jx X 9)) (v := (sErr 4)) (v2 := (sErr 4)) ((EC.up (l_tell 0 X Z v w hw h20) (by omega)).mono (fun r hr => by
        rw [if_neg c1] at hr
        exact XP_er rfl hr)) (fun X1 Z1 hx => (EC.up (l_rTell 0 X1 Z1 (h.rk1 (E64 hx)) v w (hw1 X1 hx) h20) (by omega)).mono (fun r hr => by
        rw [h.j1 (E64 hx)] at hr
        rw [if_neg c1] at hr
        exact MP_er (h.rk1 (E64 hx)) (h.j1 (E64 hx)) hr)) (fun _ => rfl)
theorem p_check {X Z : Nat → Nat → Int32} (h : Rel X) : PAIR X Z 122 223 [] true := by
  exact mk_pair h (J := (ud (jx X 9) 0 16 (nI 0))) (v := (sCheck (jx X 9))) (v2 := (sCheck (jx X 9))) ((EC.up (l_check 0 X Z h.ij (by omega)) (by omega)).mono (fun r hr => by
      obtain ⟨X8, Z9, rfl, ho⟩ := hr
      refine ⟨_, Z9, rfl, ?_, fun c c1 c2 => by rw [ud_ne (by omega)]; exact ho c (by omega), by rw [ud_ne (by omega)]; rw [ho 0 (by omega)], fun c c1 _ _ _ => by rw [ud_ne (by omega)]; exact ho c (by omega)⟩
      rw [jx_ud0 (b := 9) rfl, ho.j9])) (fun X1 Z1 hx => (EC.up (l_rCheck 0 X1 Z1 (h.rk1 (E64 hx)) (by omega)) (by omega)).mono (fun r hr => by
      rw [h.j1 (E64 hx)] at hr
      obtain ⟨X8, Z9, rfl, e8, ho⟩ := hr
      have w8 := wWaits (X := X1) (p := 6) (h.rk1 (E64 hx)) (h.j1 (E64 hx)) (isN.of (show 0 ≤ 20 by omega) (by omega)) rfl
      have e9 : X8 64 = ud X1 64 6 (nI 0) 64 := by rw [e8, ud_same]
      exact ⟨_, Z9, rfl, by rw [e9]; exact w8.j, by rw [e9]; exact w8.rk, fun c _ a2 a3 _ _ _ _ => ho c a2 a3, by rw [ho 63 (by omega) (by omega)], by rw [ho 63 (by omega) (by omega)]⟩)) (fun _ => rfl)
theorem p_count {X Z : Nat → Nat → Int32} (h : Rel X) (w : Int32) : PAIR X Z 123 224 [.int w] true := by
  have hg : ∀ X1 : Nat → Nat → Int32, (∀ c, 63 ≤ c → X1 c = X c) → X1 63 21 = X 51 1 := fun X1 hx => by obtain ⟨g, _, g2, g3, _⟩ := h.2.2.2.2.2.1; rw [hx 63 (by omega), g3, g2]
  by_cases c1 : sIn w (nI 0) (nI 10) = true
  · exact mk_pair h (J := (jx X 9)) (v := (sCnt (jx X 9) (X 51 1) w)) (v2 := (sCnt (jx X 9) (X 51 1) w)) ((EC.up (l_count 0 X Z w) (by omega)).mono (fun r hr => by
        rw [if_pos c1] at hr
        exact XP_ri rfl hr)) (fun X1 Z1 hx => (EC.up (l_rCount 0 X1 Z1 (h.rk1 (E64 hx)) (by omega) w) (by omega)).mono (fun r hr => by
        rw [h.j1 (E64 hx), hg X1 hx] at hr
        rw [if_pos c1] at hr
        exact MP_ri (h.rk1 (E64 hx)) (h.j1 (E64 hx)) hr)) (fun _ => rfl)
  · exact mk_pair h (J := (jx X 9)) (v := (sErr 1)) (v2 := (sErr 1)) ((EC.up (l_count 0 X Z w) (by omega)).mono (fun r hr => by
        rw [if_neg c1] at hr
        exact XP_er rfl hr)) (fun X1 Z1 hx => (EC.up (l_rCount 0 X1 Z1 (h.rk1 (E64 hx)) (by omega) w) (by omega)).mono (fun r hr => by
        rw [h.j1 (E64 hx)] at hr
        rw [if_neg c1] at hr
        exact MP_er (h.rk1 (E64 hx)) (h.j1 (E64 hx)) hr)) (fun _ => rfl)
theorem p_told {X Z : Nat → Nat → Int32} (h : Rel X) (k : Int32) : PAIR X Z 124 225 [.int k] false := by
  by_cases c1 : sIn k (nI 1) (nI 5) = true
  · obtain ⟨v0, hv0⟩ : ∃ v, X 67 (nN k) = v := ⟨_, rfl⟩
    exact mk_pair h (J := (jx X 9)) (v := (X 53 (nN k))) (v2 := (X 67 (nN k))) ((EC.up (l_told 0 X Z k) (by omega)).mono (fun r hr => by
        rw [if_pos c1] at hr
        exact XP_ri rfl hr)) (fun X1 Z1 hx => (EC.up (l_rTold 0 X1 Z1 k) (by omega)).mono (fun r hr => by
        rw [if_pos c1, hx 67 (by omega)] at hr
        exact MP_ri (h.rk1 (E64 hx)) (h.j1 (E64 hx)) hr)) (fun hh => by cases hh)
  · exact mk_pair h (J := (jx X 9)) (v := (sErr 1)) (v2 := (sErr 1)) ((EC.up (l_told 0 X Z k) (by omega)).mono (fun r hr => by
        rw [if_neg c1] at hr
        exact XP_er rfl hr)) (fun X1 Z1 hx => (EC.up (l_rTold 0 X1 Z1 k) (by omega)).mono (fun r hr => by
        rw [if_neg c1] at hr
        exact MP_er (h.rk1 (E64 hx)) (h.j1 (E64 hx)) hr)) (fun hh => by cases hh)
theorem p_trace {X Z : Nat → Nat → Int32} (h : Rel X) (i : Int32) : PAIR X Z 111 212 [.int i] true := by
  obtain ⟨g, g1, g2, g3, g4⟩ := h.2.2.2.2.2.1
  by_cases c1 : sIn i (nI 0) (nI g - nI 1) = true
  · obtain ⟨q, hq, hqi⟩ := sIn_lt (by omega) c1
    have hqn : nN i = q := by rw [hqi]; exact nN_nI (by omega)
    exact mk_pair h (J := (jx X 9)) (v := (X 52 (nN i))) (v2 := (X 52 (nN i))) ((EC.up (l_trace 0 X Z i g g2 g1) (by omega)).mono (fun r hr => by
        rw [if_pos c1] at hr
        exact XP_ri rfl hr)) (fun X1 Z1 hx => (EC.up (l_rTrace 0 X1 Z1 i g (by rw [hx 63 (by omega)]; exact g3) g1) (by omega)).mono (fun r hr => by
        rw [if_pos c1, hx 75 (by omega), ← g4 (nN i) (by omega)] at hr
        exact MP_ri (h.rk1 (E64 hx)) (h.j1 (E64 hx)) hr)) (fun _ => rfl)
  · exact mk_pair h (J := (jx X 9)) (v := (sErr 2)) (v2 := (sErr 2)) ((EC.up (l_trace 0 X Z i g g2 g1) (by omega)).mono (fun r hr => by
        rw [if_neg c1] at hr
        exact XP_er rfl hr)) (fun X1 Z1 hx => (EC.up (l_rTrace 0 X1 Z1 i g (by rw [hx 63 (by omega)]; exact g3) g1) (by omega)).mono (fun r hr => by
        rw [if_neg c1] at hr
        exact MP_er (h.rk1 (E64 hx)) (h.j1 (E64 hx)) hr)) (fun _ => rfl)
