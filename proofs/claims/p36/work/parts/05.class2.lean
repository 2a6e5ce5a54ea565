section
/-! THE FACE, first: errors, steps, the bag -/
theorem j9 : jb 9 := Or.inl rfl
theorem j22 : jb 22 := Or.inr (Or.inl rfl)
theorem j35 : jb 35 := Or.inr (Or.inr rfl)
def xErr (X : Nat → Nat → Int32) (k : Nat) : Nat → Nat → Int32 := ud X 53 k (X 53 k + nI 1)
theorem sIn_ex {w : Int32} {a c : Nat} (hc : c < 2 ^ 31) (ha : a < 2 ^ 31) (h : sIn w (nI a) (nI c) = true) : ∃ j, a ≤ j ∧ j ≤ c ∧ w = nI j := by
  unfold sIn at h
  simp only [Bool.and_eq_true, Bool.not_eq_true', decide_eq_false_iff_not] at h
  have h0 : ¬ w < 0 := by
    intro hw
    apply h.1
    have e := nI_toInt ha
    rw [Int32.lt_iff_toInt_lt] at hw ⊢
    rw [e]
    have : (0 : Int32).toInt = 0 := rfl
    omega
  obtain ⟨j, hj, rfl⟩ := nI_of h0
  refine ⟨j, ?_, ?_, rfl⟩
  · have := h.1
    rw [nI_ltI hj ha] at this
    omega
  · have := h.2
    rw [nI_ltI hc hj] at this
    omega
theorem sIn_no {w : Int32} {a c : Nat} (hc : c < 2 ^ 31) (ha : a < 2 ^ 31) (h : ∀ j, a ≤ j → j ≤ c → w ≠ nI j) : sIn w (nI a) (nI c) = false := by
  cases hb : sIn w (nI a) (nI c) with
  | false => rfl
  | true =>
    obtain ⟨j, h1, h2, h3⟩ := sIn_ex hc ha hb
    exact absurd h3 (h j h1 h2)
theorem sIn_t {j a c : Nat} (h1 : a ≤ j) (h2 : j ≤ c) (hc : c < 2 ^ 31) : sIn (nI j) (nI a) (nI c) = true := by
  rw [sIn_nI (by omega) (by omega) hc, decide_eq_true h1, decide_eq_true h2]
  rfl
set_option maxRecDepth 100000 in
set_option maxHeartbeats 4000000 in
theorem l_error (d : Nat) (X Z : Nat → Nat → Int32) (k : Nat) (hk : 1 ≤ k ∧ k ≤ 5) : EC (d + 2) 77 [.ref 0, .int (nI k)] (Wd X Z) (RI (sErr k) (xErr X k)) := by
  refine er_enter (L := [(0, _), (1, _)]) rfl rfl rfl ?_
  obtain ⟨hk1, hk5⟩ := hk
  refine er_loc (pc' := 1) rfl rfl rfl ?_
  refine er_k (pc' := 2) (nI 1) rfl rfl rfl ?_
  refine er_k (pc' := 3) (nI 5) rfl rfl rfl ?_
  refine er_cSi (pc' := 6) (rest := []) rfl rfl rfl (l_within _ _ _ _ _) ?_
  rw [sIn_t hk1 hk5 (by omega)]
  refine er_if_eqF (pc' := 9) rfl (by decide +kernel) rfl ?_
  refine er_loc (pc' := 10) rfl rfl rfl ?_
  refine er_gf (pc' := 13) (_) rfl rfl rfl rfl rfl ?_
  refine er_loc (pc' := 14) rfl rfl rfl ?_
  refine er_pure (pc' := 15) rfl rfl rfl ?_
  refine er_ia (pc' := 16) (k) rfl rfl rfl rfl (by omega) rfl rfl ?_
  refine er_k (pc' := 17) (nI 1) rfl rfl rfl ?_
  refine er_iadd (pc' := 18) rfl rfl ?_
  refine er_isX (pc' := 19) (k) rfl rfl (fun _ => rfl) rfl (by omega) rfl rfl ?_
  refine er_ldc (pc' := 22) (-1000000000) rfl rfl rfl rfl rfl ?_
  refine er_loc (pc' := 23) rfl rfl rfl ?_
  refine er_isub (pc' := 24) rfl rfl ?_
  refine er_iret rfl rfl ?_
  exact RI_of rfl rfl
theorem l_has_no (d : Nat) (X Z : Nat → Nat → Int32) {b : Nat} (hb : jb b) (s : Int32) (h : (!decide (s < 0) && decide (s < X b 1)) = false) : EC (d + 1) 33 [.ref b, .int s] (Wd X Z) (PI (bI false) (Wd X Z)) := by
  have h1 := l_has d hb X Z s
  rw [h] at h1
  exact h1
def xHas (X : Nat → Nat → Int32) (s : Int32) : Bool := !decide (s < 0) && decide (s < X 9 1)
theorem xHas_k {T : Nat} {X : Nat → Nat → Int32} {s : Int32} (hI : IJ T (jx X 9)) (h : xHas X s = true) : ∃ k, k < jn (jx X 9) ∧ s = nI k := by
  unfold xHas at h
  simp only [Bool.and_eq_true, Bool.not_eq_true', decide_eq_false_iff_not, decide_eq_true_eq] at h
  obtain ⟨k, hk, rfl⟩ := nI_of h.1
  refine ⟨k, ?_, rfl⟩
  have h2 := h.2
  have h8 := jn8 hI
  rw [show X 9 1 = nI (jn (jx X 9)) from hI.n.1, nI_ltI hk (by omega)] at h2
  exact h2
def sStepOk (n km s nd : Int32) : Bool := sIn km (nI 0) (nI 69) && sIn s (nI 0) (nI 9) && sIn nd (nI 0) (nI 1 <<< (n &&& 31) - nI 1)
set_option maxRecDepth 100000 in
set_option maxHeartbeats 4000000 in
theorem l_step (d : Nat) (X Z : Nat → Nat → Int32) {T : Nat} (hI : IJ T (jx X 9)) (km s nd : Int32) : EC (d + 3) 75 [.ref 0, .int km, .int s, .int nd] (Wd X Z) (fun r => if sStepOk (jx X 9 0 1) km s nd = true then (if jn (jx X 9) < 8 then RI (nI (jn (jx X 9))) (xAdd X 9 (jn (jx X 9)) km s nd) r else RI (sErr 4) (xErr X 4) r) else RI (sErr 1) (xErr X 1) r) := by
  refine er_enter (L := [(0, _), (1, _), (2, _), (3, _)]) rfl rfl rfl ?_
  have h8 := jn8 hI
  have hn : X 9 1 = nI (jn (jx X 9)) := hI.n.1
  refine er_loc (pc' := 1) rfl rfl rfl ?_
  refine er_k (pc' := 2) (nI 0) rfl rfl rfl ?_
  refine er_k (pc' := 4) (nI 69) rfl rfl rfl ?_
  refine er_cSi (pc' := 7) (rest := []) rfl rfl rfl (l_within _ _ _ _ _) ?_
  refine er_if_eqb (pc' := 10) rfl rfl (fun h7 => ?_) (fun h7 => ?_)
  · refine er_k (pc' := 25) (nI 0) rfl rfl rfl ?_
    refine er_loc (pc' := 27) (L' := [(4, _), (0, _), (1, _), (2, _), (3, _)]) rfl rfl rfl ?_
    refine er_loc (pc' := 29) rfl rfl rfl ?_
    refine er_if_eqT rfl (by decide +kernel) ?_
    refine er_loc (pc' := 52) rfl rfl rfl ?_
    refine er_k (pc' := 53) (nI 1) rfl rfl rfl ?_
    refine er_cIz (pc' := 56) (rest := []) 11 rfl rfl rfl rfl rfl rfl (l_error _ _ _ 1 (by decide)) ?_
    intro Z9
    refine er_iret rfl rfl ?_
    rw [show jx X 9 0 1 = X 9 1 from rfl]
    have e : sStepOk (X 9 1) km s nd = false := by simp_all [sStepOk]
    rw [e]
    exact RI_of rfl rfl
  · refine er_loc (pc' := 11) rfl rfl rfl ?_
    refine er_k (pc' := 12) (nI 0) rfl rfl rfl ?_
    refine er_k (pc' := 14) (nI 9) rfl rfl rfl ?_
    refine er_cSi (pc' := 17) (rest := []) rfl rfl rfl (l_within _ _ _ _ _) ?_
    refine er_if_eqb (pc' := 20) rfl rfl (fun h17 => ?_) (fun h17 => ?_)
    · refine er_k (pc' := 25) (nI 0) rfl rfl rfl ?_
      refine er_loc (pc' := 27) (L' := [(4, _), (0, _), (1, _), (2, _), (3, _)]) rfl rfl rfl ?_
      refine er_loc (pc' := 29) rfl rfl rfl ?_
      refine er_if_eqT rfl (by decide +kernel) ?_
      refine er_loc (pc' := 52) rfl rfl rfl ?_
      refine er_k (pc' := 53) (nI 1) rfl rfl rfl ?_
      refine er_cIz (pc' := 56) (rest := []) 11 rfl rfl rfl rfl rfl rfl (l_error _ _ _ 1 (by decide)) ?_
      intro Z9
      refine er_iret rfl rfl ?_
      rw [show jx X 9 0 1 = X 9 1 from rfl]
      have e : sStepOk (X 9 1) km s nd = false := by simp_all [sStepOk]
      rw [e]
      exact RI_of rfl rfl
    · refine er_k (pc' := 21) (nI 1) rfl rfl rfl ?_
      refine er_goto rfl ?_
      refine er_loc (pc' := 27) (L' := [(4, _), (0, _), (1, _), (2, _), (3, _)]) rfl rfl rfl ?_
      refine er_loc (pc' := 29) rfl rfl rfl ?_
      refine er_if_eqF (pc' := 32) rfl (by decide +kernel) rfl ?_
      refine er_loc (pc' := 33) rfl rfl rfl ?_
      refine er_k (pc' := 34) (nI 0) rfl rfl rfl ?_
      refine er_k (pc' := 35) (nI 1) rfl rfl rfl ?_
      refine er_loc (pc' := 36) rfl rfl rfl ?_
      refine er_gf (pc' := 39) (_) rfl rfl rfl rfl rfl ?_
      refine er_gf (pc' := 42) (.int (X 9 1)) rfl rfl rfl rfl rfl ?_
      refine er_ishl (pc' := 43) rfl rfl ?_
      refine er_k (pc' := 44) (nI 1) rfl rfl rfl ?_
      refine er_isub (pc' := 45) rfl rfl ?_
      refine er_cSi (pc' := 48) (rest := []) rfl rfl rfl (l_within _ _ _ _ _) ?_
      refine er_if_neb (pc' := 51) rfl rfl (fun h48 => ?_) (fun h48 => ?_)
      · refine er_loc (pc' := 58) rfl rfl rfl ?_
        refine er_gf (pc' := 61) (_) rfl rfl rfl rfl rfl ?_
        refine er_gf (pc' := 64) (.int (X 9 1)) rfl rfl rfl rfl rfl ?_
        rw [hn]
        refine er_k (pc' := 66) (nI 8) rfl rfl rfl ?_
        refine er_cm_lt (pc' := 69) rfl rfl (fun h66 => ?_) (fun h66 => ?_)
        · have hlt : jn (jx X 9) < 8 := by
            rw [nI_ltI (by omega) (by omega)] at h66; exact h66
          refine er_loc (pc' := 76) rfl rfl rfl ?_
          refine er_gf (pc' := 79) (_) rfl rfl rfl rfl rfl ?_
          refine er_loc (pc' := 80) rfl rfl rfl ?_
          refine er_loc (pc' := 81) rfl rfl rfl ?_
          refine er_loc (pc' := 82) rfl rfl rfl ?_
          refine er_cIz (pc' := 85) (rest := []) 7 rfl rfl rfl rfl rfl rfl (l_add _ j9 _ _ _ _ _ _ hn hlt) ?_
          intro Z8
          refine er_iret rfl rfl ?_
          rw [show jx X 9 0 1 = X 9 1 from rfl]
          have e : sStepOk (X 9 1) km s nd = true := by simp_all [sStepOk]
          rw [e]
          rw [if_pos rfl, if_pos hlt]; exact RI_of rfl rfl
        · have hlt : ¬ jn (jx X 9) < 8 := by
            rw [nI_ltI (by omega) (by omega)] at h66; exact h66
          refine er_loc (pc' := 70) rfl rfl rfl ?_
          refine er_k (pc' := 71) (nI 4) rfl rfl rfl ?_
          refine er_cIz (pc' := 74) (rest := []) 11 rfl rfl rfl rfl rfl rfl (l_error _ _ _ 4 (by decide)) ?_
          intro Z9
          refine er_iret rfl rfl ?_
          rw [show jx X 9 0 1 = X 9 1 from rfl]
          have e : sStepOk (X 9 1) km s nd = true := by simp_all [sStepOk]
          rw [e]
          rw [if_pos rfl, if_neg hlt]; exact RI_of rfl rfl
      · refine er_loc (pc' := 52) rfl rfl rfl ?_
        refine er_k (pc' := 53) (nI 1) rfl rfl rfl ?_
        refine er_cIz (pc' := 56) (rest := []) 11 rfl rfl rfl rfl rfl rfl (l_error _ _ _ 1 (by decide)) ?_
        intro Z9
        refine er_iret rfl rfl ?_
        rw [show jx X 9 0 1 = X 9 1 from rfl]
        have e : sStepOk (X 9 1) km s nd = false := by simp_all [sStepOk]
        rw [e]
        exact RI_of rfl rfl
def sOf (J : Nat → Nat → Int32) (k : Nat) (w : Int32) : Int32 :=
  if w = 0 then J 1 k else if w = 1 then J 2 k else if w = 2 then J 3 k else if w = 3 then J 4 k else if w = 4 then bI (sDone J k) else if w = 5 then bI (sBit (J 0 7) (nI k)) else if w = 6 then sLasts J k else if w = 7 then sBack J k else if w = 8 then bI (sMayDo J k) else bI (sMayUn J k)
set_option maxRecDepth 100000 in
set_option maxHeartbeats 4000000 in
theorem l_ofStep_no (d : Nat) (X Z : Nat → Nat → Int32) (s w : Int32) (hs : xHas X s = false) : EC (d + 3) 78 [.ref 0, .int s, .int w] (Wd X Z) (RI (sErr 1) (xErr X 1)) := by
  refine er_enter (L := [(0, _), (1, _), (2, _)]) rfl rfl rfl ?_
  refine er_loc (pc' := 1) rfl rfl rfl ?_
  refine er_gf (pc' := 4) (_) rfl rfl rfl rfl rfl ?_
  refine er_loc (pc' := 5) rfl rfl rfl ?_
  refine er_cIi (pc' := 8) (rest := []) 7 rfl rfl rfl rfl rfl rfl (l_has_no _ _ _ j9 _ hs) ?_
  refine er_if_neF (pc' := 11) rfl (by decide +kernel) rfl ?_
  refine er_loc (pc' := 12) rfl rfl rfl ?_
  refine er_k (pc' := 13) (nI 1) rfl rfl rfl ?_
  refine er_cIz (pc' := 16) (rest := []) 11 rfl rfl rfl rfl rfl rfl (l_error _ _ _ 1 (by decide)) ?_
  intro Z9
  refine er_iret rfl rfl ?_
  exact RI_of rfl rfl
set_option maxRecDepth 100000 in
set_option maxHeartbeats 4000000 in
theorem l_ofStep (d : Nat) (X Z : Nat → Nat → Int32) {T : Nat} (hI : IJ T (jx X 9)) {k : Nat} (hk : k < jn (jx X 9)) (w : Int32) : EC (d + 6) 78 [.ref 0, .int (nI k), .int w] (Wd X Z) (fun r => if sIn w (nI 0) (nI 9) = true then RI (sOf (jx X 9) k w) X r else RI (sErr 1) (xErr X 1) r) := by
  refine er_enter (L := [(0, _), (1, _), (2, _)]) rfl rfl rfl ?_
  have h8 := jn8 hI
  have hk8 : k < 8 := by omega
  refine er_loc (pc' := 1) rfl rfl rfl ?_
  refine er_gf (pc' := 4) (_) rfl rfl rfl rfl rfl ?_
  refine er_loc (pc' := 5) rfl rfl rfl ?_
  refine er_cIi (pc' := 8) (rest := []) 7 rfl rfl rfl rfl rfl rfl (l_has_t _ j9 _ _ hI hk) ?_
  refine er_if_neT rfl (by decide +kernel) ?_
  refine er_loc (pc' := 18) rfl rfl rfl ?_
  refine er_sw (0) rfl rfl (fun s18_0 => ?_) (fun s18_0 => ?_)
  · refine er_loc (pc' := 73) rfl rfl rfl ?_
    refine er_gf (pc' := 76) (_) rfl rfl rfl rfl rfl ?_
    refine er_gf (pc' := 79) (_) rfl rfl rfl rfl rfl ?_
    refine er_loc (pc' := 80) rfl rfl rfl ?_
    refine er_ia (pc' := 81) (k) rfl rfl rfl rfl (by omega) rfl rfl ?_
    refine er_iret rfl rfl ?_
    subst w
    rw [if_pos (by decide +kernel)]
    refine RI_of ?_ rfl
    unfold sOf
    simp [jx1 hk8, jx2 hk8, jx3 hk8, jx4 hk8, sDone, jx06, jx07, bI, *]
  refine er_sw (1) rfl rfl (fun s18_1 => ?_) (fun s18_1 => ?_)
  · refine er_loc (pc' := 83) rfl rfl rfl ?_
    refine er_gf (pc' := 86) (_) rfl rfl rfl rfl rfl ?_
    refine er_gf (pc' := 89) (_) rfl rfl rfl rfl rfl ?_
    refine er_loc (pc' := 90) rfl rfl rfl ?_
    refine er_ia (pc' := 91) (k) rfl rfl rfl rfl (by omega) rfl rfl ?_
    refine er_iret rfl rfl ?_
    subst w
    rw [if_pos (by decide +kernel)]
    refine RI_of ?_ rfl
    unfold sOf
    simp [jx1 hk8, jx2 hk8, jx3 hk8, jx4 hk8, sDone, jx06, jx07, bI, *]
  refine er_sw (2) rfl rfl (fun s18_2 => ?_) (fun s18_2 => ?_)
  · refine er_loc (pc' := 93) rfl rfl rfl ?_
    refine er_gf (pc' := 96) (_) rfl rfl rfl rfl rfl ?_
    refine er_gf (pc' := 99) (_) rfl rfl rfl rfl rfl ?_
    refine er_loc (pc' := 100) rfl rfl rfl ?_
    refine er_ia (pc' := 101) (k) rfl rfl rfl rfl (by omega) rfl rfl ?_
    refine er_iret rfl rfl ?_
    subst w
    rw [if_pos (by decide +kernel)]
    refine RI_of ?_ rfl
    unfold sOf
    simp [jx1 hk8, jx2 hk8, jx3 hk8, jx4 hk8, sDone, jx06, jx07, bI, *]
  refine er_sw (3) rfl rfl (fun s18_3 => ?_) (fun s18_3 => ?_)
  · refine er_loc (pc' := 103) rfl rfl rfl ?_
    refine er_gf (pc' := 106) (_) rfl rfl rfl rfl rfl ?_
    refine er_gf (pc' := 109) (_) rfl rfl rfl rfl rfl ?_
    refine er_loc (pc' := 110) rfl rfl rfl ?_
    refine er_ia (pc' := 111) (k) rfl rfl rfl rfl (by omega) rfl rfl ?_
    refine er_iret rfl rfl ?_
    subst w
    rw [if_pos (by decide +kernel)]
    refine RI_of ?_ rfl
    unfold sOf
    simp [jx1 hk8, jx2 hk8, jx3 hk8, jx4 hk8, sDone, jx06, jx07, bI, *]
  refine er_sw (4) rfl rfl (fun s18_4 => ?_) (fun s18_4 => ?_)
  · refine er_loc (pc' := 113) rfl rfl rfl ?_
    refine er_gf (pc' := 116) (_) rfl rfl rfl rfl rfl ?_
    refine er_loc (pc' := 117) rfl rfl rfl ?_
    refine er_cIi (pc' := 120) (rest := []) 7 rfl rfl rfl rfl rfl rfl (l_isDone _ j9 _ _ _) ?_
    refine er_if_eqb (pc' := 123) rfl rfl (fun h120 => ?_) (fun h120 => ?_)
    · refine er_k (pc' := 128) (nI 0) rfl rfl rfl ?_
      refine er_iret rfl rfl ?_
      subst w
      rw [if_pos (by decide +kernel)]
      refine RI_of ?_ rfl
      unfold sOf
      simp [jx1 hk8, jx2 hk8, jx3 hk8, jx4 hk8, sDone, jx06, jx07, bI, *]
    · refine er_k (pc' := 124) (nI 1) rfl rfl rfl ?_
      refine er_goto rfl ?_
      refine er_iret rfl rfl ?_
      subst w
      rw [if_pos (by decide +kernel)]
      refine RI_of ?_ rfl
      unfold sOf
      simp [jx1 hk8, jx2 hk8, jx3 hk8, jx4 hk8, sDone, jx06, jx07, bI, *]
  refine er_sw (5) rfl rfl (fun s18_5 => ?_) (fun s18_5 => ?_)
  · refine er_loc (pc' := 130) rfl rfl rfl ?_
    refine er_gf (pc' := 133) (_) rfl rfl rfl rfl rfl ?_
    refine er_loc (pc' := 134) rfl rfl rfl ?_
    refine er_cIi (pc' := 137) (rest := []) 7 rfl rfl rfl rfl rfl rfl (l_isWrong _ j9 _ _ _) ?_
    refine er_if_eqb (pc' := 140) rfl rfl (fun h137 => ?_) (fun h137 => ?_)
    · refine er_k (pc' := 145) (nI 0) rfl rfl rfl ?_
      refine er_iret rfl rfl ?_
      subst w
      rw [if_pos (by decide +kernel)]
      refine RI_of ?_ rfl
      unfold sOf
      simp [jx1 hk8, jx2 hk8, jx3 hk8, jx4 hk8, sDone, jx06, jx07, bI, *]
    · refine er_k (pc' := 141) (nI 1) rfl rfl rfl ?_
      refine er_goto rfl ?_
      refine er_iret rfl rfl ?_
      subst w
      rw [if_pos (by decide +kernel)]
      refine RI_of ?_ rfl
      unfold sOf
      simp [jx1 hk8, jx2 hk8, jx3 hk8, jx4 hk8, sDone, jx06, jx07, bI, *]
  refine er_sw (6) rfl rfl (fun s18_6 => ?_) (fun s18_6 => ?_)
  · refine er_loc (pc' := 147) rfl rfl rfl ?_
    refine er_gf (pc' := 150) (_) rfl rfl rfl rfl rfl ?_
    refine er_loc (pc' := 151) rfl rfl rfl ?_
    refine er_cIz (pc' := 154) (rest := []) 7 rfl rfl rfl rfl rfl rfl (l_lasts _ j9 _ _ hI hk) ?_
    intro Z2
    refine er_iret rfl rfl ?_
    subst w
    rw [if_pos (by decide +kernel)]
    refine RI_of ?_ rfl
    unfold sOf
    simp [jx1 hk8, jx2 hk8, jx3 hk8, jx4 hk8, sDone, jx06, jx07, bI, *]
  refine er_sw (7) rfl rfl (fun s18_7 => ?_) (fun s18_7 => ?_)
  · refine er_loc (pc' := 156) rfl rfl rfl ?_
    refine er_gf (pc' := 159) (_) rfl rfl rfl rfl rfl ?_
    refine er_loc (pc' := 160) rfl rfl rfl ?_
    refine er_cIz (pc' := 163) (rest := []) 7 rfl rfl rfl rfl rfl rfl (l_takesBack _ j9 _ _ hI hk) ?_
    intro Z2
    refine er_iret rfl rfl ?_
    subst w
    rw [if_pos (by decide +kernel)]
    refine RI_of ?_ rfl
    unfold sOf
    simp [jx1 hk8, jx2 hk8, jx3 hk8, jx4 hk8, sDone, jx06, jx07, bI, *]
  refine er_sw (8) rfl rfl (fun s18_8 => ?_) (fun s18_8 => ?_)
  · refine er_loc (pc' := 165) rfl rfl rfl ?_
    refine er_gf (pc' := 168) (_) rfl rfl rfl rfl rfl ?_
    refine er_loc (pc' := 169) rfl rfl rfl ?_
    refine er_cIi (pc' := 172) (rest := []) 7 rfl rfl rfl rfl rfl rfl (l_mayBeDone _ j9 _ _ hI hk) ?_
    refine er_if_eqb (pc' := 175) rfl rfl (fun h172 => ?_) (fun h172 => ?_)
    · refine er_k (pc' := 180) (nI 0) rfl rfl rfl ?_
      refine er_iret rfl rfl ?_
      subst w
      rw [if_pos (by decide +kernel)]
      refine RI_of ?_ rfl
      unfold sOf
      simp [jx1 hk8, jx2 hk8, jx3 hk8, jx4 hk8, sDone, jx06, jx07, bI, *]
    · refine er_k (pc' := 176) (nI 1) rfl rfl rfl ?_
      refine er_goto rfl ?_
      refine er_iret rfl rfl ?_
      subst w
      rw [if_pos (by decide +kernel)]
      refine RI_of ?_ rfl
      unfold sOf
      simp [jx1 hk8, jx2 hk8, jx3 hk8, jx4 hk8, sDone, jx06, jx07, bI, *]
  refine er_sw (9) rfl rfl (fun s18_9 => ?_) (fun s18_9 => ?_)
  · refine er_loc (pc' := 182) rfl rfl rfl ?_
    refine er_gf (pc' := 185) (_) rfl rfl rfl rfl rfl ?_
    refine er_loc (pc' := 186) rfl rfl rfl ?_
    refine er_cIi (pc' := 189) (rest := []) 7 rfl rfl rfl rfl rfl rfl (l_mayBeUndone _ j9 _ _ hI hk) ?_
    refine er_if_eqb (pc' := 192) rfl rfl (fun h189 => ?_) (fun h189 => ?_)
    · refine er_k (pc' := 197) (nI 0) rfl rfl rfl ?_
      refine er_iret rfl rfl ?_
      subst w
      rw [if_pos (by decide +kernel)]
      refine RI_of ?_ rfl
      unfold sOf
      simp [jx1 hk8, jx2 hk8, jx3 hk8, jx4 hk8, sDone, jx06, jx07, bI, *]
    · refine er_k (pc' := 193) (nI 1) rfl rfl rfl ?_
      refine er_goto rfl ?_
      refine er_iret rfl rfl ?_
      subst w
      rw [if_pos (by decide +kernel)]
      refine RI_of ?_ rfl
      unfold sOf
      simp [jx1 hk8, jx2 hk8, jx3 hk8, jx4 hk8, sDone, jx06, jx07, bI, *]
  refine er_tsD [0, 1, 2, 3, 4, 5, 6, 7, 8, 9] rfl rfl rfl rfl (List.forall_mem_cons.mpr ⟨ne_toInt s18_0 rfl, List.forall_mem_cons.mpr ⟨ne_toInt s18_1 rfl, List.forall_mem_cons.mpr ⟨ne_toInt s18_2 rfl, List.forall_mem_cons.mpr ⟨ne_toInt s18_3 rfl, List.forall_mem_cons.mpr ⟨ne_toInt s18_4 rfl, List.forall_mem_cons.mpr ⟨ne_toInt s18_5 rfl, List.forall_mem_cons.mpr ⟨ne_toInt s18_6 rfl, List.forall_mem_cons.mpr ⟨ne_toInt s18_7 rfl, List.forall_mem_cons.mpr ⟨ne_toInt s18_8 rfl, List.forall_mem_cons.mpr ⟨ne_toInt s18_9 rfl, fun _ h => absurd h List.not_mem_nil⟩⟩⟩⟩⟩⟩⟩⟩⟩⟩) ?_
  refine er_loc (pc' := 199) rfl rfl rfl ?_
  refine er_k (pc' := 200) (nI 1) rfl rfl rfl ?_
  refine er_cIz (pc' := 203) (rest := []) 11 rfl rfl rfl rfl rfl rfl (l_error _ _ _ 1 (by decide)) ?_
  intro Z9
  refine er_iret rfl rfl ?_
  rw [sIn_no (by omega) (by omega) (by
    intro j _ hj e
    have : j = 0 ∨ j = 1 ∨ j = 2 ∨ j = 3 ∨ j = 4 ∨ j = 5 ∨ j = 6 ∨ j = 7 ∨ j = 8 ∨ j = 9 := by omega
    rcases this with rfl | rfl | rfl | rfl | rfl | rfl | rfl | rfl | rfl | rfl
    · exact s18_0 e
    · exact s18_1 e
    · exact s18_2 e
    · exact s18_3 e
    · exact s18_4 e
    · exact s18_5 e
    · exact s18_6 e
    · exact s18_7 e
    · exact s18_8 e
    · exact s18_9 e
  )]
  exact RI_of rfl rfl
def sMost (k : Nat) (w : Int32) : Int32 := if w = 0 then nI 9 else if w = 1 then nI 1 <<< (nI k &&& 31) - nI 1 else if w = 2 then nI 1 else -1
set_option maxRecDepth 100000 in
set_option maxHeartbeats 4000000 in
theorem l_mostToChange (d : Nat) (k : Nat) (w : Int32) (W : ab_W) : EC (d + 1) 81 [.int (nI k), .int w] W (PI (sMost k w) W) := by
  refine er_enter (L := [(0, _), (1, _)]) rfl rfl rfl ?_
  refine er_loc (pc' := 1) rfl rfl rfl ?_
  refine er_sw (0) rfl rfl (fun s1_0 => ?_) (fun s1_0 => ?_)
  · refine er_k (pc' := 30) (nI 9) rfl rfl rfl ?_
    refine er_iret rfl rfl ?_
    exact PI_of (by simp [sMost, *])
  refine er_sw (1) rfl rfl (fun s1_1 => ?_) (fun s1_1 => ?_)
  · refine er_k (pc' := 32) (nI 1) rfl rfl rfl ?_
    refine er_loc (pc' := 33) rfl rfl rfl ?_
    refine er_ishl (pc' := 34) rfl rfl ?_
    refine er_k (pc' := 35) (nI 1) rfl rfl rfl ?_
    refine er_isub (pc' := 36) rfl rfl ?_
    refine er_iret rfl rfl ?_
    exact PI_of (by simp [sMost, *])
  refine er_sw (2) rfl rfl (fun s1_2 => ?_) (fun s1_2 => ?_)
  · refine er_k (pc' := 38) (nI 1) rfl rfl rfl ?_
    refine er_iret rfl rfl ?_
    exact PI_of (by simp [sMost, *])
  refine er_tsD [0, 1, 2] rfl rfl rfl rfl (List.forall_mem_cons.mpr ⟨ne_toInt s1_0 rfl, List.forall_mem_cons.mpr ⟨ne_toInt s1_1 rfl, List.forall_mem_cons.mpr ⟨ne_toInt s1_2 rfl, fun _ h => absurd h List.not_mem_nil⟩⟩⟩) ?_
  refine er_k (pc' := 40) (-1) rfl rfl rfl ?_
  refine er_iret rfl rfl ?_
  exact PI_of (by simp [sMost, *])
set_option maxRecDepth 100000 in
set_option maxHeartbeats 4000000 in
theorem l_change_no (d : Nat) (X Z : Nat → Nat → Int32) (s w v : Int32) (hs : xHas X s = false) : EC (d + 3) 80 [.ref 0, .int s, .int w, .int v] (Wd X Z) (RI (sErr 1) (xErr X 1)) := by
  refine er_enter (L := [(0, _), (1, _), (2, _), (3, _)]) rfl rfl rfl ?_
  refine er_loc (pc' := 1) rfl rfl rfl ?_
  refine er_gf (pc' := 4) (_) rfl rfl rfl rfl rfl ?_
  refine er_loc (pc' := 5) rfl rfl rfl ?_
  refine er_cIi (pc' := 8) (rest := []) 7 rfl rfl rfl rfl rfl rfl (l_has_no _ _ _ j9 _ hs) ?_
  refine er_if_eqT rfl (by decide +kernel) ?_
  refine er_loc (pc' := 25) rfl rfl rfl ?_
  refine er_k (pc' := 26) (nI 1) rfl rfl rfl ?_
  refine er_cIz (pc' := 29) (rest := []) 11 rfl rfl rfl rfl rfl rfl (l_error _ _ _ 1 (by decide)) ?_
  intro Z9
  refine er_iret rfl rfl ?_
  exact RI_of rfl rfl
set_option maxRecDepth 100000 in
set_option maxHeartbeats 4000000 in
theorem l_change (d : Nat) (X Z : Nat → Nat → Int32) {T : Nat} (hI : IJ T (jx X 9)) {k : Nat} (hk : k < jn (jx X 9)) (w v : Int32) : EC (d + 3) 80 [.ref 0, .int (nI k), .int w, .int v] (Wd X Z) (fun r => if sIn v (nI 0) (sMost k w) = true then (if w = 0 then RI (jx X 9 3 k) (ud X (9 + 3) k v) r else if w = nI 1 then RI (jx X 9 4 k) (ud X (9 + 4) k v) r else if sBit (jx X 9 0 6) (nI k) = true then RI (bI (sBit (jx X 9 0 7) (nI k))) (ud X 9 7 (sWith (X 9 7) (nI k) (decide (v = nI 1)))) r else RI (sErr 3) (xErr X 3) r) else RI (sErr 1) (xErr X 1) r) := by
  refine er_enter (L := [(0, _), (1, _), (2, _), (3, _)]) rfl rfl rfl ?_
  have h8 := jn8 hI
  have hk8 : k < 8 := by omega
  refine er_loc (pc' := 1) rfl rfl rfl ?_
  refine er_gf (pc' := 4) (_) rfl rfl rfl rfl rfl ?_
  refine er_loc (pc' := 5) rfl rfl rfl ?_
  refine er_cIi (pc' := 8) (rest := []) 7 rfl rfl rfl rfl rfl rfl (l_has_t _ j9 _ _ hI hk) ?_
  refine er_if_eqF (pc' := 11) rfl (by decide +kernel) rfl ?_
  refine er_loc (pc' := 12) rfl rfl rfl ?_
  refine er_k (pc' := 13) (nI 0) rfl rfl rfl ?_
  refine er_loc (pc' := 14) rfl rfl rfl ?_
  refine er_loc (pc' := 15) rfl rfl rfl ?_
  refine er_cSi (pc' := 18) (rest := [_, _]) rfl rfl rfl (l_mostToChange _ _ _ _) ?_
  refine er_cSi (pc' := 21) (rest := []) rfl rfl rfl (l_within _ _ _ _ _) ?_
  refine er_if_neb (pc' := 24) rfl rfl (fun h21 => ?_) (fun h21 => ?_)
  · refine er_loc (pc' := 31) rfl rfl rfl ?_
    refine er_if_ne (pc' := 34) rfl rfl (fun h31 => ?_) (fun h31 => ?_)
    · refine er_loc (pc' := 59) rfl rfl rfl ?_
      refine er_k (pc' := 60) (nI 1) rfl rfl rfl ?_
      refine er_cm_ne (pc' := 63) rfl rfl (fun h60 => ?_) (fun h60 => ?_)
      · refine er_loc (pc' := 88) rfl rfl rfl ?_
        refine er_gf (pc' := 91) (_) rfl rfl rfl rfl rfl ?_
        refine er_loc (pc' := 92) rfl rfl rfl ?_
        refine er_cIi (pc' := 95) (rest := []) 7 rfl rfl rfl rfl rfl rfl (l_isDone _ j9 _ _ _) ?_
        refine er_if_neb (pc' := 98) rfl rfl (fun h95 => ?_) (fun h95 => ?_)
        · refine er_loc (pc' := 105) rfl rfl rfl ?_
          refine er_gf (pc' := 108) (_) rfl rfl rfl rfl rfl ?_
          refine er_loc (pc' := 109) rfl rfl rfl ?_
          refine er_cIi (pc' := 112) (rest := []) 7 rfl rfl rfl rfl rfl rfl (l_isWrong _ j9 _ _ _) ?_
          refine er_if_eqb (pc' := 115) rfl rfl (fun h112 => ?_) (fun h112 => ?_)
          · refine er_k (pc' := 120) (nI 0) rfl rfl rfl ?_
            refine er_loc (pc' := 122) (L' := [(4, _), (0, _), (1, _), (2, _), (3, _)]) rfl rfl rfl ?_
            refine er_loc (pc' := 123) rfl rfl rfl ?_
            refine er_gf (pc' := 126) (_) rfl rfl rfl rfl rfl ?_
            refine er_loc (pc' := 127) rfl rfl rfl ?_
            refine er_gf (pc' := 130) (_) rfl rfl rfl rfl rfl ?_
            refine er_gf (pc' := 133) (_) rfl rfl rfl rfl rfl ?_
            refine er_loc (pc' := 134) rfl rfl rfl ?_
            refine er_loc (pc' := 135) rfl rfl rfl ?_
            refine er_k (pc' := 136) (nI 1) rfl rfl rfl ?_
            refine er_cm_ne (pc' := 139) rfl rfl (fun h136 => ?_) (fun h136 => ?_)
            · refine er_k (pc' := 144) (nI 0) rfl rfl rfl ?_
              refine er_cSi (pc' := 147) (rest := [_]) rfl rfl rfl (l_with _ _ _ false _) ?_
              refine er_pfIX (pc' := 150) 7 rfl rfl rfl rfl rfl rfl ?_
              refine er_loc (pc' := 152) rfl rfl rfl ?_
              refine er_iret rfl rfl ?_
              rw [if_pos h21]
              first | rw [if_pos h31] | (rw [if_neg h31]; first | rw [if_pos h60] | rw [if_neg h60, if_pos (by rw [jx06]; exact h95)])
              refine RI_of ?_ ?_
              · first | rw [jx3 hk8] | rw [jx4 hk8] | (rw [jx07]; first | exact bI_eq1 h112 | exact bI_eq0 h112)
              · first | rfl | simp [*]
            · refine er_k (pc' := 140) (nI 1) rfl rfl rfl ?_
              refine er_goto rfl ?_
              refine er_cSi (pc' := 147) (rest := [_]) rfl rfl rfl (l_with _ _ _ true _) ?_
              refine er_pfIX (pc' := 150) 7 rfl rfl rfl rfl rfl rfl ?_
              refine er_loc (pc' := 152) rfl rfl rfl ?_
              refine er_iret rfl rfl ?_
              rw [if_pos h21]
              first | rw [if_pos h31] | (rw [if_neg h31]; first | rw [if_pos h60] | rw [if_neg h60, if_pos (by rw [jx06]; exact h95)])
              refine RI_of ?_ ?_
              · first | rw [jx3 hk8] | rw [jx4 hk8] | (rw [jx07]; first | exact bI_eq1 h112 | exact bI_eq0 h112)
              · first | rfl | simp [*]
          · refine er_k (pc' := 116) (nI 1) rfl rfl rfl ?_
            refine er_goto rfl ?_
            refine er_loc (pc' := 122) (L' := [(4, _), (0, _), (1, _), (2, _), (3, _)]) rfl rfl rfl ?_
            refine er_loc (pc' := 123) rfl rfl rfl ?_
            refine er_gf (pc' := 126) (_) rfl rfl rfl rfl rfl ?_
            refine er_loc (pc' := 127) rfl rfl rfl ?_
            refine er_gf (pc' := 130) (_) rfl rfl rfl rfl rfl ?_
            refine er_gf (pc' := 133) (_) rfl rfl rfl rfl rfl ?_
            refine er_loc (pc' := 134) rfl rfl rfl ?_
            refine er_loc (pc' := 135) rfl rfl rfl ?_
            refine er_k (pc' := 136) (nI 1) rfl rfl rfl ?_
            refine er_cm_ne (pc' := 139) rfl rfl (fun h136 => ?_) (fun h136 => ?_)
            · refine er_k (pc' := 144) (nI 0) rfl rfl rfl ?_
              refine er_cSi (pc' := 147) (rest := [_]) rfl rfl rfl (l_with _ _ _ false _) ?_
              refine er_pfIX (pc' := 150) 7 rfl rfl rfl rfl rfl rfl ?_
              refine er_loc (pc' := 152) rfl rfl rfl ?_
              refine er_iret rfl rfl ?_
              rw [if_pos h21]
              first | rw [if_pos h31] | (rw [if_neg h31]; first | rw [if_pos h60] | rw [if_neg h60, if_pos (by rw [jx06]; exact h95)])
              refine RI_of ?_ ?_
              · first | rw [jx3 hk8] | rw [jx4 hk8] | (rw [jx07]; first | exact bI_eq1 h112 | exact bI_eq0 h112)
              · first | rfl | simp [*]
            · refine er_k (pc' := 140) (nI 1) rfl rfl rfl ?_
              refine er_goto rfl ?_
              refine er_cSi (pc' := 147) (rest := [_]) rfl rfl rfl (l_with _ _ _ true _) ?_
              refine er_pfIX (pc' := 150) 7 rfl rfl rfl rfl rfl rfl ?_
              refine er_loc (pc' := 152) rfl rfl rfl ?_
              refine er_iret rfl rfl ?_
              rw [if_pos h21]
              first | rw [if_pos h31] | (rw [if_neg h31]; first | rw [if_pos h60] | rw [if_neg h60, if_pos (by rw [jx06]; exact h95)])
              refine RI_of ?_ ?_
              · first | rw [jx3 hk8] | rw [jx4 hk8] | (rw [jx07]; first | exact bI_eq1 h112 | exact bI_eq0 h112)
              · first | rfl | simp [*]
        · refine er_loc (pc' := 99) rfl rfl rfl ?_
          refine er_k (pc' := 100) (nI 3) rfl rfl rfl ?_
          refine er_cIz (pc' := 103) (rest := []) 11 rfl rfl rfl rfl rfl rfl (l_error _ _ _ 3 (by decide)) ?_
          intro Z9
          refine er_iret rfl rfl ?_
          rw [if_pos h21, if_neg h31, if_neg h60, if_neg (by rw [jx06]; rw [h95]; decide)]
          exact RI_of rfl rfl
      · refine er_loc (pc' := 64) rfl rfl rfl ?_
        refine er_gf (pc' := 67) (_) rfl rfl rfl rfl rfl ?_
        refine er_gf (pc' := 70) (_) rfl rfl rfl rfl rfl ?_
        refine er_loc (pc' := 71) rfl rfl rfl ?_
        refine er_ia (pc' := 72) (k) rfl rfl rfl rfl (by omega) rfl rfl ?_
        refine er_loc (pc' := 74) (L' := [(4, _), (0, _), (1, _), (2, _), (3, _)]) rfl rfl rfl ?_
        refine er_loc (pc' := 75) rfl rfl rfl ?_
        refine er_gf (pc' := 78) (_) rfl rfl rfl rfl rfl ?_
        refine er_gf (pc' := 81) (_) rfl rfl rfl rfl rfl ?_
        refine er_loc (pc' := 82) rfl rfl rfl ?_
        refine er_loc (pc' := 83) rfl rfl rfl ?_
        refine er_isX (pc' := 84) (k) rfl rfl (fun _ => rfl) rfl hk8 rfl rfl ?_
        refine er_goto rfl ?_
        refine er_loc (pc' := 152) rfl rfl rfl ?_
        refine er_iret rfl rfl ?_
        rw [if_pos h21]
        first | rw [if_pos h31] | (rw [if_neg h31]; first | rw [if_pos h60] | rw [if_neg h60, if_pos (by rw [jx06]; exact h95)])
        refine RI_of ?_ ?_
        · first | rw [jx3 hk8] | rw [jx4 hk8] | (rw [jx07]; first | exact bI_eq1 h112 | exact bI_eq0 h112)
        · first | rfl | simp [*]
    · refine er_loc (pc' := 35) rfl rfl rfl ?_
      refine er_gf (pc' := 38) (_) rfl rfl rfl rfl rfl ?_
      refine er_gf (pc' := 41) (_) rfl rfl rfl rfl rfl ?_
      refine er_loc (pc' := 42) rfl rfl rfl ?_
      refine er_ia (pc' := 43) (k) rfl rfl rfl rfl (by omega) rfl rfl ?_
      refine er_loc (pc' := 45) (L' := [(4, _), (0, _), (1, _), (2, _), (3, _)]) rfl rfl rfl ?_
      refine er_loc (pc' := 46) rfl rfl rfl ?_
      refine er_gf (pc' := 49) (_) rfl rfl rfl rfl rfl ?_
      refine er_gf (pc' := 52) (_) rfl rfl rfl rfl rfl ?_
      refine er_loc (pc' := 53) rfl rfl rfl ?_
      refine er_loc (pc' := 54) rfl rfl rfl ?_
      refine er_isX (pc' := 55) (k) rfl rfl (fun _ => rfl) rfl hk8 rfl rfl ?_
      refine er_goto rfl ?_
      refine er_loc (pc' := 152) rfl rfl rfl ?_
      refine er_iret rfl rfl ?_
      rw [if_pos h21]
      first | rw [if_pos h31] | (rw [if_neg h31]; first | rw [if_pos h60] | rw [if_neg h60, if_pos (by rw [jx06]; exact h95)])
      refine RI_of ?_ ?_
      · first | rw [jx3 hk8] | rw [jx4 hk8] | (rw [jx07]; first | exact bI_eq1 h112 | exact bI_eq0 h112)
      · first | rfl | simp [*]
  · refine er_loc (pc' := 25) rfl rfl rfl ?_
    refine er_k (pc' := 26) (nI 1) rfl rfl rfl ?_
    refine er_cIz (pc' := 29) (rest := []) 11 rfl rfl rfl rfl rfl rfl (l_error _ _ _ 1 (by decide)) ?_
    intro Z9
    refine er_iret rfl rfl ?_
    rw [if_neg (by rw [h21]; decide)]
    exact RI_of rfl rfl
set_option maxRecDepth 100000 in
set_option maxHeartbeats 4000000 in
theorem l_set (d : Nat) (X Z : Nat → Nat → Int32) {T : Nat} (hI : IJ T (jx X 9)) (w v : Int32) : EC (d + 3) 83 [.ref 0, .int w, .int v] (Wd X Z) (fun r => if w = 0 ∧ sIn v (nI 1) (nI 2) = true then RI (X 9 8) (ud X 9 8 v) r else if w = nI 1 ∧ sIn v (nI 0) (nI 999) = true then RI (X 9 9) (ud X 9 9 v) r else if w = nI 2 ∧ sIn v (nI 0) 99999 = true then RI (X 9 10) (ud X 9 10 v) r else RI (sErr 1) (xErr X 1) r) := by
  refine er_enter (L := [(0, _), (1, _), (2, _)]) rfl rfl rfl ?_
  refine er_loc (pc' := 1) rfl rfl rfl ?_
  refine er_if_ne (pc' := 4) rfl rfl (fun h1 => ?_) (fun h1 => ?_)
  · refine er_loc (pc' := 33) rfl rfl rfl ?_
    refine er_k (pc' := 34) (nI 1) rfl rfl rfl ?_
    refine er_cm_ne (pc' := 37) rfl rfl (fun h34 => ?_) (fun h34 => ?_)
    · refine er_loc (pc' := 68) rfl rfl rfl ?_
      refine er_k (pc' := 69) (nI 2) rfl rfl rfl ?_
      refine er_cm_ne (pc' := 72) rfl rfl (fun h69 => ?_) (fun h69 => ?_)
      · refine er_loc (pc' := 102) rfl rfl rfl ?_
        refine er_k (pc' := 103) (nI 1) rfl rfl rfl ?_
        refine er_cIz (pc' := 106) (rest := []) 11 rfl rfl rfl rfl rfl rfl (l_error _ _ _ 1 (by decide)) ?_
        intro Z9
        refine er_iret rfl rfl ?_
        (repeat' split) <;> first | exact RI_of rfl rfl | (exfalso; simp_all; done)
      · refine er_loc (pc' := 73) rfl rfl rfl ?_
        refine er_k (pc' := 74) (nI 0) rfl rfl rfl ?_
        refine er_ldc (pc' := 76) (99999) rfl rfl rfl rfl rfl ?_
        refine er_cSi (pc' := 79) (rest := []) rfl rfl rfl (l_within _ _ _ _ _) ?_
        refine er_if_eqb (pc' := 82) rfl rfl (fun h79 => ?_) (fun h79 => ?_)
        · refine er_loc (pc' := 102) rfl rfl rfl ?_
          refine er_k (pc' := 103) (nI 1) rfl rfl rfl ?_
          refine er_cIz (pc' := 106) (rest := []) 11 rfl rfl rfl rfl rfl rfl (l_error _ _ _ 1 (by decide)) ?_
          intro Z9
          refine er_iret rfl rfl ?_
          (repeat' split) <;> first | exact RI_of rfl rfl | (exfalso; simp_all; done)
        · refine er_loc (pc' := 83) rfl rfl rfl ?_
          refine er_gf (pc' := 86) (_) rfl rfl rfl rfl rfl ?_
          refine er_gf (pc' := 89) (_) rfl rfl rfl rfl rfl ?_
          refine er_loc (pc' := 90) (L' := [(3, _), (0, _), (1, _), (2, _)]) rfl rfl rfl ?_
          refine er_loc (pc' := 91) rfl rfl rfl ?_
          refine er_gf (pc' := 94) (_) rfl rfl rfl rfl rfl ?_
          refine er_loc (pc' := 95) rfl rfl rfl ?_
          refine er_pfIX (pc' := 98) 10 rfl rfl rfl rfl rfl rfl ?_
          refine er_goto rfl ?_
          refine er_loc (pc' := 108) rfl rfl rfl ?_
          refine er_iret rfl rfl ?_
          (repeat' split) <;> first | exact RI_of rfl rfl | (exfalso; simp_all; done)
    · refine er_loc (pc' := 38) rfl rfl rfl ?_
      refine er_k (pc' := 39) (nI 0) rfl rfl rfl ?_
      refine er_k (pc' := 42) (nI 999) rfl rfl rfl ?_
      refine er_cSi (pc' := 45) (rest := []) rfl rfl rfl (l_within _ _ _ _ _) ?_
      refine er_if_eqb (pc' := 48) rfl rfl (fun h45 => ?_) (fun h45 => ?_)
      · refine er_loc (pc' := 68) rfl rfl rfl ?_
        refine er_k (pc' := 69) (nI 2) rfl rfl rfl ?_
        refine er_cm_ne (pc' := 72) rfl rfl (fun h69 => ?_) (fun h69 => ?_)
        · refine er_loc (pc' := 102) rfl rfl rfl ?_
          refine er_k (pc' := 103) (nI 1) rfl rfl rfl ?_
          refine er_cIz (pc' := 106) (rest := []) 11 rfl rfl rfl rfl rfl rfl (l_error _ _ _ 1 (by decide)) ?_
          intro Z9
          refine er_iret rfl rfl ?_
          (repeat' split) <;> first | exact RI_of rfl rfl | (exfalso; simp_all; done)
        · refine er_loc (pc' := 73) rfl rfl rfl ?_
          refine er_k (pc' := 74) (nI 0) rfl rfl rfl ?_
          refine er_ldc (pc' := 76) (99999) rfl rfl rfl rfl rfl ?_
          refine er_cSi (pc' := 79) (rest := []) rfl rfl rfl (l_within _ _ _ _ _) ?_
          refine er_if_eqb (pc' := 82) rfl rfl (fun h79 => ?_) (fun h79 => ?_)
          · refine er_loc (pc' := 102) rfl rfl rfl ?_
            refine er_k (pc' := 103) (nI 1) rfl rfl rfl ?_
            refine er_cIz (pc' := 106) (rest := []) 11 rfl rfl rfl rfl rfl rfl (l_error _ _ _ 1 (by decide)) ?_
            intro Z9
            refine er_iret rfl rfl ?_
            (repeat' split) <;> first | exact RI_of rfl rfl | (exfalso; simp_all; done)
          · refine er_loc (pc' := 83) rfl rfl rfl ?_
            refine er_gf (pc' := 86) (_) rfl rfl rfl rfl rfl ?_
            refine er_gf (pc' := 89) (_) rfl rfl rfl rfl rfl ?_
            refine er_loc (pc' := 90) (L' := [(3, _), (0, _), (1, _), (2, _)]) rfl rfl rfl ?_
            refine er_loc (pc' := 91) rfl rfl rfl ?_
            refine er_gf (pc' := 94) (_) rfl rfl rfl rfl rfl ?_
            refine er_loc (pc' := 95) rfl rfl rfl ?_
            refine er_pfIX (pc' := 98) 10 rfl rfl rfl rfl rfl rfl ?_
            refine er_goto rfl ?_
            refine er_loc (pc' := 108) rfl rfl rfl ?_
            refine er_iret rfl rfl ?_
            (repeat' split) <;> first | exact RI_of rfl rfl | (exfalso; simp_all; done)
      · refine er_loc (pc' := 49) rfl rfl rfl ?_
        refine er_gf (pc' := 52) (_) rfl rfl rfl rfl rfl ?_
        refine er_gf (pc' := 55) (_) rfl rfl rfl rfl rfl ?_
        refine er_loc (pc' := 56) (L' := [(3, _), (0, _), (1, _), (2, _)]) rfl rfl rfl ?_
        refine er_loc (pc' := 57) rfl rfl rfl ?_
        refine er_gf (pc' := 60) (_) rfl rfl rfl rfl rfl ?_
        refine er_loc (pc' := 61) rfl rfl rfl ?_
        refine er_pfIX (pc' := 64) 9 rfl rfl rfl rfl rfl rfl ?_
        refine er_goto rfl ?_
        refine er_loc (pc' := 108) rfl rfl rfl ?_
        refine er_iret rfl rfl ?_
        (repeat' split) <;> first | exact RI_of rfl rfl | (exfalso; simp_all; done)
  · refine er_loc (pc' := 5) rfl rfl rfl ?_
    refine er_k (pc' := 6) (nI 1) rfl rfl rfl ?_
    refine er_k (pc' := 7) (nI 2) rfl rfl rfl ?_
    refine er_cSi (pc' := 10) (rest := []) rfl rfl rfl (l_within _ _ _ _ _) ?_
    refine er_if_eqb (pc' := 13) rfl rfl (fun h10 => ?_) (fun h10 => ?_)
    · refine er_loc (pc' := 33) rfl rfl rfl ?_
      refine er_k (pc' := 34) (nI 1) rfl rfl rfl ?_
      refine er_cm_ne (pc' := 37) rfl rfl (fun h34 => ?_) (fun h34 => ?_)
      · refine er_loc (pc' := 68) rfl rfl rfl ?_
        refine er_k (pc' := 69) (nI 2) rfl rfl rfl ?_
        refine er_cm_ne (pc' := 72) rfl rfl (fun h69 => ?_) (fun h69 => ?_)
        · refine er_loc (pc' := 102) rfl rfl rfl ?_
          refine er_k (pc' := 103) (nI 1) rfl rfl rfl ?_
          refine er_cIz (pc' := 106) (rest := []) 11 rfl rfl rfl rfl rfl rfl (l_error _ _ _ 1 (by decide)) ?_
          intro Z9
          refine er_iret rfl rfl ?_
          (repeat' split) <;> first | exact RI_of rfl rfl | (exfalso; simp_all; done)
        · refine er_loc (pc' := 73) rfl rfl rfl ?_
          refine er_k (pc' := 74) (nI 0) rfl rfl rfl ?_
          refine er_ldc (pc' := 76) (99999) rfl rfl rfl rfl rfl ?_
          refine er_cSi (pc' := 79) (rest := []) rfl rfl rfl (l_within _ _ _ _ _) ?_
          refine er_if_eqb (pc' := 82) rfl rfl (fun h79 => ?_) (fun h79 => ?_)
          · refine er_loc (pc' := 102) rfl rfl rfl ?_
            refine er_k (pc' := 103) (nI 1) rfl rfl rfl ?_
            refine er_cIz (pc' := 106) (rest := []) 11 rfl rfl rfl rfl rfl rfl (l_error _ _ _ 1 (by decide)) ?_
            intro Z9
            refine er_iret rfl rfl ?_
            (repeat' split) <;> first | exact RI_of rfl rfl | (exfalso; simp_all; done)
          · refine er_loc (pc' := 83) rfl rfl rfl ?_
            refine er_gf (pc' := 86) (_) rfl rfl rfl rfl rfl ?_
            refine er_gf (pc' := 89) (_) rfl rfl rfl rfl rfl ?_
            refine er_loc (pc' := 90) (L' := [(3, _), (0, _), (1, _), (2, _)]) rfl rfl rfl ?_
            refine er_loc (pc' := 91) rfl rfl rfl ?_
            refine er_gf (pc' := 94) (_) rfl rfl rfl rfl rfl ?_
            refine er_loc (pc' := 95) rfl rfl rfl ?_
            refine er_pfIX (pc' := 98) 10 rfl rfl rfl rfl rfl rfl ?_
            refine er_goto rfl ?_
            refine er_loc (pc' := 108) rfl rfl rfl ?_
            refine er_iret rfl rfl ?_
            (repeat' split) <;> first | exact RI_of rfl rfl | (exfalso; simp_all; done)
      · refine er_loc (pc' := 38) rfl rfl rfl ?_
        refine er_k (pc' := 39) (nI 0) rfl rfl rfl ?_
        refine er_k (pc' := 42) (nI 999) rfl rfl rfl ?_
        refine er_cSi (pc' := 45) (rest := []) rfl rfl rfl (l_within _ _ _ _ _) ?_
        refine er_if_eqb (pc' := 48) rfl rfl (fun h45 => ?_) (fun h45 => ?_)
        · refine er_loc (pc' := 68) rfl rfl rfl ?_
          refine er_k (pc' := 69) (nI 2) rfl rfl rfl ?_
          refine er_cm_ne (pc' := 72) rfl rfl (fun h69 => ?_) (fun h69 => ?_)
          · refine er_loc (pc' := 102) rfl rfl rfl ?_
            refine er_k (pc' := 103) (nI 1) rfl rfl rfl ?_
            refine er_cIz (pc' := 106) (rest := []) 11 rfl rfl rfl rfl rfl rfl (l_error _ _ _ 1 (by decide)) ?_
            intro Z9
            refine er_iret rfl rfl ?_
            (repeat' split) <;> first | exact RI_of rfl rfl | (exfalso; simp_all; done)
          · refine er_loc (pc' := 73) rfl rfl rfl ?_
            refine er_k (pc' := 74) (nI 0) rfl rfl rfl ?_
            refine er_ldc (pc' := 76) (99999) rfl rfl rfl rfl rfl ?_
            refine er_cSi (pc' := 79) (rest := []) rfl rfl rfl (l_within _ _ _ _ _) ?_
            refine er_if_eqb (pc' := 82) rfl rfl (fun h79 => ?_) (fun h79 => ?_)
            · refine er_loc (pc' := 102) rfl rfl rfl ?_
              refine er_k (pc' := 103) (nI 1) rfl rfl rfl ?_
              refine er_cIz (pc' := 106) (rest := []) 11 rfl rfl rfl rfl rfl rfl (l_error _ _ _ 1 (by decide)) ?_
              intro Z9
              refine er_iret rfl rfl ?_
              (repeat' split) <;> first | exact RI_of rfl rfl | (exfalso; simp_all; done)
            · refine er_loc (pc' := 83) rfl rfl rfl ?_
              refine er_gf (pc' := 86) (_) rfl rfl rfl rfl rfl ?_
              refine er_gf (pc' := 89) (_) rfl rfl rfl rfl rfl ?_
              refine er_loc (pc' := 90) (L' := [(3, _), (0, _), (1, _), (2, _)]) rfl rfl rfl ?_
              refine er_loc (pc' := 91) rfl rfl rfl ?_
              refine er_gf (pc' := 94) (_) rfl rfl rfl rfl rfl ?_
              refine er_loc (pc' := 95) rfl rfl rfl ?_
              refine er_pfIX (pc' := 98) 10 rfl rfl rfl rfl rfl rfl ?_
              refine er_goto rfl ?_
              refine er_loc (pc' := 108) rfl rfl rfl ?_
              refine er_iret rfl rfl ?_
              (repeat' split) <;> first | exact RI_of rfl rfl | (exfalso; simp_all; done)
        · refine er_loc (pc' := 49) rfl rfl rfl ?_
          refine er_gf (pc' := 52) (_) rfl rfl rfl rfl rfl ?_
          refine er_gf (pc' := 55) (_) rfl rfl rfl rfl rfl ?_
          refine er_loc (pc' := 56) (L' := [(3, _), (0, _), (1, _), (2, _)]) rfl rfl rfl ?_
          refine er_loc (pc' := 57) rfl rfl rfl ?_
          refine er_gf (pc' := 60) (_) rfl rfl rfl rfl rfl ?_
          refine er_loc (pc' := 61) rfl rfl rfl ?_
          refine er_pfIX (pc' := 64) 9 rfl rfl rfl rfl rfl rfl ?_
          refine er_goto rfl ?_
          refine er_loc (pc' := 108) rfl rfl rfl ?_
          refine er_iret rfl rfl ?_
          (repeat' split) <;> first | exact RI_of rfl rfl | (exfalso; simp_all; done)
    · refine er_loc (pc' := 14) rfl rfl rfl ?_
      refine er_gf (pc' := 17) (_) rfl rfl rfl rfl rfl ?_
      refine er_gf (pc' := 20) (_) rfl rfl rfl rfl rfl ?_
      refine er_loc (pc' := 21) (L' := [(3, _), (0, _), (1, _), (2, _)]) rfl rfl rfl ?_
      refine er_loc (pc' := 22) rfl rfl rfl ?_
      refine er_gf (pc' := 25) (_) rfl rfl rfl rfl rfl ?_
      refine er_loc (pc' := 26) rfl rfl rfl ?_
      refine er_pfIX (pc' := 29) 8 rfl rfl rfl rfl rfl rfl ?_
      refine er_goto rfl ?_
      refine er_loc (pc' := 108) rfl rfl rfl ?_
      refine er_iret rfl rfl ?_
      (repeat' split) <;> first | exact RI_of rfl rfl | (exfalso; simp_all; done)
set_option maxRecDepth 100000 in
set_option maxHeartbeats 4000000 in
theorem l_become_no (d : Nat) (X Z : Nat → Nat → Int32) (s km : Int32) (hs : xHas X s = false) : EC (d + 3) 84 [.ref 0, .int s, .int km] (Wd X Z) (RI (sErr 1) (xErr X 1)) := by
  refine er_enter (L := [(0, _), (1, _), (2, _)]) rfl rfl rfl ?_
  refine er_loc (pc' := 1) rfl rfl rfl ?_
  refine er_gf (pc' := 4) (_) rfl rfl rfl rfl rfl ?_
  refine er_loc (pc' := 5) rfl rfl rfl ?_
  refine er_cIi (pc' := 8) (rest := []) 7 rfl rfl rfl rfl rfl rfl (l_has_no _ _ _ j9 _ hs) ?_
  refine er_if_eqT rfl (by decide +kernel) ?_
  refine er_loc (pc' := 22) rfl rfl rfl ?_
  refine er_k (pc' := 23) (nI 1) rfl rfl rfl ?_
  refine er_cIz (pc' := 26) (rest := []) 11 rfl rfl rfl rfl rfl rfl (l_error _ _ _ 1 (by decide)) ?_
  intro Z9
  refine er_iret rfl rfl ?_
  exact RI_of rfl rfl
set_option maxRecDepth 100000 in
set_option maxHeartbeats 4000000 in
theorem l_become (d : Nat) (X Z : Nat → Nat → Int32) {T : Nat} (hI : IJ T (jx X 9)) {k : Nat} (hk : k < jn (jx X 9)) (km : Int32) : EC (d + 3) 84 [.ref 0, .int (nI k), .int km] (Wd X Z) (fun r => if sIn km (nI 0) (nI 69) = true then RI (jx X 9 1 k) (ud (ud X (9 + 1) k (km / nI 10)) (9 + 2) k (km - km / nI 10 * nI 10)) r else RI (sErr 1) (xErr X 1) r) := by
  refine er_enter (L := [(0, _), (1, _), (2, _)]) rfl rfl rfl ?_
  have h8 := jn8 hI
  have hk8 : k < 8 := by omega
  refine er_loc (pc' := 1) rfl rfl rfl ?_
  refine er_gf (pc' := 4) (_) rfl rfl rfl rfl rfl ?_
  refine er_loc (pc' := 5) rfl rfl rfl ?_
  refine er_cIi (pc' := 8) (rest := []) 7 rfl rfl rfl rfl rfl rfl (l_has_t _ j9 _ _ hI hk) ?_
  refine er_if_eqF (pc' := 11) rfl (by decide +kernel) rfl ?_
  refine er_loc (pc' := 12) rfl rfl rfl ?_
  refine er_k (pc' := 13) (nI 0) rfl rfl rfl ?_
  refine er_k (pc' := 15) (nI 69) rfl rfl rfl ?_
  refine er_cSi (pc' := 18) (rest := []) rfl rfl rfl (l_within _ _ _ _ _) ?_
  refine er_if_neb (pc' := 21) rfl rfl (fun h18 => ?_) (fun h18 => ?_)
  · refine er_loc (pc' := 28) rfl rfl rfl ?_
    refine er_gf (pc' := 31) (_) rfl rfl rfl rfl rfl ?_
    refine er_gf (pc' := 34) (_) rfl rfl rfl rfl rfl ?_
    refine er_loc (pc' := 35) rfl rfl rfl ?_
    refine er_ia (pc' := 36) (k) rfl rfl rfl rfl (by omega) rfl rfl ?_
    refine er_loc (pc' := 37) (L' := [(3, _), (0, _), (1, _), (2, _)]) rfl rfl rfl ?_
    refine er_loc (pc' := 38) rfl rfl rfl ?_
    refine er_gf (pc' := 41) (_) rfl rfl rfl rfl rfl ?_
    refine er_gf (pc' := 44) (_) rfl rfl rfl rfl rfl ?_
    refine er_loc (pc' := 45) rfl rfl rfl ?_
    refine er_loc (pc' := 46) rfl rfl rfl ?_
    refine er_k (pc' := 48) (nI 10) rfl rfl rfl ?_
    refine er_idiv (pc' := 49) rfl rfl (by decide) ?_
    refine er_isX (pc' := 50) (k) rfl rfl (fun _ => rfl) rfl hk8 rfl rfl ?_
    refine er_loc (pc' := 51) rfl rfl rfl ?_
    refine er_gf (pc' := 54) (_) rfl rfl rfl rfl rfl ?_
    refine er_gf (pc' := 57) (_) rfl rfl rfl rfl rfl ?_
    refine er_loc (pc' := 58) rfl rfl rfl ?_
    refine er_loc (pc' := 59) rfl rfl rfl ?_
    refine er_k (pc' := 61) (nI 10) rfl rfl rfl ?_
    refine er_irem (pc' := 62) rfl rfl (by decide) ?_
    refine er_isX (pc' := 63) (k) rfl rfl (fun _ => rfl) rfl hk8 rfl rfl ?_
    refine er_loc (pc' := 64) rfl rfl rfl ?_
    refine er_iret rfl rfl ?_
    rw [if_pos h18]
    exact RI_of (jx1 hk8).symm rfl
  · refine er_loc (pc' := 22) rfl rfl rfl ?_
    refine er_k (pc' := 23) (nI 1) rfl rfl rfl ?_
    refine er_cIz (pc' := 26) (rest := []) 11 rfl rfl rfl rfl rfl rfl (l_error _ _ _ 1 (by decide)) ?_
    intro Z9
    refine er_iret rfl rfl ?_
    rw [if_neg (by rw [h18]; decide)]
    exact RI_of rfl rfl
def abv (q : Nat) : Int32 := if q = 4 then 1 else if q = 5 then 2 else if q = 6 then 3 else 0
def sIsOf (q : Nat) (w : Int32) : Bool := decide (nI q = w) || (decide (abv q = w) || decide (w = 0))
set_option maxRecDepth 100000 in
set_option maxHeartbeats 4000000 in
theorem l_isOf (d : Nat) (q : Nat) (w : Int32) (hq : q < 7) (W : ab_W) : EC (d + 2) 86 [.int (nI q), .int w] W (PI (bI (sIsOf q w)) W) := by
  rcases lt7 hq with rfl | rfl | rfl | rfl | rfl | rfl | rfl
  · refine er_enter (L := [(0, _), (1, _)]) rfl rfl rfl ?_
    refine er_loc (pc' := 1) rfl rfl rfl ?_
    refine er_k (pc' := 2) (nI 0) rfl rfl rfl ?_
    refine er_heap (pc' := 5) (st' := [.ref 1000000, _, _]) rfl rfl rfl ?_
    refine er_heap (pc' := 6) (st' := [.int (nI 7), _, _]) rfl rfl rfl ?_
    refine er_k (pc' := 7) (nI 1) rfl rfl rfl ?_
    refine er_isub (pc' := 8) rfl rfl ?_
    refine er_cSi (pc' := 11) (rest := []) rfl rfl rfl (l_within _ _ _ _ _) ?_
    rw [show nI 7 - nI 1 = nI 6 from by decide +kernel, sIn_t (by omega) (by omega) (by omega)]
    refine er_if_neT rfl (by decide +kernel) ?_
    refine er_loc (pc' := 17) rfl rfl rfl ?_
    refine er_loc (pc' := 18) rfl rfl rfl ?_
    refine er_cm_eq (pc' := 21) rfl rfl (fun h18 => ?_) (fun h18 => ?_)
    · refine er_k (pc' := 35) (nI 1) rfl rfl rfl ?_
      refine er_goto rfl ?_
      refine er_ret _ rfl rfl ?_
      exact PI_of (bI_eq1 (by unfold sIsOf; simp only [*]; simp))
    · refine er_heap (pc' := 24) (st' := [.ref 1000000]) rfl rfl rfl ?_
      refine er_loc (pc' := 25) rfl rfl rfl ?_
      refine er_heap (st' := [.int (abv 0)]) rfl rfl rfl ?_
      refine er_loc (pc' := 27) rfl rfl rfl ?_
      refine er_cm_eq (pc' := 30) rfl rfl (fun h27 => ?_) (fun h27 => ?_)
      · refine er_k (pc' := 35) (nI 1) rfl rfl rfl ?_
        refine er_goto rfl ?_
        refine er_ret _ rfl rfl ?_
        exact PI_of (bI_eq1 (by unfold sIsOf; simp only [*]; simp))
      · refine er_loc (pc' := 31) rfl rfl rfl ?_
        refine er_if_ne (pc' := 34) rfl rfl (fun h31 => ?_) (fun h31 => ?_)
        · refine er_k (pc' := 39) (nI 0) rfl rfl rfl ?_
          refine er_ret _ rfl rfl ?_
          exact PI_of (bI_eq0 (by unfold sIsOf; simp only [*]; simp))
        · refine er_k (pc' := 35) (nI 1) rfl rfl rfl ?_
          refine er_goto rfl ?_
          refine er_ret _ rfl rfl ?_
          exact PI_of (bI_eq1 (by unfold sIsOf; simp only [*]; simp))
  · refine er_enter (L := [(0, _), (1, _)]) rfl rfl rfl ?_
    refine er_loc (pc' := 1) rfl rfl rfl ?_
    refine er_k (pc' := 2) (nI 0) rfl rfl rfl ?_
    refine er_heap (pc' := 5) (st' := [.ref 1000000, _, _]) rfl rfl rfl ?_
    refine er_heap (pc' := 6) (st' := [.int (nI 7), _, _]) rfl rfl rfl ?_
    refine er_k (pc' := 7) (nI 1) rfl rfl rfl ?_
    refine er_isub (pc' := 8) rfl rfl ?_
    refine er_cSi (pc' := 11) (rest := []) rfl rfl rfl (l_within _ _ _ _ _) ?_
    rw [show nI 7 - nI 1 = nI 6 from by decide +kernel, sIn_t (by omega) (by omega) (by omega)]
    refine er_if_neT rfl (by decide +kernel) ?_
    refine er_loc (pc' := 17) rfl rfl rfl ?_
    refine er_loc (pc' := 18) rfl rfl rfl ?_
    refine er_cm_eq (pc' := 21) rfl rfl (fun h18 => ?_) (fun h18 => ?_)
    · refine er_k (pc' := 35) (nI 1) rfl rfl rfl ?_
      refine er_goto rfl ?_
      refine er_ret _ rfl rfl ?_
      exact PI_of (bI_eq1 (by unfold sIsOf; simp only [*]; simp))
    · refine er_heap (pc' := 24) (st' := [.ref 1000000]) rfl rfl rfl ?_
      refine er_loc (pc' := 25) rfl rfl rfl ?_
      refine er_heap (st' := [.int (abv 1)]) rfl rfl rfl ?_
      refine er_loc (pc' := 27) rfl rfl rfl ?_
      refine er_cm_eq (pc' := 30) rfl rfl (fun h27 => ?_) (fun h27 => ?_)
      · refine er_k (pc' := 35) (nI 1) rfl rfl rfl ?_
        refine er_goto rfl ?_
        refine er_ret _ rfl rfl ?_
        exact PI_of (bI_eq1 (by unfold sIsOf; simp only [*]; simp))
      · refine er_loc (pc' := 31) rfl rfl rfl ?_
        refine er_if_ne (pc' := 34) rfl rfl (fun h31 => ?_) (fun h31 => ?_)
        · refine er_k (pc' := 39) (nI 0) rfl rfl rfl ?_
          refine er_ret _ rfl rfl ?_
          exact PI_of (bI_eq0 (by unfold sIsOf; simp only [*]; simp))
        · refine er_k (pc' := 35) (nI 1) rfl rfl rfl ?_
          refine er_goto rfl ?_
          refine er_ret _ rfl rfl ?_
          exact PI_of (bI_eq1 (by unfold sIsOf; simp only [*]; simp))
  · refine er_enter (L := [(0, _), (1, _)]) rfl rfl rfl ?_
    refine er_loc (pc' := 1) rfl rfl rfl ?_
    refine er_k (pc' := 2) (nI 0) rfl rfl rfl ?_
    refine er_heap (pc' := 5) (st' := [.ref 1000000, _, _]) rfl rfl rfl ?_
    refine er_heap (pc' := 6) (st' := [.int (nI 7), _, _]) rfl rfl rfl ?_
    refine er_k (pc' := 7) (nI 1) rfl rfl rfl ?_
    refine er_isub (pc' := 8) rfl rfl ?_
    refine er_cSi (pc' := 11) (rest := []) rfl rfl rfl (l_within _ _ _ _ _) ?_
    rw [show nI 7 - nI 1 = nI 6 from by decide +kernel, sIn_t (by omega) (by omega) (by omega)]
    refine er_if_neT rfl (by decide +kernel) ?_
    refine er_loc (pc' := 17) rfl rfl rfl ?_
    refine er_loc (pc' := 18) rfl rfl rfl ?_
    refine er_cm_eq (pc' := 21) rfl rfl (fun h18 => ?_) (fun h18 => ?_)
    · refine er_k (pc' := 35) (nI 1) rfl rfl rfl ?_
      refine er_goto rfl ?_
      refine er_ret _ rfl rfl ?_
      exact PI_of (bI_eq1 (by unfold sIsOf; simp only [*]; simp))
    · refine er_heap (pc' := 24) (st' := [.ref 1000000]) rfl rfl rfl ?_
      refine er_loc (pc' := 25) rfl rfl rfl ?_
      refine er_heap (st' := [.int (abv 2)]) rfl rfl rfl ?_
      refine er_loc (pc' := 27) rfl rfl rfl ?_
      refine er_cm_eq (pc' := 30) rfl rfl (fun h27 => ?_) (fun h27 => ?_)
      · refine er_k (pc' := 35) (nI 1) rfl rfl rfl ?_
        refine er_goto rfl ?_
        refine er_ret _ rfl rfl ?_
        exact PI_of (bI_eq1 (by unfold sIsOf; simp only [*]; simp))
      · refine er_loc (pc' := 31) rfl rfl rfl ?_
        refine er_if_ne (pc' := 34) rfl rfl (fun h31 => ?_) (fun h31 => ?_)
        · refine er_k (pc' := 39) (nI 0) rfl rfl rfl ?_
          refine er_ret _ rfl rfl ?_
          exact PI_of (bI_eq0 (by unfold sIsOf; simp only [*]; simp))
        · refine er_k (pc' := 35) (nI 1) rfl rfl rfl ?_
          refine er_goto rfl ?_
          refine er_ret _ rfl rfl ?_
          exact PI_of (bI_eq1 (by unfold sIsOf; simp only [*]; simp))
  · refine er_enter (L := [(0, _), (1, _)]) rfl rfl rfl ?_
    refine er_loc (pc' := 1) rfl rfl rfl ?_
    refine er_k (pc' := 2) (nI 0) rfl rfl rfl ?_
    refine er_heap (pc' := 5) (st' := [.ref 1000000, _, _]) rfl rfl rfl ?_
    refine er_heap (pc' := 6) (st' := [.int (nI 7), _, _]) rfl rfl rfl ?_
    refine er_k (pc' := 7) (nI 1) rfl rfl rfl ?_
    refine er_isub (pc' := 8) rfl rfl ?_
    refine er_cSi (pc' := 11) (rest := []) rfl rfl rfl (l_within _ _ _ _ _) ?_
    rw [show nI 7 - nI 1 = nI 6 from by decide +kernel, sIn_t (by omega) (by omega) (by omega)]
    refine er_if_neT rfl (by decide +kernel) ?_
    refine er_loc (pc' := 17) rfl rfl rfl ?_
    refine er_loc (pc' := 18) rfl rfl rfl ?_
    refine er_cm_eq (pc' := 21) rfl rfl (fun h18 => ?_) (fun h18 => ?_)
    · refine er_k (pc' := 35) (nI 1) rfl rfl rfl ?_
      refine er_goto rfl ?_
      refine er_ret _ rfl rfl ?_
      exact PI_of (bI_eq1 (by unfold sIsOf; simp only [*]; simp))
    · refine er_heap (pc' := 24) (st' := [.ref 1000000]) rfl rfl rfl ?_
      refine er_loc (pc' := 25) rfl rfl rfl ?_
      refine er_heap (st' := [.int (abv 3)]) rfl rfl rfl ?_
      refine er_loc (pc' := 27) rfl rfl rfl ?_
      refine er_cm_eq (pc' := 30) rfl rfl (fun h27 => ?_) (fun h27 => ?_)
      · refine er_k (pc' := 35) (nI 1) rfl rfl rfl ?_
        refine er_goto rfl ?_
        refine er_ret _ rfl rfl ?_
        exact PI_of (bI_eq1 (by unfold sIsOf; simp only [*]; simp))
      · refine er_loc (pc' := 31) rfl rfl rfl ?_
        refine er_if_ne (pc' := 34) rfl rfl (fun h31 => ?_) (fun h31 => ?_)
        · refine er_k (pc' := 39) (nI 0) rfl rfl rfl ?_
          refine er_ret _ rfl rfl ?_
          exact PI_of (bI_eq0 (by unfold sIsOf; simp only [*]; simp))
        · refine er_k (pc' := 35) (nI 1) rfl rfl rfl ?_
          refine er_goto rfl ?_
          refine er_ret _ rfl rfl ?_
          exact PI_of (bI_eq1 (by unfold sIsOf; simp only [*]; simp))
  · refine er_enter (L := [(0, _), (1, _)]) rfl rfl rfl ?_
    refine er_loc (pc' := 1) rfl rfl rfl ?_
    refine er_k (pc' := 2) (nI 0) rfl rfl rfl ?_
    refine er_heap (pc' := 5) (st' := [.ref 1000000, _, _]) rfl rfl rfl ?_
    refine er_heap (pc' := 6) (st' := [.int (nI 7), _, _]) rfl rfl rfl ?_
    refine er_k (pc' := 7) (nI 1) rfl rfl rfl ?_
    refine er_isub (pc' := 8) rfl rfl ?_
    refine er_cSi (pc' := 11) (rest := []) rfl rfl rfl (l_within _ _ _ _ _) ?_
    rw [show nI 7 - nI 1 = nI 6 from by decide +kernel, sIn_t (by omega) (by omega) (by omega)]
    refine er_if_neT rfl (by decide +kernel) ?_
    refine er_loc (pc' := 17) rfl rfl rfl ?_
    refine er_loc (pc' := 18) rfl rfl rfl ?_
    refine er_cm_eq (pc' := 21) rfl rfl (fun h18 => ?_) (fun h18 => ?_)
    · refine er_k (pc' := 35) (nI 1) rfl rfl rfl ?_
      refine er_goto rfl ?_
      refine er_ret _ rfl rfl ?_
      exact PI_of (bI_eq1 (by unfold sIsOf; simp only [*]; simp))
    · refine er_heap (pc' := 24) (st' := [.ref 1000000]) rfl rfl rfl ?_
      refine er_loc (pc' := 25) rfl rfl rfl ?_
      refine er_heap (st' := [.int (abv 4)]) rfl rfl rfl ?_
      refine er_loc (pc' := 27) rfl rfl rfl ?_
      refine er_cm_eq (pc' := 30) rfl rfl (fun h27 => ?_) (fun h27 => ?_)
      · refine er_k (pc' := 35) (nI 1) rfl rfl rfl ?_
        refine er_goto rfl ?_
        refine er_ret _ rfl rfl ?_
        exact PI_of (bI_eq1 (by unfold sIsOf; simp only [*]; simp))
      · refine er_loc (pc' := 31) rfl rfl rfl ?_
        refine er_if_ne (pc' := 34) rfl rfl (fun h31 => ?_) (fun h31 => ?_)
        · refine er_k (pc' := 39) (nI 0) rfl rfl rfl ?_
          refine er_ret _ rfl rfl ?_
          exact PI_of (bI_eq0 (by unfold sIsOf; simp only [*]; simp))
        · refine er_k (pc' := 35) (nI 1) rfl rfl rfl ?_
          refine er_goto rfl ?_
          refine er_ret _ rfl rfl ?_
          exact PI_of (bI_eq1 (by unfold sIsOf; simp only [*]; simp))
  · refine er_enter (L := [(0, _), (1, _)]) rfl rfl rfl ?_
    refine er_loc (pc' := 1) rfl rfl rfl ?_
    refine er_k (pc' := 2) (nI 0) rfl rfl rfl ?_
    refine er_heap (pc' := 5) (st' := [.ref 1000000, _, _]) rfl rfl rfl ?_
    refine er_heap (pc' := 6) (st' := [.int (nI 7), _, _]) rfl rfl rfl ?_
    refine er_k (pc' := 7) (nI 1) rfl rfl rfl ?_
    refine er_isub (pc' := 8) rfl rfl ?_
    refine er_cSi (pc' := 11) (rest := []) rfl rfl rfl (l_within _ _ _ _ _) ?_
    rw [show nI 7 - nI 1 = nI 6 from by decide +kernel, sIn_t (by omega) (by omega) (by omega)]
    refine er_if_neT rfl (by decide +kernel) ?_
    refine er_loc (pc' := 17) rfl rfl rfl ?_
    refine er_loc (pc' := 18) rfl rfl rfl ?_
    refine er_cm_eq (pc' := 21) rfl rfl (fun h18 => ?_) (fun h18 => ?_)
    · refine er_k (pc' := 35) (nI 1) rfl rfl rfl ?_
      refine er_goto rfl ?_
      refine er_ret _ rfl rfl ?_
      exact PI_of (bI_eq1 (by unfold sIsOf; simp only [*]; simp))
    · refine er_heap (pc' := 24) (st' := [.ref 1000000]) rfl rfl rfl ?_
      refine er_loc (pc' := 25) rfl rfl rfl ?_
      refine er_heap (st' := [.int (abv 5)]) rfl rfl rfl ?_
      refine er_loc (pc' := 27) rfl rfl rfl ?_
      refine er_cm_eq (pc' := 30) rfl rfl (fun h27 => ?_) (fun h27 => ?_)
      · refine er_k (pc' := 35) (nI 1) rfl rfl rfl ?_
        refine er_goto rfl ?_
        refine er_ret _ rfl rfl ?_
        exact PI_of (bI_eq1 (by unfold sIsOf; simp only [*]; simp))
      · refine er_loc (pc' := 31) rfl rfl rfl ?_
        refine er_if_ne (pc' := 34) rfl rfl (fun h31 => ?_) (fun h31 => ?_)
        · refine er_k (pc' := 39) (nI 0) rfl rfl rfl ?_
          refine er_ret _ rfl rfl ?_
          exact PI_of (bI_eq0 (by unfold sIsOf; simp only [*]; simp))
        · refine er_k (pc' := 35) (nI 1) rfl rfl rfl ?_
          refine er_goto rfl ?_
          refine er_ret _ rfl rfl ?_
          exact PI_of (bI_eq1 (by unfold sIsOf; simp only [*]; simp))
  · refine er_enter (L := [(0, _), (1, _)]) rfl rfl rfl ?_
    refine er_loc (pc' := 1) rfl rfl rfl ?_
    refine er_k (pc' := 2) (nI 0) rfl rfl rfl ?_
    refine er_heap (pc' := 5) (st' := [.ref 1000000, _, _]) rfl rfl rfl ?_
    refine er_heap (pc' := 6) (st' := [.int (nI 7), _, _]) rfl rfl rfl ?_
    refine er_k (pc' := 7) (nI 1) rfl rfl rfl ?_
    refine er_isub (pc' := 8) rfl rfl ?_
    refine er_cSi (pc' := 11) (rest := []) rfl rfl rfl (l_within _ _ _ _ _) ?_
    rw [show nI 7 - nI 1 = nI 6 from by decide +kernel, sIn_t (by omega) (by omega) (by omega)]
    refine er_if_neT rfl (by decide +kernel) ?_
    refine er_loc (pc' := 17) rfl rfl rfl ?_
    refine er_loc (pc' := 18) rfl rfl rfl ?_
    refine er_cm_eq (pc' := 21) rfl rfl (fun h18 => ?_) (fun h18 => ?_)
    · refine er_k (pc' := 35) (nI 1) rfl rfl rfl ?_
      refine er_goto rfl ?_
      refine er_ret _ rfl rfl ?_
      exact PI_of (bI_eq1 (by unfold sIsOf; simp only [*]; simp))
    · refine er_heap (pc' := 24) (st' := [.ref 1000000]) rfl rfl rfl ?_
      refine er_loc (pc' := 25) rfl rfl rfl ?_
      refine er_heap (st' := [.int (abv 6)]) rfl rfl rfl ?_
      refine er_loc (pc' := 27) rfl rfl rfl ?_
      refine er_cm_eq (pc' := 30) rfl rfl (fun h27 => ?_) (fun h27 => ?_)
      · refine er_k (pc' := 35) (nI 1) rfl rfl rfl ?_
        refine er_goto rfl ?_
        refine er_ret _ rfl rfl ?_
        exact PI_of (bI_eq1 (by unfold sIsOf; simp only [*]; simp))
      · refine er_loc (pc' := 31) rfl rfl rfl ?_
        refine er_if_ne (pc' := 34) rfl rfl (fun h31 => ?_) (fun h31 => ?_)
        · refine er_k (pc' := 39) (nI 0) rfl rfl rfl ?_
          refine er_ret _ rfl rfl ?_
          exact PI_of (bI_eq0 (by unfold sIsOf; simp only [*]; simp))
        · refine er_k (pc' := 35) (nI 1) rfl rfl rfl ?_
          refine er_goto rfl ?_
          refine er_ret _ rfl rfl ?_
          exact PI_of (bI_eq1 (by unfold sIsOf; simp only [*]; simp))
set_option maxRecDepth 100000 in
set_option maxHeartbeats 4000000 in
theorem l_as_no (d : Nat) (X Z : Nat → Nat → Int32) (s w : Int32) (hs : xHas X s = false) : EC (d + 4) 85 [.ref 0, .int s, .int w] (Wd X Z) (RI (sErr 1) (xErr X 1)) := by
  refine er_enter (L := [(0, _), (1, _), (2, _)]) rfl rfl rfl ?_
  refine er_loc (pc' := 1) rfl rfl rfl ?_
  refine er_gf (pc' := 4) (_) rfl rfl rfl rfl rfl ?_
  refine er_loc (pc' := 5) rfl rfl rfl ?_
  refine er_cIi (pc' := 8) (rest := []) 7 rfl rfl rfl rfl rfl rfl (l_has_no _ _ _ j9 _ hs) ?_
  refine er_if_eqT rfl (by decide +kernel) ?_
  refine er_loc (pc' := 26) rfl rfl rfl ?_
  refine er_k (pc' := 27) (nI 1) rfl rfl rfl ?_
  refine er_cIz (pc' := 30) (rest := []) 11 rfl rfl rfl rfl rfl rfl (l_error _ _ _ 1 (by decide)) ?_
  intro Z9
  refine er_iret rfl rfl ?_
  exact RI_of rfl rfl
set_option maxRecDepth 100000 in
set_option maxHeartbeats 4000000 in
theorem l_as (d : Nat) (X Z : Nat → Nat → Int32) {T : Nat} (hI : IJ T (jx X 9)) {k : Nat} (hk : k < jn (jx X 9)) (w : Int32) : EC (d + 3) 85 [.ref 0, .int (nI k), .int w] (Wd X Z) (fun r => if sIn w (nI 0) (nI 6) = true then (if sIsOf (sKind (jx X 9) k) w = true then RI (jx X 9 2 k) X r else RI (sErr 5) (xErr X 5) r) else RI (sErr 1) (xErr X 1) r) := by
  refine er_enter (L := [(0, _), (1, _), (2, _)]) rfl rfl rfl ?_
  have h8 := jn8 hI
  have hk8 : k < 8 := by omega
  have hq := kind7 hI k
  refine er_loc (pc' := 1) rfl rfl rfl ?_
  refine er_gf (pc' := 4) (_) rfl rfl rfl rfl rfl ?_
  refine er_loc (pc' := 5) rfl rfl rfl ?_
  refine er_cIi (pc' := 8) (rest := []) 7 rfl rfl rfl rfl rfl rfl (l_has_t _ j9 _ _ hI hk) ?_
  refine er_if_eqF (pc' := 11) rfl (by decide +kernel) rfl ?_
  refine er_loc (pc' := 12) rfl rfl rfl ?_
  refine er_k (pc' := 13) (nI 0) rfl rfl rfl ?_
  refine er_heap (pc' := 16) (st' := [.ref 1000000, _, _]) rfl rfl rfl ?_
  refine er_heap (pc' := 17) (st' := [.int (nI 7), _, _]) rfl rfl rfl ?_
  refine er_k (pc' := 18) (nI 1) rfl rfl rfl ?_
  refine er_isub (pc' := 19) rfl rfl ?_
  refine er_cSi (pc' := 22) (rest := []) rfl rfl rfl (l_within _ _ _ _ _) ?_
  rw [show nI 7 - nI 1 = nI 6 from by decide +kernel]
  refine er_if_neb (pc' := 25) rfl rfl (fun h22 => ?_) (fun h22 => ?_)
  · refine er_loc (pc' := 32) rfl rfl rfl ?_
    refine er_gf (pc' := 35) (_) rfl rfl rfl rfl rfl ?_
    refine er_gf (pc' := 38) (_) rfl rfl rfl rfl rfl ?_
    refine er_loc (pc' := 39) rfl rfl rfl ?_
    refine er_ia (pc' := 40) (k) rfl rfl rfl rfl (by omega) rfl rfl ?_
    rw [show X 10 k = nI (sKind (jx X 9) k) from kindX (b := 9) hI hk8]
    refine er_loc (pc' := 41) rfl rfl rfl ?_
    refine er_cSi (pc' := 44) (rest := []) rfl rfl rfl (l_isOf _ _ _ hq _) ?_
    refine er_if_neb (pc' := 47) rfl rfl (fun h44 => ?_) (fun h44 => ?_)
    · refine er_loc (pc' := 54) rfl rfl rfl ?_
      refine er_gf (pc' := 57) (_) rfl rfl rfl rfl rfl ?_
      refine er_gf (pc' := 60) (_) rfl rfl rfl rfl rfl ?_
      refine er_loc (pc' := 61) rfl rfl rfl ?_
      refine er_ia (pc' := 62) (k) rfl rfl rfl rfl (by omega) rfl rfl ?_
      refine er_iret rfl rfl ?_
      rw [if_pos h22, if_pos h44]
      exact RI_of (jx2 hk8).symm rfl
    · refine er_loc (pc' := 48) rfl rfl rfl ?_
      refine er_k (pc' := 49) (nI 5) rfl rfl rfl ?_
      refine er_cIz (pc' := 52) (rest := []) 11 rfl rfl rfl rfl rfl rfl (l_error _ _ _ 5 (by decide)) ?_
      intro Z9
      refine er_iret rfl rfl ?_
      rw [if_pos h22, if_neg (by rw [h44]; decide)]
      exact RI_of rfl rfl
  · refine er_loc (pc' := 26) rfl rfl rfl ?_
    refine er_k (pc' := 27) (nI 1) rfl rfl rfl ?_
    refine er_cIz (pc' := 30) (rest := []) 11 rfl rfl rfl rfl rfl rfl (l_error _ _ _ 1 (by decide)) ?_
    intro Z9
    refine er_iret rfl rfl ?_
    rw [if_neg (by rw [h22]; decide)]
    exact RI_of rfl rfl
set_option maxRecDepth 100000 in
set_option maxHeartbeats 4000000 in
theorem l_law (d : Nat) (X Z : Nat → Nat → Int32) {T : Nat} (hI : IJ T (jx X 9)) (u p q r0 : Int32) : EC (d + 4) 90 [.ref 0, .int u, .int p, .int q, .int r0] (Wd X Z) (fun r => if sUse u = true then (if u = 0 then RI (sLastsBy (jx X 9) p q r0) X r else RI (sErrsBy (jx X 9) p q r0) X r) else RI (sErr 1) (xErr X 1) r) := by
  refine er_enter (L := [(0, _), (1, _), (2, _), (3, _), (4, _)]) rfl rfl rfl ?_
  refine er_loc (pc' := 1) rfl rfl rfl ?_
  refine er_cSi (pc' := 4) (rest := []) rfl rfl rfl (l_isUse _ _ _) ?_
  refine er_if_neb (pc' := 7) rfl rfl (fun h4 => ?_) (fun h4 => ?_)
  · refine er_loc (pc' := 14) rfl rfl rfl ?_
    refine er_if_ne (pc' := 17) rfl rfl (fun h14 => ?_) (fun h14 => ?_)
    · refine er_loc (pc' := 32) rfl rfl rfl ?_
      refine er_gf (pc' := 35) (_) rfl rfl rfl rfl rfl ?_
      refine er_loc (pc' := 36) rfl rfl rfl ?_
      refine er_loc (pc' := 37) rfl rfl rfl ?_
      refine er_loc (pc' := 39) rfl rfl rfl ?_
      refine er_cIz (pc' := 42) (rest := []) 7 rfl rfl rfl rfl rfl rfl (l_errsBy _ j9 _ _ hI _ _ _) ?_
      intro Z1
      refine er_iret rfl rfl ?_
      rw [if_pos h4]
      first | rw [if_pos h14] | rw [if_neg h14]
      exact RI_of rfl rfl
    · refine er_loc (pc' := 18) rfl rfl rfl ?_
      refine er_gf (pc' := 21) (_) rfl rfl rfl rfl rfl ?_
      refine er_loc (pc' := 22) rfl rfl rfl ?_
      refine er_loc (pc' := 23) rfl rfl rfl ?_
      refine er_loc (pc' := 25) rfl rfl rfl ?_
      refine er_cIz (pc' := 28) (rest := []) 7 rfl rfl rfl rfl rfl rfl (l_lastsBy _ j9 _ _ hI _ _ _) ?_
      intro Z1
      refine er_goto rfl ?_
      refine er_iret rfl rfl ?_
      rw [if_pos h4]
      first | rw [if_pos h14] | rw [if_neg h14]
      exact RI_of rfl rfl
  · refine er_loc (pc' := 8) rfl rfl rfl ?_
    refine er_k (pc' := 9) (nI 1) rfl rfl rfl ?_
    refine er_cIz (pc' := 12) (rest := []) 11 rfl rfl rfl rfl rfl rfl (l_error _ _ _ 1 (by decide)) ?_
    intro Z9
    refine er_iret rfl rfl ?_
    rw [if_neg (by rw [h4]; decide)]
    exact RI_of rfl rfl
set_option maxRecDepth 100000 in
set_option maxHeartbeats 4000000 in
theorem l_does_no (d : Nat) (X Z : Nat → Nat → Int32) (s : Int32) (hs : xHas X s = false) : EC (d + 3) 91 [.ref 0, .int s] (Wd X Z) (RI (sErr 1) (xErr X 1)) := by
  refine er_enter (L := [(0, _), (1, _)]) rfl rfl rfl ?_
  refine er_loc (pc' := 1) rfl rfl rfl ?_
  refine er_gf (pc' := 4) (_) rfl rfl rfl rfl rfl ?_
  refine er_loc (pc' := 5) rfl rfl rfl ?_
  refine er_cIi (pc' := 8) (rest := []) 7 rfl rfl rfl rfl rfl rfl (l_has_no _ _ _ j9 _ hs) ?_
  refine er_if_neF (pc' := 11) rfl (by decide +kernel) rfl ?_
  refine er_loc (pc' := 12) rfl rfl rfl ?_
  refine er_k (pc' := 13) (nI 1) rfl rfl rfl ?_
  refine er_cIz (pc' := 16) (rest := []) 11 rfl rfl rfl rfl rfl rfl (l_error _ _ _ 1 (by decide)) ?_
  intro Z9
  refine er_iret rfl rfl ?_
  exact RI_of rfl rfl
set_option maxRecDepth 100000 in
set_option maxHeartbeats 4000000 in
theorem l_undo_no (d : Nat) (X Z : Nat → Nat → Int32) (s : Int32) (hs : xHas X s = false) : EC (d + 3) 92 [.ref 0, .int s] (Wd X Z) (RI (sErr 1) (xErr X 1)) := by
  refine er_enter (L := [(0, _), (1, _)]) rfl rfl rfl ?_
  refine er_loc (pc' := 1) rfl rfl rfl ?_
  refine er_gf (pc' := 4) (_) rfl rfl rfl rfl rfl ?_
  refine er_loc (pc' := 5) rfl rfl rfl ?_
  refine er_cIi (pc' := 8) (rest := []) 7 rfl rfl rfl rfl rfl rfl (l_has_no _ _ _ j9 _ hs) ?_
  refine er_if_neF (pc' := 11) rfl (by decide +kernel) rfl ?_
  refine er_loc (pc' := 12) rfl rfl rfl ?_
  refine er_k (pc' := 13) (nI 1) rfl rfl rfl ?_
  refine er_cIz (pc' := 16) (rest := []) 11 rfl rfl rfl rfl rfl rfl (l_error _ _ _ 1 (by decide)) ?_
  intro Z9
  refine er_iret rfl rfl ?_
  exact RI_of rfl rfl
def sCan (J : Nat → Nat → Int32) (k : Nat) : Bool := sMayDo J k && !decide (99999 < J 0 10 + sLasts J k)
def sCanU (J : Nat → Nat → Int32) (k : Nat) : Bool := sMayUn J k && !decide (99999 < J 0 10 + sBack J k)
set_option maxRecDepth 100000 in
set_option maxHeartbeats 4000000 in
theorem l_does (d : Nat) (X Z : Nat → Nat → Int32) {T : Nat} (hI : IJ T (jx X 9)) {k : Nat} (hk : k < jn (jx X 9)) : EC (d + 7) 91 [.ref 0, .int (nI k)] (Wd X Z) (fun r => if sCan (jx X 9) k = true then RI (bI (sBit (jFin (jx X 9) k 0 7) (nI k))) (xFin X 9 k) r else RI (sErr 3) (xErr X 3) r) := by
  refine er_enter (L := [(0, _), (1, _)]) rfl rfl rfl ?_
  have h8 := jn8 hI
  have hk8 : k < 8 := by omega
  refine er_loc (pc' := 1) rfl rfl rfl ?_
  refine er_gf (pc' := 4) (_) rfl rfl rfl rfl rfl ?_
  refine er_loc (pc' := 5) rfl rfl rfl ?_
  refine er_cIi (pc' := 8) (rest := []) 7 rfl rfl rfl rfl rfl rfl (l_has_t _ j9 _ _ hI hk) ?_
  refine er_if_neT rfl (by decide +kernel) ?_
  refine er_loc (pc' := 18) rfl rfl rfl ?_
  refine er_gf (pc' := 21) (_) rfl rfl rfl rfl rfl ?_
  refine er_loc (pc' := 22) rfl rfl rfl ?_
  refine er_cIi (pc' := 25) (rest := []) 7 rfl rfl rfl rfl rfl rfl (l_mayBeDone _ j9 _ _ hI hk) ?_
  refine er_if_eqb (pc' := 28) rfl rfl (fun h25 => ?_) (fun h25 => ?_)
  · refine er_loc (pc' := 50) rfl rfl rfl ?_
    refine er_k (pc' := 51) (nI 3) rfl rfl rfl ?_
    refine er_cIz (pc' := 54) (rest := []) 11 rfl rfl rfl rfl rfl rfl (l_error _ _ _ 3 (by decide)) ?_
    intro Z9
    refine er_iret rfl rfl ?_
    have e : sCan (jx X 9) k = false := by
      unfold sCan; rw [show jx X 9 0 10 = X 9 10 from rfl]; simp [*]
    rw [if_neg (by rw [e]; decide)]
    exact RI_of rfl rfl
  · refine er_loc (pc' := 29) rfl rfl rfl ?_
    refine er_gf (pc' := 32) (_) rfl rfl rfl rfl rfl ?_
    refine er_gf (pc' := 35) (.int (X 9 10)) rfl rfl rfl rfl rfl ?_
    refine er_loc (pc' := 36) rfl rfl rfl ?_
    refine er_gf (pc' := 39) (_) rfl rfl rfl rfl rfl ?_
    refine er_loc (pc' := 40) rfl rfl rfl ?_
    refine er_cIz (pc' := 43) (rest := [_]) 7 rfl rfl rfl rfl rfl rfl (l_lasts _ j9 _ _ hI hk) ?_
    intro Z2
    refine er_iadd (pc' := 44) rfl rfl ?_
    refine er_ldc (pc' := 46) (99999) rfl rfl rfl rfl rfl ?_
    refine er_cm_le (pc' := 49) rfl rfl (fun h46 => ?_) (fun h46 => ?_)
    · refine er_loc (pc' := 56) rfl rfl rfl ?_
      refine er_gf (pc' := 59) (_) rfl rfl rfl rfl rfl ?_
      refine er_loc (pc' := 60) rfl rfl rfl ?_
      refine er_cIv (pc' := 63) (rest := []) 7 rfl rfl rfl rfl rfl rfl (l_finish _ j9 _ _ hI hk) ?_
      intro Z7
      refine er_loc (pc' := 64) rfl rfl rfl ?_
      refine er_gf (pc' := 67) (_) rfl rfl rfl rfl rfl ?_
      refine er_loc (pc' := 68) rfl rfl rfl ?_
      refine er_cIi (pc' := 71) (rest := []) 7 rfl rfl rfl rfl rfl rfl (l_isWrong _ j9 _ _ _) ?_
      refine er_if_eqb (pc' := 74) rfl rfl (fun h71 => ?_) (fun h71 => ?_)
      · refine er_k (pc' := 79) (nI 0) rfl rfl rfl ?_
        refine er_iret rfl rfl ?_
        have e : sCan (jx X 9) k = true := by
          unfold sCan; rw [show jx X 9 0 10 = X 9 10 from rfl]; simp [*]
        rw [if_pos e]
        refine RI_of ?_ rfl
        have e2 : jFin (jx X 9) k 0 7 = xFin X 9 k 9 7 := by rw [← jx_xFin hk8]; exact jx07
        rw [e2]
        exact bI_eq0 h71
      · refine er_k (pc' := 75) (nI 1) rfl rfl rfl ?_
        refine er_goto rfl ?_
        refine er_iret rfl rfl ?_
        have e : sCan (jx X 9) k = true := by
          unfold sCan; rw [show jx X 9 0 10 = X 9 10 from rfl]; simp [*]
        rw [if_pos e]
        refine RI_of ?_ rfl
        have e2 : jFin (jx X 9) k 0 7 = xFin X 9 k 9 7 := by rw [← jx_xFin hk8]; exact jx07
        rw [e2]
        exact bI_eq1 h71
    · refine er_loc (pc' := 50) rfl rfl rfl ?_
      refine er_k (pc' := 51) (nI 3) rfl rfl rfl ?_
      refine er_cIz (pc' := 54) (rest := []) 11 rfl rfl rfl rfl rfl rfl (l_error _ _ _ 3 (by decide)) ?_
      intro Z9
      refine er_iret rfl rfl ?_
      have e : sCan (jx X 9) k = false := by
        unfold sCan; rw [show jx X 9 0 10 = X 9 10 from rfl]; simp [*]
      rw [if_neg (by rw [e]; decide)]
      exact RI_of rfl rfl
set_option maxRecDepth 100000 in
set_option maxHeartbeats 4000000 in
theorem l_undo (d : Nat) (X Z : Nat → Nat → Int32) {T : Nat} (hI : IJ T (jx X 9)) {k : Nat} (hk : k < jn (jx X 9)) : EC (d + 7) 92 [.ref 0, .int (nI k)] (Wd X Z) (fun r => if sCanU (jx X 9) k = true then RI (jApart (jx X 9) k 0 9) (xApart X 9 k) r else RI (sErr 3) (xErr X 3) r) := by
  refine er_enter (L := [(0, _), (1, _)]) rfl rfl rfl ?_
  have h8 := jn8 hI
  have hk8 : k < 8 := by omega
  refine er_loc (pc' := 1) rfl rfl rfl ?_
  refine er_gf (pc' := 4) (_) rfl rfl rfl rfl rfl ?_
  refine er_loc (pc' := 5) rfl rfl rfl ?_
  refine er_cIi (pc' := 8) (rest := []) 7 rfl rfl rfl rfl rfl rfl (l_has_t _ j9 _ _ hI hk) ?_
  refine er_if_neT rfl (by decide +kernel) ?_
  refine er_loc (pc' := 18) rfl rfl rfl ?_
  refine er_gf (pc' := 21) (_) rfl rfl rfl rfl rfl ?_
  refine er_loc (pc' := 22) rfl rfl rfl ?_
  refine er_cIi (pc' := 25) (rest := []) 7 rfl rfl rfl rfl rfl rfl (l_mayBeUndone _ j9 _ _ hI hk) ?_
  refine er_if_eqb (pc' := 28) rfl rfl (fun h25 => ?_) (fun h25 => ?_)
  · refine er_loc (pc' := 50) rfl rfl rfl ?_
    refine er_k (pc' := 51) (nI 3) rfl rfl rfl ?_
    refine er_cIz (pc' := 54) (rest := []) 11 rfl rfl rfl rfl rfl rfl (l_error _ _ _ 3 (by decide)) ?_
    intro Z9
    refine er_iret rfl rfl ?_
    have e : sCanU (jx X 9) k = false := by
      unfold sCanU; rw [show jx X 9 0 10 = X 9 10 from rfl]; simp [*]
    rw [if_neg (by rw [e]; decide)]
    exact RI_of rfl rfl
  · refine er_loc (pc' := 29) rfl rfl rfl ?_
    refine er_gf (pc' := 32) (_) rfl rfl rfl rfl rfl ?_
    refine er_gf (pc' := 35) (.int (X 9 10)) rfl rfl rfl rfl rfl ?_
    refine er_loc (pc' := 36) rfl rfl rfl ?_
    refine er_gf (pc' := 39) (_) rfl rfl rfl rfl rfl ?_
    refine er_loc (pc' := 40) rfl rfl rfl ?_
    refine er_cIz (pc' := 43) (rest := [_]) 7 rfl rfl rfl rfl rfl rfl (l_takesBack _ j9 _ _ hI hk) ?_
    intro Z2
    refine er_iadd (pc' := 44) rfl rfl ?_
    refine er_ldc (pc' := 46) (99999) rfl rfl rfl rfl rfl ?_
    refine er_cm_le (pc' := 49) rfl rfl (fun h46 => ?_) (fun h46 => ?_)
    · refine er_loc (pc' := 56) rfl rfl rfl ?_
      refine er_gf (pc' := 59) (_) rfl rfl rfl rfl rfl ?_
      refine er_loc (pc' := 60) rfl rfl rfl ?_
      refine er_cIv (pc' := 63) (rest := []) 7 rfl rfl rfl rfl rfl rfl (l_takeApart _ j9 _ _ hI hk) ?_
      intro Z7
      refine er_loc (pc' := 64) rfl rfl rfl ?_
      refine er_gf (pc' := 67) (_) rfl rfl rfl rfl rfl ?_
      refine er_gf (pc' := 70) (_) rfl rfl rfl rfl rfl ?_
      refine er_iret rfl rfl ?_
      have e : sCanU (jx X 9) k = true := by
        unfold sCanU; rw [show jx X 9 0 10 = X 9 10 from rfl]; simp [*]
      rw [if_pos e]
      refine RI_of ?_ rfl
      have e2 : jApart (jx X 9) k 0 9 = xApart X 9 k 9 9 := by rw [← jx_xApart hk8]; exact jx09
      rw [e2]
    · refine er_loc (pc' := 50) rfl rfl rfl ?_
      refine er_k (pc' := 51) (nI 3) rfl rfl rfl ?_
      refine er_cIz (pc' := 54) (rest := []) 11 rfl rfl rfl rfl rfl rfl (l_error _ _ _ 3 (by decide)) ?_
      intro Z9
      refine er_iret rfl rfl ?_
      have e : sCanU (jx X 9) k = false := by
        unfold sCanU; rw [show jx X 9 0 10 = X 9 10 from rfl]; simp [*]
      rw [if_neg (by rw [e]; decide)]
      exact RI_of rfl rfl
set_option maxRecDepth 100000 in
set_option maxHeartbeats 4000000 in
theorem l_seed (d : Nat) (X Z : Nat → Nat → Int32) (v : Int32) : EC (d + 1) 109 [.ref 0, .int v] (Wd X Z) (RI (X 9 17) (ud X 9 17 v)) := by
  refine er_enter (L := [(0, _), (1, _)]) rfl rfl rfl ?_
  refine er_loc (pc' := 1) rfl rfl rfl ?_
  refine er_gf (pc' := 4) (_) rfl rfl rfl rfl rfl ?_
  refine er_gf (pc' := 7) (_) rfl rfl rfl rfl rfl ?_
  refine er_loc (pc' := 8) (L' := [(2, _), (0, _), (1, _)]) rfl rfl rfl ?_
  refine er_loc (pc' := 9) rfl rfl rfl ?_
  refine er_gf (pc' := 12) (_) rfl rfl rfl rfl rfl ?_
  refine er_loc (pc' := 13) rfl rfl rfl ?_
  refine er_pfIX (pc' := 16) 17 rfl rfl rfl rfl rfl rfl ?_
  refine er_loc (pc' := 17) rfl rfl rfl ?_
  refine er_iret rfl rfl ?_
  exact RI_of rfl rfl
set_option maxRecDepth 100000 in
set_option maxHeartbeats 4000000 in
theorem l_tell (d : Nat) (X Z : Nat → Nat → Int32) (v : Int32) (w : Nat) (hw : X 9 16 = nI w) (h20 : w ≤ 20) : EC (d + 3) 121 [.ref 0, .int v] (Wd X Z) (fun r => if w < 20 then RI (nI (w + 1)) (ud (ud X (9 + 12) w v) 9 16 (nI (w + 1))) r else RI (sErr 4) (xErr X 4) r) := by
  refine er_enter (L := [(0, _), (1, _)]) rfl rfl rfl ?_
  refine er_loc (pc' := 1) rfl rfl rfl ?_
  refine er_gf (pc' := 4) (_) rfl rfl rfl rfl rfl ?_
  refine er_gf (pc' := 7) (.int (X 9 16)) rfl rfl rfl rfl rfl ?_
  rw [hw]
  refine er_k (pc' := 9) (nI 20) rfl rfl rfl ?_
  refine er_cm_lt (pc' := 12) rfl rfl (fun h9 => ?_) (fun h9 => ?_)
  · have hlt : w < 20 := by
      rw [nI_ltI (by omega) (by omega)] at h9; exact h9
    refine er_loc (pc' := 19) rfl rfl rfl ?_
    refine er_gf (pc' := 22) (_) rfl rfl rfl rfl rfl ?_
    refine er_gf (pc' := 25) (_) rfl rfl rfl rfl rfl ?_
    refine er_loc (pc' := 26) rfl rfl rfl ?_
    refine er_gf (pc' := 29) (_) rfl rfl rfl rfl rfl ?_
    refine er_gf (pc' := 32) (.int (X 9 16)) rfl rfl rfl rfl rfl ?_
    rw [hw]
    refine er_loc (pc' := 33) rfl rfl rfl ?_
    refine er_isX (pc' := 34) (w) rfl rfl (fun _ => rfl) rfl (by omega) rfl rfl ?_
    refine er_loc (pc' := 35) rfl rfl rfl ?_
    refine er_gf (pc' := 38) (_) rfl rfl rfl rfl rfl ?_
    refine er_pure (pc' := 39) rfl rfl rfl ?_
    refine er_gf (pc' := 42) (.int (X 9 16)) rfl rfl rfl rfl rfl ?_
    rw [hw]
    refine er_k (pc' := 43) (nI 1) rfl rfl rfl ?_
    refine er_iadd (pc' := 44) rfl rfl ?_
    rw [nI_add]
    refine er_pfIX (pc' := 47) 16 rfl rfl rfl rfl rfl rfl ?_
    refine er_loc (pc' := 48) rfl rfl rfl ?_
    refine er_gf (pc' := 51) (_) rfl rfl rfl rfl rfl ?_
    refine er_gf (pc' := 54) (_) rfl rfl rfl rfl rfl ?_
    refine er_iret rfl rfl ?_
    rw [if_pos hlt]
    exact RI_of rfl rfl
  · have hlt : ¬ w < 20 := by
      rw [nI_ltI (by omega) (by omega)] at h9; exact h9
    refine er_loc (pc' := 13) rfl rfl rfl ?_
    refine er_k (pc' := 14) (nI 4) rfl rfl rfl ?_
    refine er_cIz (pc' := 17) (rest := []) 11 rfl rfl rfl rfl rfl rfl (l_error _ _ _ 4 (by decide)) ?_
    intro Z9
    refine er_iret rfl rfl ?_
    rw [if_neg hlt]
    exact RI_of rfl rfl
set_option maxRecDepth 100000 in
set_option maxHeartbeats 4000000 in
theorem l_told (d : Nat) (X Z : Nat → Nat → Int32) (k : Int32) : EC (d + 3) 124 [.ref 0, .int k] (Wd X Z) (fun r => if sIn k (nI 1) (nI 5) = true then RI (X 53 (nN k)) X r else RI (sErr 1) (xErr X 1) r) := by
  refine er_enter (L := [(0, _), (1, _)]) rfl rfl rfl ?_
  refine er_loc (pc' := 1) rfl rfl rfl ?_
  refine er_k (pc' := 2) (nI 1) rfl rfl rfl ?_
  refine er_k (pc' := 3) (nI 5) rfl rfl rfl ?_
  refine er_cSi (pc' := 6) (rest := []) rfl rfl rfl (l_within _ _ _ _ _) ?_
  refine er_if_eqb (pc' := 9) rfl rfl (fun h6 => ?_) (fun h6 => ?_)
  · refine er_loc (pc' := 19) rfl rfl rfl ?_
    refine er_k (pc' := 20) (nI 1) rfl rfl rfl ?_
    refine er_cIz (pc' := 23) (rest := []) 11 rfl rfl rfl rfl rfl rfl (l_error _ _ _ 1 (by decide)) ?_
    intro Z9
    refine er_iret rfl rfl ?_
    rw [if_neg (by rw [h6]; decide)]
    exact RI_of rfl rfl
  · obtain ⟨j, h1j, h5j, hj⟩ := sIn_ex (by omega) (by omega) h6
    have hj2 : nN k = j := by rw [hj]; exact nN_nI (by omega)
    have hkn : k = nI (nN k) := by rw [hj2, hj]
    refine er_loc (pc' := 10) rfl rfl rfl ?_
    refine er_gf (pc' := 13) (_) rfl rfl rfl rfl rfl ?_
    refine er_loc (pc' := 14) rfl rfl rfl ?_
    refine er_ia (pc' := 15) (nN k) rfl rfl rfl hkn (by omega) rfl rfl ?_
    refine er_goto rfl ?_
    refine er_iret rfl rfl ?_
    rw [if_pos h6]
    exact RI_of rfl rfl
def sCnt (J : Nat → Nat → Int32) (bg : Int32) (w : Int32) : Int32 :=
  if w = 0 then J 0 1 else if w = 1 then sPop (J 0 6) else if w = 2 then sPop (J 0 7) else if w = 3 then J 0 9 else if w = 4 then J 0 8 else if w = 5 then J 0 10 else if w = 6 then sTired J else if w = 7 then J 0 14 else if w = 8 then J 0 16 else if w = 9 then bg else J 0 17
set_option maxRecDepth 100000 in
set_option maxHeartbeats 4000000 in
theorem l_count (d : Nat) (X Z : Nat → Nat → Int32) (w : Int32) : EC (d + 3) 123 [.ref 0, .int w] (Wd X Z) (fun r => if sIn w (nI 0) (nI 10) = true then RI (sCnt (jx X 9) (X 51 1) w) X r else RI (sErr 1) (xErr X 1) r) := by
  refine er_enter (L := [(0, _), (1, _)]) rfl rfl rfl ?_
  refine er_loc (pc' := 1) rfl rfl rfl ?_
  refine er_sw (0) rfl rfl (fun s1_0 => ?_) (fun s1_0 => ?_)
  · refine er_loc (pc' := 61) rfl rfl rfl ?_
    refine er_gf (pc' := 64) (_) rfl rfl rfl rfl rfl ?_
    refine er_gf (pc' := 67) (_) rfl rfl rfl rfl rfl ?_
    refine er_iret rfl rfl ?_
    subst w
    rw [if_pos (by decide +kernel)]
    refine RI_of ?_ rfl
    unfold sCnt
    simp [jx01, jx06, jx07, jx08, jx09, jx010, jx014, jx016, jx017]
  refine er_sw (1) rfl rfl (fun s1_1 => ?_) (fun s1_1 => ?_)
  · refine er_loc (pc' := 69) rfl rfl rfl ?_
    refine er_gf (pc' := 72) (_) rfl rfl rfl rfl rfl ?_
    refine er_gf (pc' := 75) (_) rfl rfl rfl rfl rfl ?_
    refine er_cSi (pc' := 78) (rest := []) rfl rfl rfl (l_bitCount _ _ _) ?_
    refine er_iret rfl rfl ?_
    subst w
    rw [if_pos (by decide +kernel)]
    refine RI_of ?_ rfl
    unfold sCnt
    simp [jx01, jx06, jx07, jx08, jx09, jx010, jx014, jx016, jx017]
  refine er_sw (2) rfl rfl (fun s1_2 => ?_) (fun s1_2 => ?_)
  · refine er_loc (pc' := 80) rfl rfl rfl ?_
    refine er_gf (pc' := 83) (_) rfl rfl rfl rfl rfl ?_
    refine er_gf (pc' := 86) (_) rfl rfl rfl rfl rfl ?_
    refine er_cSi (pc' := 89) (rest := []) rfl rfl rfl (l_bitCount _ _ _) ?_
    refine er_iret rfl rfl ?_
    subst w
    rw [if_pos (by decide +kernel)]
    refine RI_of ?_ rfl
    unfold sCnt
    simp [jx01, jx06, jx07, jx08, jx09, jx010, jx014, jx016, jx017]
  refine er_sw (3) rfl rfl (fun s1_3 => ?_) (fun s1_3 => ?_)
  · refine er_loc (pc' := 91) rfl rfl rfl ?_
    refine er_gf (pc' := 94) (_) rfl rfl rfl rfl rfl ?_
    refine er_gf (pc' := 97) (_) rfl rfl rfl rfl rfl ?_
    refine er_iret rfl rfl ?_
    subst w
    rw [if_pos (by decide +kernel)]
    refine RI_of ?_ rfl
    unfold sCnt
    simp [jx01, jx06, jx07, jx08, jx09, jx010, jx014, jx016, jx017]
  refine er_sw (4) rfl rfl (fun s1_4 => ?_) (fun s1_4 => ?_)
  · refine er_loc (pc' := 99) rfl rfl rfl ?_
    refine er_gf (pc' := 102) (_) rfl rfl rfl rfl rfl ?_
    refine er_gf (pc' := 105) (_) rfl rfl rfl rfl rfl ?_
    refine er_iret rfl rfl ?_
    subst w
    rw [if_pos (by decide +kernel)]
    refine RI_of ?_ rfl
    unfold sCnt
    simp [jx01, jx06, jx07, jx08, jx09, jx010, jx014, jx016, jx017]
  refine er_sw (5) rfl rfl (fun s1_5 => ?_) (fun s1_5 => ?_)
  · refine er_loc (pc' := 107) rfl rfl rfl ?_
    refine er_gf (pc' := 110) (_) rfl rfl rfl rfl rfl ?_
    refine er_gf (pc' := 113) (_) rfl rfl rfl rfl rfl ?_
    refine er_iret rfl rfl ?_
    subst w
    rw [if_pos (by decide +kernel)]
    refine RI_of ?_ rfl
    unfold sCnt
    simp [jx01, jx06, jx07, jx08, jx09, jx010, jx014, jx016, jx017]
  refine er_sw (6) rfl rfl (fun s1_6 => ?_) (fun s1_6 => ?_)
  · refine er_loc (pc' := 115) rfl rfl rfl ?_
    refine er_gf (pc' := 118) (_) rfl rfl rfl rfl rfl ?_
    refine er_cIi (pc' := 121) (rest := []) 7 rfl rfl rfl rfl rfl rfl (l_tired _ j9 _ _) ?_
    refine er_iret rfl rfl ?_
    subst w
    rw [if_pos (by decide +kernel)]
    refine RI_of ?_ rfl
    unfold sCnt
    simp [jx01, jx06, jx07, jx08, jx09, jx010, jx014, jx016, jx017]
  refine er_sw (7) rfl rfl (fun s1_7 => ?_) (fun s1_7 => ?_)
  · refine er_loc (pc' := 123) rfl rfl rfl ?_
    refine er_gf (pc' := 126) (_) rfl rfl rfl rfl rfl ?_
    refine er_gf (pc' := 129) (_) rfl rfl rfl rfl rfl ?_
    refine er_iret rfl rfl ?_
    subst w
    rw [if_pos (by decide +kernel)]
    refine RI_of ?_ rfl
    unfold sCnt
    simp [jx01, jx06, jx07, jx08, jx09, jx010, jx014, jx016, jx017]
  refine er_sw (8) rfl rfl (fun s1_8 => ?_) (fun s1_8 => ?_)
  · refine er_loc (pc' := 131) rfl rfl rfl ?_
    refine er_gf (pc' := 134) (_) rfl rfl rfl rfl rfl ?_
    refine er_gf (pc' := 137) (_) rfl rfl rfl rfl rfl ?_
    refine er_iret rfl rfl ?_
    subst w
    rw [if_pos (by decide +kernel)]
    refine RI_of ?_ rfl
    unfold sCnt
    simp [jx01, jx06, jx07, jx08, jx09, jx010, jx014, jx016, jx017]
  refine er_sw (9) rfl rfl (fun s1_9 => ?_) (fun s1_9 => ?_)
  · refine er_loc (pc' := 139) rfl rfl rfl ?_
    refine er_gf (pc' := 142) (_) rfl rfl rfl rfl rfl ?_
    refine er_gf (pc' := 145) (_) rfl rfl rfl rfl rfl ?_
    refine er_iret rfl rfl ?_
    subst w
    rw [if_pos (by decide +kernel)]
    refine RI_of ?_ rfl
    unfold sCnt
    simp [jx01, jx06, jx07, jx08, jx09, jx010, jx014, jx016, jx017]
  refine er_sw (10) rfl rfl (fun s1_10 => ?_) (fun s1_10 => ?_)
  · refine er_loc (pc' := 147) rfl rfl rfl ?_
    refine er_gf (pc' := 150) (_) rfl rfl rfl rfl rfl ?_
    refine er_gf (pc' := 153) (_) rfl rfl rfl rfl rfl ?_
    refine er_iret rfl rfl ?_
    subst w
    rw [if_pos (by decide +kernel)]
    refine RI_of ?_ rfl
    unfold sCnt
    simp [jx01, jx06, jx07, jx08, jx09, jx010, jx014, jx016, jx017]
  refine er_tsD [0, 1, 2, 3, 4, 5, 6, 7, 8, 9, 10] rfl rfl rfl rfl (List.forall_mem_cons.mpr ⟨ne_toInt s1_0 rfl, List.forall_mem_cons.mpr ⟨ne_toInt s1_1 rfl, List.forall_mem_cons.mpr ⟨ne_toInt s1_2 rfl, List.forall_mem_cons.mpr ⟨ne_toInt s1_3 rfl, List.forall_mem_cons.mpr ⟨ne_toInt s1_4 rfl, List.forall_mem_cons.mpr ⟨ne_toInt s1_5 rfl, List.forall_mem_cons.mpr ⟨ne_toInt s1_6 rfl, List.forall_mem_cons.mpr ⟨ne_toInt s1_7 rfl, List.forall_mem_cons.mpr ⟨ne_toInt s1_8 rfl, List.forall_mem_cons.mpr ⟨ne_toInt s1_9 rfl, List.forall_mem_cons.mpr ⟨ne_toInt s1_10 rfl, fun _ h => absurd h List.not_mem_nil⟩⟩⟩⟩⟩⟩⟩⟩⟩⟩⟩) ?_
  refine er_loc (pc' := 155) rfl rfl rfl ?_
  refine er_k (pc' := 156) (nI 1) rfl rfl rfl ?_
  refine er_cIz (pc' := 159) (rest := []) 11 rfl rfl rfl rfl rfl rfl (l_error _ _ _ 1 (by decide)) ?_
  intro Z9
  refine er_iret rfl rfl ?_
  rw [sIn_no (by omega) (by omega) (by
    intro j _ hj e
    have : j = 0 ∨ j = 1 ∨ j = 2 ∨ j = 3 ∨ j = 4 ∨ j = 5 ∨ j = 6 ∨ j = 7 ∨ j = 8 ∨ j = 9 ∨ j = 10 := by omega
    rcases this with rfl | rfl | rfl | rfl | rfl | rfl | rfl | rfl | rfl | rfl | rfl
    · exact s1_0 e
    · exact s1_1 e
    · exact s1_2 e
    · exact s1_3 e
    · exact s1_4 e
    · exact s1_5 e
    · exact s1_6 e
    · exact s1_7 e
    · exact s1_8 e
    · exact s1_9 e
    · exact s1_10 e
  )]
  exact RI_of rfl rfl
set_option maxRecDepth 100000 in
set_option maxHeartbeats 4000000 in
theorem l_trace (d : Nat) (X Z : Nat → Nat → Int32) (i : Int32) (g : Nat) (hg : X 51 1 = nI g) (h40 : g ≤ 40) : EC (d + 3) 111 [.ref 0, .int i] (Wd X Z) (fun r => if sIn i (nI 0) (nI g - nI 1) = true then RI (X 52 (nN i)) X r else RI (sErr 2) (xErr X 2) r) := by
  refine er_enter (L := [(0, _), (1, _)]) rfl rfl rfl ?_
  refine er_loc (pc' := 1) rfl rfl rfl ?_
  refine er_k (pc' := 2) (nI 0) rfl rfl rfl ?_
  refine er_loc (pc' := 3) rfl rfl rfl ?_
  refine er_gf (pc' := 6) (_) rfl rfl rfl rfl rfl ?_
  refine er_gf (pc' := 9) (.int (X 51 1)) rfl rfl rfl rfl rfl ?_
  rw [hg]
  refine er_k (pc' := 10) (nI 1) rfl rfl rfl ?_
  refine er_isub (pc' := 11) rfl rfl ?_
  refine er_cSi (pc' := 14) (rest := []) rfl rfl rfl (l_within _ _ _ _ _) ?_
  refine er_if_eqb (pc' := 17) rfl rfl (fun h14 => ?_) (fun h14 => ?_)
  · refine er_loc (pc' := 30) rfl rfl rfl ?_
    refine er_k (pc' := 31) (nI 2) rfl rfl rfl ?_
    refine er_cIz (pc' := 34) (rest := []) 11 rfl rfl rfl rfl rfl rfl (l_error _ _ _ 2 (by decide)) ?_
    intro Z9
    refine er_iret rfl rfl ?_
    rw [if_neg (by rw [h14]; decide)]
    exact RI_of rfl rfl
  · have hg1 : 1 ≤ g := by
      rcases Nat.eq_zero_or_pos g with h | h
      · subst h
        rw [show nI 0 - nI 1 = (-1) from by decide +kernel] at h14
        unfold sIn at h14
        simp only [Bool.and_eq_true, Bool.not_eq_true', decide_eq_false_iff_not, Int32.lt_iff_toInt_lt] at h14
        have e0 : (nI 0).toInt = 0 := by decide +kernel
        have e1 : (-1 : Int32).toInt = -1 := by decide +kernel
        omega
      · exact h
    have h14b := h14
    rw [nI_sub hg1] at h14b
    obtain ⟨j, h1j, h5j, hj⟩ := sIn_ex (by omega) (by omega) h14b
    have hj2 : nN i = j := by rw [hj]; exact nN_nI (by omega)
    have hkn : i = nI (nN i) := by rw [hj2, hj]
    refine er_loc (pc' := 18) rfl rfl rfl ?_
    refine er_gf (pc' := 21) (_) rfl rfl rfl rfl rfl ?_
    refine er_gf (pc' := 24) (_) rfl rfl rfl rfl rfl ?_
    refine er_loc (pc' := 25) rfl rfl rfl ?_
    refine er_ia (pc' := 26) (nN i) rfl rfl rfl hkn (by omega) rfl rfl ?_
    refine er_goto rfl ?_
    refine er_iret rfl rfl ?_
    rw [if_pos h14]
    exact RI_of rfl rfl
set_option maxRecDepth 100000 in
set_option maxHeartbeats 4000000 in
theorem l_under_no (d : Nat) (X Z : Nat → Nat → Int32) (s : Int32) (hs : xHas X s = false) : EC (d + 3) 98 [.ref 0, .int s] (Wd X Z) (RI (sErr 1) (xErr X 1)) := by
  refine er_enter (L := [(0, _), (1, _)]) rfl rfl rfl ?_
  refine er_loc (pc' := 1) rfl rfl rfl ?_
  refine er_gf (pc' := 4) (_) rfl rfl rfl rfl rfl ?_
  refine er_loc (pc' := 5) rfl rfl rfl ?_
  refine er_cIi (pc' := 8) (rest := []) 7 rfl rfl rfl rfl rfl rfl (l_has_no _ _ _ j9 _ hs) ?_
  refine er_if_neF (pc' := 11) rfl (by decide +kernel) rfl ?_
  refine er_loc (pc' := 12) rfl rfl rfl ?_
  refine er_k (pc' := 13) (nI 1) rfl rfl rfl ?_
  refine er_cIz (pc' := 16) (rest := []) 11 rfl rfl rfl rfl rfl rfl (l_error _ _ _ 1 (by decide)) ?_
  intro Z9
  refine er_iret rfl rfl ?_
  exact RI_of rfl rfl
set_option maxRecDepth 100000 in
set_option maxHeartbeats 4000000 in
theorem l_under (d : Nat) (X Z : Nat → Nat → Int32) {T : Nat} (hI : IJ T (jx X 9)) {k : Nat} (hk : k < jn (jx X 9)) : EC (d + 4) 98 [.ref 0, .int (nI k)] (Wd X Z) (fun r => if sDone (jx X 9) k = true then RI (sRest (jx X 9) k (jn (jx X 9))) X r else RI (sErr 3) (xErr X 3) r) := by
  refine er_enter (L := [(0, _), (1, _)]) rfl rfl rfl ?_
  have h8 := jn8 hI
  have hk8 : k < 8 := by omega
  refine er_loc (pc' := 1) rfl rfl rfl ?_
  refine er_gf (pc' := 4) (_) rfl rfl rfl rfl rfl ?_
  refine er_loc (pc' := 5) rfl rfl rfl ?_
  refine er_cIi (pc' := 8) (rest := []) 7 rfl rfl rfl rfl rfl rfl (l_has_t _ j9 _ _ hI hk) ?_
  refine er_if_neT rfl (by decide +kernel) ?_
  refine er_loc (pc' := 18) rfl rfl rfl ?_
  refine er_gf (pc' := 21) (_) rfl rfl rfl rfl rfl ?_
  refine er_loc (pc' := 22) rfl rfl rfl ?_
  refine er_cIi (pc' := 25) (rest := []) 7 rfl rfl rfl rfl rfl rfl (l_isDone _ j9 _ _ _) ?_
  refine er_if_eqb (pc' := 28) rfl rfl (fun h25 => ?_) (fun h25 => ?_)
  · refine er_loc (pc' := 40) rfl rfl rfl ?_
    refine er_k (pc' := 41) (nI 3) rfl rfl rfl ?_
    refine er_cIz (pc' := 44) (rest := []) 11 rfl rfl rfl rfl rfl rfl (l_error _ _ _ 3 (by decide)) ?_
    intro Z9
    refine er_iret rfl rfl ?_
    rw [if_neg (by unfold sDone; rw [show jx X 9 0 6 = X 9 6 from rfl, h25]; decide)]
    exact RI_of rfl rfl
  · refine er_loc (pc' := 29) rfl rfl rfl ?_
    refine er_gf (pc' := 32) (_) rfl rfl rfl rfl rfl ?_
    refine er_loc (pc' := 33) rfl rfl rfl ?_
    refine er_cIi (pc' := 36) (rest := []) 7 rfl rfl rfl rfl rfl rfl (l_restingOn _ j9 _ _ hI hk) ?_
    refine er_goto rfl ?_
    refine er_iret rfl rfl ?_
    rw [if_pos (show sDone (jx X 9) k = true from h25)]
    exact RI_of rfl rfl
end
section
/-! HOW LONG at most; what a JOB holds stays so -/
theorem fin_le {m n : Nat} (h : n ≤ m) {p : Nat → Prop} (hp : ∀ i : Fin (m + 1), p i.val) : p n := hp ⟨n, by omega⟩
theorem isN.add {a b : Int32} {A B : Nat} (ha : isN a A) (hb : isN b B) (h : A + B < 2 ^ 31) : isN (a + b) (A + B) := by
  obtain ⟨n, h1, rfl⟩ := (isN_iff (by omega)).mp ha
  obtain ⟨m, h2, rfl⟩ := (isN_iff (by omega)).mp hb
  rw [nI_add]
  exact isN.of (by omega) h
theorem isN.sub {a b : Int32} {A : Nat} (ha : isN a A) (hA : A < 2 ^ 31) (hb : ∃ n, b = nI n ∧ n ≤ nN a) : isN (a - b) A := by
  obtain ⟨n, rfl, h2⟩ := hb
  obtain ⟨m, h1, rfl⟩ := (isN_iff hA).mp ha
  rw [nN_nI (by omega)] at h2
  rw [nI_sub h2]
  exact isN.of (by omega) hA
theorem isN.held {v : Int32} {a b : Nat} (hab : a ≤ b) (hb : b < 2 ^ 31) : isN (sHeld v (nI a) (nI b)) b := by
  unfold sHeld
  split
  · exact isN.of hab hb
  · rename_i h1
    split
    · exact isN.of (Nat.le_refl _) hb
    · rename_i h2
      have h3 : sIn v (nI a) (nI b) = true := by
        unfold sIn
        simp [h1, h2, ← Int32.not_lt]
      obtain ⟨j, _, h4, rfl⟩ := sIn_ex hb (by omega) h3
      exact isN.of h4 hb
theorem rem3 {m : Nat} (h : m ≤ 9) : isN (nI m - nI m / nI 3 * nI 3) 9 := by
  unfold isN
  exact fin_le (m := 9) (p := fun m => nI m - nI m / nI 3 * nI 3 = nI (nN (nI m - nI m / nI 3 * nI 3)) ∧ nN (nI m - nI m / nI 3 * nI 3) ≤ 9) h (by decide +kernel)
theorem div2 {m : Nat} (h : m ≤ 300) : isN (nI m / nI 2) 300 := by
  unfold isN
  exact fin_le (m := 300) (p := fun m => nI m / nI 2 = nI (nN (nI m / nI 2)) ∧ nN (nI m / nI 2) ≤ 300) h (by decide +kernel)
theorem lasting300 {q : Nat} {v h m s : Int32} (hv : isN v 99) (hm : isN m 9) (hs : isN s 9) : isN (sLasting q v h m s) 300 := by
  obtain ⟨v, hv1, rfl⟩ := (isN_iff (by omega)).mp hv
  obtain ⟨m, hm1, rfl⟩ := (isN_iff (by omega)).mp hm
  obtain ⟨s, hs1, rfl⟩ := (isN_iff (by omega)).mp hs
  have hheld : isN (if h = nI 1 then nI v * nI 2 else nI v) 198 := by
    split
    · rw [nI_mul]; exact isN.of (by omega) (by omega)
    · exact isN.of (by omega) (by omega)
  unfold sLasting
  split
  · exact isN.of (by omega) (by omega)
  · rw [nI_add]; exact isN.of (by omega) (by omega)
  · rw [nI_add]; exact isN.of (by omega) (by omega)
  · exact hheld.mono (by omega)
  · rw [nI_add]
    exact ((isN.of (show v + 1 ≤ 100 by omega) (by omega)).add (rem3 hm1) (by omega)).mono (by omega)
  · rw [nI_add, nI_add]; exact isN.of (by omega) (by omega)
  · exact (hheld.add hm (by omega)).mono (by omega)
section BND
variable {T : Nat} {J : Nat → Nat → Int32}
theorem lastsBy99 {s m t : Int32} : isN (sLastsBy J s m t) 99 := isN.held (by omega) (by omega)
theorem errsBy1 {m t k : Int32} : isN (sErrsBy J m t k) 1 := isN.held (by omega) (by omega)
theorem lasts300 (h : IJ T J) (k : Nat) : isN (sLasts J k) 300 := lasting300 lastsBy99 (h.m k) (h.sc k)
theorem back300 (h : IJ T J) (k : Nat) : isN (sBack J k) 300 := by
  unfold sBack sBackOf
  split
  · exact lasts300 h k
  · obtain ⟨m, h1, h2⟩ := (isN_iff (by omega)).mp (lasts300 h k)
    rw [h2]
    exact div2 h1
theorem mayDo_k {k : Nat} (h : sMayDo J k = true) : k < jn J ∧ sDone J k = false ∧ ¬ J 0 9 < J 3 k := by
  unfold sMayDo sReady at h
  simp only [Bool.and_eq_true, Bool.not_eq_true', decide_eq_true_eq, decide_eq_false_iff_not] at h
  exact ⟨h.1.1.1, h.1.1.2, h.1.2.2⟩
theorem mayUn_k {k : Nat} (h : sMayUn J k = true) : k < jn J ∧ sDone J k = true := by
  unfold sMayUn at h
  simp only [Bool.and_eq_true, Bool.not_eq_true', decide_eq_true_eq] at h
  exact ⟨h.1.1.1, h.1.1.2⟩
theorem bag_sub {g s : Int32} (hg : isN g 999) (hs : isN s 9) (h : ¬ g < s) : isN (g - s) 999 := by
  obtain ⟨a, h1, rfl⟩ := (isN_iff (by omega)).mp hg
  obtain ⟨b, h2, rfl⟩ := (isN_iff (by omega)).mp hs
  rw [nI_ltI (by omega) (by omega)] at h
  rw [nI_sub (by omega)]
  exact isN.of (by omega) (by omega)
theorem IJ.pass (h : IJ T J) (hT : T < 2000000000) {k : Nat} (hm : sMayDo J k = true) : IJ (T + 300) (jPass J k) := by
  obtain ⟨hk, -, hb⟩ := mayDo_k hm
  have h8 := jn8 h
  unfold jPass
  refine IJ.uDone (IJ.uBag (IJ.uMin h ?_) ?_) ?_
  · exact h.minute.add (lasts300 h k) (by omega)
  · exact bag_sub h.bag (h.sc k) hb
  · exact bt_with_lt hk h8 h.done
theorem mayDo_w {k : Nat} {v : Int32} : sMayDo (ud J 0 7 v) k = sMayDo J k := rfl
theorem IJ.fin (h : IJ T J) (hT : T < 2000000000) {k : Nat} (hm : sMayDo J k = true) : IJ (T + 300) (jFin J k) := by
  obtain ⟨hk, -, hb⟩ := mayDo_k hm
  have h8 := jn8 h
  exact IJ.pass (h.uWrong (bt_with_lt hk h8 h.wrong)) hT hm
theorem give999 {g s : Int32} (hg : isN g 999) (hs : isN s 9) : isN (sGive g s) 999 := by
  obtain ⟨a, h1, rfl⟩ := (isN_iff (by omega)).mp hg
  obtain ⟨b, h2, rfl⟩ := (isN_iff (by omega)).mp hs
  unfold sGive
  have e : ∃ c, c ≤ 9 ∧ (if nI 0 < nI b - nI 1 then nI b - nI 1 else nI 0) = nI c := by
    rcases Nat.eq_zero_or_pos b with rfl | hb
    · exact ⟨0, by omega, by decide +kernel⟩
    · rw [nI_sub hb]
      split
      · exact ⟨b - 1, by omega, rfl⟩
      · exact ⟨0, by omega, rfl⟩
  obtain ⟨c, hc, e⟩ := e
  rw [e, nI_add]
  split
  · rename_i hlt
    rw [nI_ltI (by omega) (by omega)] at hlt
    exact isN.of (by omega) (by omega)
  · exact isN.of (by omega) (by omega)
theorem IJ.apart (h : IJ T J) (hT : T < 2000000000) {k : Nat} (hm : sMayUn J k = true) : IJ (T + 300) (jApart J k) := by
  obtain ⟨hk, -⟩ := mayUn_k hm
  have h8 := jn8 h
  unfold jApart
  refine IJ.uWrong (IJ.uDone (IJ.uBag (IJ.uMin h ?_) ?_) ?_) ?_
  · exact h.minute.add (back300 h k) (by omega)
  · exact give999 h.bag (h.sc k)
  · exact bt_with_lt hk h8 h.done
  · exact bt_with_lt hk h8 h.wrong
theorem jn_pass {k : Nat} : jn (jPass J k) = jn J := rfl
theorem jn_fin {k : Nat} : jn (jFin J k) = jn J := rfl
theorem jn_apart {k : Nat} : jn (jApart J k) = jn J := rfl
theorem sFirst_some {J : Nat → Nat → Int32} : ∀ {m i k : Nat}, sFirst J m i = some k → sMayDo J k = true
  | 0, _, _, h => by cases h
  | m + 1, i, k, h => by
    unfold sFirst at h
    split at h
    · rename_i h1; cases h; exact h1
    · exact sFirst_some h
end BND
end
section
/-! THE FACE: loops over the STEPS -/
def sSetOf (p : Nat → Bool) : Nat → Int32
  | 0 => nI 0
  | i + 1 => sWith (sSetOf p i) (nI i) (p i)
def sLeft (J : Nat → Nat → Int32) : Nat → Int32
  | 0 => J 0 9
  | i + 1 => sLeft J i - (if sDone J i = true then nI 0 else J 3 i)
def sAny (p : Nat → Bool) (a : Nat) : Nat → Bool
  | 0 => false
  | i + 1 => sAny p a i || (decide (a ≤ i) && p i)
theorem sAny_low {p : Nat → Bool} {a : Nat} : ∀ {i : Nat}, i ≤ a → sAny p a i = false
  | 0, _ => rfl
  | i + 1, h => by
    unfold sAny
    rw [sAny_low (by omega), decide_eq_false (by omega)]
    rfl
def sPn (J : Nat → Nat → Int32) (w : Int32) (i : Nat) : Bool := if w = 0 then sMayDo J i else sMayUn J i
set_option maxRecDepth 100000 in
set_option maxHeartbeats 4000000 in
theorem l_next_loop (d : Nat) {X Z : Nat → Nat → Int32} {T : Nat} (hI : IJ T (jx X 9)) (w : Int32) : ∀ (m i : Nat) (x : Int32) (v : Int32), i + m = jn (jx X 9) → x = nI i → v = sSetOf (sPn (jx X 9) w) i → ER (d + 3) tb_m94 19 [(0, .ref 0), (1, .int w), (2, .int v), (3, .int x)] [] (Wd X Z) (PI (sSetOf (sPn (jx X 9) w) (jn (jx X 9))) (Wd X Z))
  | 0, i, x, v, hi, h0, h1 => by
    have h8 := jn8 hI
    have hi0 : i = jn (jx X 9) := by omega
    subst h0
    subst h1
    subst hi0
    refine er_loc (pc' := 20) rfl rfl rfl ?_
    refine er_loc (pc' := 21) rfl rfl rfl ?_
    refine er_gf (pc' := 24) (_) rfl rfl rfl rfl rfl ?_
    refine er_gf (pc' := 27) (.int (X 9 1)) rfl rfl rfl rfl rfl ?_
    rw [show X 9 1 = nI (jn (jx X 9)) from hI.n.1]
    refine er_cm_geT rfl (nI_nlt (by omega) (by omega)) ?_
    refine er_loc (pc' := 70) rfl rfl rfl ?_
    refine er_iret rfl rfl ?_
    exact PI_of rfl
  | m + 1, i, x, v, hi, h0, h1 => by
    have h8 := jn8 hI
    have hi8 : i < 8 := by omega
    subst h0
    subst h1
    refine er_loc (pc' := 20) rfl rfl rfl ?_
    refine er_loc (pc' := 21) rfl rfl rfl ?_
    refine er_gf (pc' := 24) (_) rfl rfl rfl rfl rfl ?_
    refine er_gf (pc' := 27) (.int (X 9 1)) rfl rfl rfl rfl rfl ?_
    rw [show X 9 1 = nI (jn (jx X 9)) from hI.n.1]
    refine er_cm_geF (pc' := 30) rfl (nI_lt (by omega) (by omega)) rfl ?_
    refine er_loc (pc' := 31) rfl rfl rfl ?_
    refine er_if_ne (pc' := 34) rfl rfl (fun h31 => ?_) (fun h31 => ?_)
    · refine er_loc (pc' := 46) rfl rfl rfl ?_
      refine er_gf (pc' := 49) (_) rfl rfl rfl rfl rfl ?_
      refine er_loc (pc' := 50) rfl rfl rfl ?_
      refine er_cIi (pc' := 53) (rest := []) 7 rfl rfl rfl rfl rfl rfl (l_mayBeUndone _ j9 _ _ hI (k := i) (by omega)) ?_
      refine er_loc (pc' := 55) (L' := [(4, _), (0, _), (1, _), (2, _), (3, _)]) rfl rfl rfl ?_
      refine er_loc (pc' := 56) rfl rfl rfl ?_
      refine er_loc (pc' := 57) rfl rfl rfl ?_
      refine er_loc (pc' := 59) rfl rfl rfl ?_
      refine er_cSi (pc' := 62) (rest := []) rfl rfl rfl (l_with _ _ _ _ _) ?_
      refine er_loc (pc' := 63) (L' := [(2, _), (4, _), (0, _), (1, _), (3, _)]) rfl rfl rfl ?_
      refine er_loc (L' := [(3, .int (_ + nI 1)), (2, _), (4, _), (0, _), (1, _)]) rfl rfl rfl ?_
      refine er_goto rfl ?_
      refine ER_loc [(0, _), (1, _), (2, _), (3, _)] rfl (List.forall_mem_cons.mpr ⟨rfl, List.forall_mem_cons.mpr ⟨rfl, List.forall_mem_cons.mpr ⟨rfl, List.forall_mem_cons.mpr ⟨rfl, fun _ h => absurd h List.not_mem_nil⟩⟩⟩⟩) rfl rfl ?_
      refine l_next_loop d hI w m (i + 1) _ _ (by omega) (nI_add i 1) ?_
      show _ = sWith _ _ (if _ then _ else _)
      first | rw [if_pos h31] | rw [if_neg h31]
    · refine er_loc (pc' := 35) rfl rfl rfl ?_
      refine er_gf (pc' := 38) (_) rfl rfl rfl rfl rfl ?_
      refine er_loc (pc' := 39) rfl rfl rfl ?_
      refine er_cIi (pc' := 42) (rest := []) 7 rfl rfl rfl rfl rfl rfl (l_mayBeDone _ j9 _ _ hI (k := i) (by omega)) ?_
      refine er_goto rfl ?_
      refine er_loc (pc' := 55) (L' := [(4, _), (0, _), (1, _), (2, _), (3, _)]) rfl rfl rfl ?_
      refine er_loc (pc' := 56) rfl rfl rfl ?_
      refine er_loc (pc' := 57) rfl rfl rfl ?_
      refine er_loc (pc' := 59) rfl rfl rfl ?_
      refine er_cSi (pc' := 62) (rest := []) rfl rfl rfl (l_with _ _ _ _ _) ?_
      refine er_loc (pc' := 63) (L' := [(2, _), (4, _), (0, _), (1, _), (3, _)]) rfl rfl rfl ?_
      refine er_loc (L' := [(3, .int (_ + nI 1)), (2, _), (4, _), (0, _), (1, _)]) rfl rfl rfl ?_
      refine er_goto rfl ?_
      refine ER_loc [(0, _), (1, _), (2, _), (3, _)] rfl (List.forall_mem_cons.mpr ⟨rfl, List.forall_mem_cons.mpr ⟨rfl, List.forall_mem_cons.mpr ⟨rfl, List.forall_mem_cons.mpr ⟨rfl, fun _ h => absurd h List.not_mem_nil⟩⟩⟩⟩) rfl rfl ?_
      refine l_next_loop d hI w m (i + 1) _ _ (by omega) (nI_add i 1) ?_
      show _ = sWith _ _ (if _ then _ else _)
      first | rw [if_pos h31] | rw [if_neg h31]
set_option maxRecDepth 100000 in
set_option maxHeartbeats 4000000 in
theorem l_next (d : Nat) (X Z : Nat → Nat → Int32) {T : Nat} (hI : IJ T (jx X 9)) (w : Int32) : EC (d + 4) 94 [.ref 0, .int w] (Wd X Z) (fun r => if sIn w (nI 0) (nI 1) = true then RI (sSetOf (sPn (jx X 9) w) (jn (jx X 9))) X r else RI (sErr 1) (xErr X 1) r) := by
  refine er_enter (L := [(0, _), (1, _)]) rfl rfl rfl ?_
  refine er_loc (pc' := 1) rfl rfl rfl ?_
  refine er_k (pc' := 2) (nI 0) rfl rfl rfl ?_
  refine er_k (pc' := 3) (nI 1) rfl rfl rfl ?_
  refine er_cSi (pc' := 6) (rest := []) rfl rfl rfl (l_within _ _ _ _ _) ?_
  refine er_if_neb (pc' := 9) rfl rfl (fun h6 => ?_) (fun h6 => ?_)
  · refine er_k (pc' := 16) (nI 0) rfl rfl rfl ?_
    refine er_loc (pc' := 17) (L' := [(2, _), (0, _), (1, _)]) rfl rfl rfl ?_
    refine er_k (pc' := 18) (nI 0) rfl rfl rfl ?_
    refine er_loc (pc' := 19) (L' := [(3, _), (2, _), (0, _), (1, _)]) rfl rfl rfl ?_
    refine ER_loc [(0, _), (1, _), (2, _), (3, _)] rfl (List.forall_mem_cons.mpr ⟨rfl, List.forall_mem_cons.mpr ⟨rfl, List.forall_mem_cons.mpr ⟨rfl, List.forall_mem_cons.mpr ⟨rfl, fun _ h => absurd h List.not_mem_nil⟩⟩⟩⟩) rfl rfl ?_
    refine ER.mono (l_next_loop (d := d) hI w (jn (jx X 9)) 0 _ _ (by omega) rfl rfl) ?_
    rintro r rfl
    rw [if_pos h6]
    exact ⟨Z, rfl⟩
  · refine er_loc (pc' := 10) rfl rfl rfl ?_
    refine er_k (pc' := 11) (nI 1) rfl rfl rfl ?_
    refine er_cIz (pc' := 14) (rest := []) 11 rfl rfl rfl rfl rfl rfl (l_error _ _ _ 1 (by decide)) ?_
    intro Z9
    refine er_iret rfl rfl ?_
    rw [if_neg (by rw [h6]; decide)]
    exact RI_of rfl rfl
set_option maxRecDepth 100000 in
set_option maxHeartbeats 4000000 in
theorem l_left_loop (d : Nat) {X Z : Nat → Nat → Int32} {T : Nat} (hI : IJ T (jx X 9)) : ∀ (m i : Nat) (x : Int32) (v : Int32), i + m = jn (jx X 9) → x = nI i → v = sLeft (jx X 9) i → ER (d + 2) tb_m102 10 [(0, .ref 0), (1, .int v), (2, .int x)] [] (Wd X Z) (PI (sLeft (jx X 9) (jn (jx X 9))) (Wd X Z))
  | 0, i, x, v, hi, h0, h1 => by
    have h8 := jn8 hI
    have hi0 : i = jn (jx X 9) := by omega
    subst h0
    subst h1
    subst hi0
    refine er_loc (pc' := 11) rfl rfl rfl ?_
    refine er_loc (pc' := 12) rfl rfl rfl ?_
    refine er_gf (pc' := 15) (_) rfl rfl rfl rfl rfl ?_
    refine er_gf (pc' := 18) (.int (X 9 1)) rfl rfl rfl rfl rfl ?_
    rw [show X 9 1 = nI (jn (jx X 9)) from hI.n.1]
    refine er_cm_geT rfl (nI_nlt (by omega) (by omega)) ?_
    refine er_loc (pc' := 55) rfl rfl rfl ?_
    refine er_iret rfl rfl ?_
    exact PI_of rfl
  | m + 1, i, x, v, hi, h0, h1 => by
    have h8 := jn8 hI
    have hi8 : i < 8 := by omega
    subst h0
    subst h1
    refine er_loc (pc' := 11) rfl rfl rfl ?_
    refine er_loc (pc' := 12) rfl rfl rfl ?_
    refine er_gf (pc' := 15) (_) rfl rfl rfl rfl rfl ?_
    refine er_gf (pc' := 18) (.int (X 9 1)) rfl rfl rfl rfl rfl ?_
    rw [show X 9 1 = nI (jn (jx X 9)) from hI.n.1]
    refine er_cm_geF (pc' := 21) rfl (nI_lt (by omega) (by omega)) rfl ?_
    refine er_loc (pc' := 22) rfl rfl rfl ?_
    refine er_loc (pc' := 23) rfl rfl rfl ?_
    refine er_gf (pc' := 26) (_) rfl rfl rfl rfl rfl ?_
    refine er_loc (pc' := 27) rfl rfl rfl ?_
    refine er_cIi (pc' := 30) (rest := [_]) 7 rfl rfl rfl rfl rfl rfl (l_isDone _ j9 _ _ _) ?_
    refine er_if_eqb (pc' := 33) rfl rfl (fun h30 => ?_) (fun h30 => ?_)
    · refine er_loc (pc' := 38) rfl rfl rfl ?_
      refine er_gf (pc' := 41) (_) rfl rfl rfl rfl rfl ?_
      refine er_gf (pc' := 44) (_) rfl rfl rfl rfl rfl ?_
      refine er_loc (pc' := 45) rfl rfl rfl ?_
      refine er_ia (pc' := 46) (i) rfl rfl rfl rfl (by omega) rfl rfl ?_
      refine er_isub rfl rfl ?_
      refine er_loc (L' := [(1, _), (0, _), (2, _)]) rfl rfl rfl ?_
      refine er_loc (L' := [(2, .int (_ + nI 1)), (1, _), (0, _)]) rfl rfl rfl ?_
      refine er_goto rfl ?_
      refine ER_loc [(0, _), (1, _), (2, _)] rfl (List.forall_mem_cons.mpr ⟨rfl, List.forall_mem_cons.mpr ⟨rfl, List.forall_mem_cons.mpr ⟨rfl, fun _ h => absurd h List.not_mem_nil⟩⟩⟩) rfl rfl ?_
      refine l_left_loop d hI m (i + 1) _ _ (by omega) (nI_add i 1) ?_
      show _ = sLeft _ _ - (if _ then _ else _)
      first | rw [if_pos (show sDone (jx X 9) i = true from h30)] | rw [if_neg (show ¬ sDone (jx X 9) i = true from by unfold sDone; rw [show jx X 9 0 6 = X 9 6 from rfl, h30]; decide), jx3 hi8]
    · refine er_k (pc' := 34) (nI 0) rfl rfl rfl ?_
      refine er_goto rfl ?_
      refine er_isub rfl rfl ?_
      refine er_loc (L' := [(1, _), (0, _), (2, _)]) rfl rfl rfl ?_
      refine er_loc (L' := [(2, .int (_ + nI 1)), (1, _), (0, _)]) rfl rfl rfl ?_
      refine er_goto rfl ?_
      refine ER_loc [(0, _), (1, _), (2, _)] rfl (List.forall_mem_cons.mpr ⟨rfl, List.forall_mem_cons.mpr ⟨rfl, List.forall_mem_cons.mpr ⟨rfl, fun _ h => absurd h List.not_mem_nil⟩⟩⟩) rfl rfl ?_
      refine l_left_loop d hI m (i + 1) _ _ (by omega) (nI_add i 1) ?_
      show _ = sLeft _ _ - (if _ then _ else _)
      first | rw [if_pos (show sDone (jx X 9) i = true from h30)] | rw [if_neg (show ¬ sDone (jx X 9) i = true from by unfold sDone; rw [show jx X 9 0 6 = X 9 6 from rfl, h30]; decide), jx3 hi8]
set_option maxRecDepth 100000 in
set_option maxHeartbeats 4000000 in
theorem l_left (d : Nat) (X Z : Nat → Nat → Int32) {T : Nat} (hI : IJ T (jx X 9)) : EC (d + 3) 102 [.ref 0] (Wd X Z) (RI (sLeft (jx X 9) (jn (jx X 9))) X) := by
  refine er_enter (L := [(0, _)]) rfl rfl rfl ?_
  refine er_loc (pc' := 1) rfl rfl rfl ?_
  refine er_gf (pc' := 4) (_) rfl rfl rfl rfl rfl ?_
  refine er_gf (pc' := 7) (.int (X 9 9)) rfl rfl rfl rfl rfl ?_
  refine er_loc (pc' := 8) (L' := [(1, _), (0, _)]) rfl rfl rfl ?_
  refine er_k (pc' := 9) (nI 0) rfl rfl rfl ?_
  refine er_loc (pc' := 10) (L' := [(2, _), (1, _), (0, _)]) rfl rfl rfl ?_
  refine ER_loc [(0, _), (1, _), (2, _)] rfl (List.forall_mem_cons.mpr ⟨rfl, List.forall_mem_cons.mpr ⟨rfl, List.forall_mem_cons.mpr ⟨rfl, fun _ h => absurd h List.not_mem_nil⟩⟩⟩) rfl rfl ?_
  refine ER.mono (l_left_loop (d := d) hI (jn (jx X 9)) 0 _ _ (by omega) rfl rfl) ?_
  rintro r rfl
  exact ⟨Z, rfl⟩
def sGoSet (J : Nat → Nat → Int32) (k : Nat) : Int32 := sWith (sRest J k (jn J)) (nI k) true
def sBp (J : Nat → Nat → Int32) (s : Int32) (i : Nat) : Bool := sBit s (nI i) && sNever (sKind J i)
def sBlocked (J : Nat → Nat → Int32) (k : Nat) : Bool := sAny (sBp J (sGoSet J k)) k (jn J)
set_option maxRecDepth 100000 in
set_option maxHeartbeats 4000000 in
theorem l_blk_loop (d : Nat) {X Z : Nat → Nat → Int32} {T : Nat} (hI : IJ T (jx X 9)) (s : Int32) (k : Nat) : ∀ (m i : Nat) (x : Int32) (v : Int32), i + m = jn (jx X 9) → x = nI i → v = bI (sAny (sBp (jx X 9) s) k i) → k ≤ i → ER (d + 3) tb_m101 19 [(0, .ref 0), (2, .int s), (3, .int v), (4, .int x)] [] (Wd X Z) (PI (bI (sAny (sBp (jx X 9) s) k (jn (jx X 9)))) (Wd X Z))
  | 0, i, x, v, hi, h0, h1, h2 => by
    have h8 := jn8 hI
    have hi0 : i = jn (jx X 9) := by omega
    subst h0
    subst h1
    subst hi0
    refine er_loc (pc' := 21) rfl rfl rfl ?_
    refine er_loc (pc' := 22) rfl rfl rfl ?_
    refine er_gf (pc' := 25) (_) rfl rfl rfl rfl rfl ?_
    refine er_gf (pc' := 28) (.int (X 9 1)) rfl rfl rfl rfl rfl ?_
    rw [show X 9 1 = nI (jn (jx X 9)) from hI.n.1]
    refine er_cm_geT rfl (nI_nlt (by omega) (by omega)) ?_
    refine er_loc (pc' := 72) rfl rfl rfl ?_
    refine er_zret rfl rfl ?_
    exact PI_of rfl
  | m + 1, i, x, v, hi, h0, h1, h2 => by
    have h8 := jn8 hI
    have hi8 : i < 8 := by omega
    subst h0
    subst h1
    have hq := kind7 hI i
    refine er_loc (pc' := 21) rfl rfl rfl ?_
    refine er_loc (pc' := 22) rfl rfl rfl ?_
    refine er_gf (pc' := 25) (_) rfl rfl rfl rfl rfl ?_
    refine er_gf (pc' := 28) (.int (X 9 1)) rfl rfl rfl rfl rfl ?_
    rw [show X 9 1 = nI (jn (jx X 9)) from hI.n.1]
    refine er_cm_geF (pc' := 31) rfl (nI_lt (by omega) (by omega)) rfl ?_
    refine er_loc (pc' := 32) rfl rfl rfl ?_
    refine er_if_neb (pc' := 35) rfl rfl (fun h32 => ?_) (fun h32 => ?_)
    · refine er_k (pc' := 60) (nI 1) rfl rfl rfl ?_
      refine er_goto rfl ?_
      refine er_loc (L' := [(3, _), (0, _), (2, _), (4, _)]) rfl rfl rfl ?_
      refine er_loc (L' := [(4, .int (_ + nI 1)), (3, _), (0, _), (2, _)]) rfl rfl rfl ?_
      refine er_goto rfl ?_
      refine ER_loc [(0, _), (2, _), (3, _), (4, _)] rfl (List.forall_mem_cons.mpr ⟨rfl, List.forall_mem_cons.mpr ⟨rfl, List.forall_mem_cons.mpr ⟨rfl, List.forall_mem_cons.mpr ⟨rfl, fun _ h => absurd h List.not_mem_nil⟩⟩⟩⟩) rfl rfl ?_
      refine l_blk_loop d hI s k m (i + 1) _ _ (by omega) (nI_add i 1) (bI_eq1 ?_) (by omega)
      simp only [sAny, sBp, decide_eq_true h2, Bool.true_and]
      simp [*]
    · refine er_loc (pc' := 36) rfl rfl rfl ?_
      refine er_loc (pc' := 38) rfl rfl rfl ?_
      refine er_cSi (pc' := 41) (rest := []) rfl rfl rfl (l_isIn _ _ _ _) ?_
      refine er_if_eqb (pc' := 44) rfl rfl (fun h41 => ?_) (fun h41 => ?_)
      · refine er_k (pc' := 64) (nI 0) rfl rfl rfl ?_
        refine er_loc (L' := [(3, _), (0, _), (2, _), (4, _)]) rfl rfl rfl ?_
        refine er_loc (L' := [(4, .int (_ + nI 1)), (3, _), (0, _), (2, _)]) rfl rfl rfl ?_
        refine er_goto rfl ?_
        refine ER_loc [(0, _), (2, _), (3, _), (4, _)] rfl (List.forall_mem_cons.mpr ⟨rfl, List.forall_mem_cons.mpr ⟨rfl, List.forall_mem_cons.mpr ⟨rfl, List.forall_mem_cons.mpr ⟨rfl, fun _ h => absurd h List.not_mem_nil⟩⟩⟩⟩) rfl rfl ?_
        refine l_blk_loop d hI s k m (i + 1) _ _ (by omega) (nI_add i 1) (bI_eq0 ?_) (by omega)
        simp only [sAny, sBp, decide_eq_true h2, Bool.true_and]
        simp [*]
      · refine er_loc (pc' := 45) rfl rfl rfl ?_
        refine er_gf (pc' := 48) (_) rfl rfl rfl rfl rfl ?_
        refine er_loc (pc' := 50) rfl rfl rfl ?_
        refine er_cIr (pc' := 53) (rest := []) 7 rfl rfl rfl rfl rfl rfl (l_kindOf _ j9 _ _ hI (k := i) (by omega)) ?_
        refine er_cIi (pc' := 56) (rest := []) (sKind (jx X 9) i) rfl rfl (by rcases lt7 hq with e | e | e | e | e | e | e <;> rw [e] <;> rfl) (blt_S hq) (cO_S hq _ _) rfl (l_neverOf _ _ _ hq) ?_
        refine er_if_eqb (pc' := 59) rfl rfl (fun h56 => ?_) (fun h56 => ?_)
        · refine er_k (pc' := 64) (nI 0) rfl rfl rfl ?_
          refine er_loc (L' := [(3, _), (0, _), (2, _), (4, _)]) rfl rfl rfl ?_
          refine er_loc (L' := [(4, .int (_ + nI 1)), (3, _), (0, _), (2, _)]) rfl rfl rfl ?_
          refine er_goto rfl ?_
          refine ER_loc [(0, _), (2, _), (3, _), (4, _)] rfl (List.forall_mem_cons.mpr ⟨rfl, List.forall_mem_cons.mpr ⟨rfl, List.forall_mem_cons.mpr ⟨rfl, List.forall_mem_cons.mpr ⟨rfl, fun _ h => absurd h List.not_mem_nil⟩⟩⟩⟩) rfl rfl ?_
          refine l_blk_loop d hI s k m (i + 1) _ _ (by omega) (nI_add i 1) (bI_eq0 ?_) (by omega)
          simp only [sAny, sBp, decide_eq_true h2, Bool.true_and]
          simp [*]
        · refine er_k (pc' := 60) (nI 1) rfl rfl rfl ?_
          refine er_goto rfl ?_
          refine er_loc (L' := [(3, _), (0, _), (2, _), (4, _)]) rfl rfl rfl ?_
          refine er_loc (L' := [(4, .int (_ + nI 1)), (3, _), (0, _), (2, _)]) rfl rfl rfl ?_
          refine er_goto rfl ?_
          refine ER_loc [(0, _), (2, _), (3, _), (4, _)] rfl (List.forall_mem_cons.mpr ⟨rfl, List.forall_mem_cons.mpr ⟨rfl, List.forall_mem_cons.mpr ⟨rfl, List.forall_mem_cons.mpr ⟨rfl, fun _ h => absurd h List.not_mem_nil⟩⟩⟩⟩) rfl rfl ?_
          refine l_blk_loop d hI s k m (i + 1) _ _ (by omega) (nI_add i 1) (bI_eq1 ?_) (by omega)
          simp only [sAny, sBp, decide_eq_true h2, Bool.true_and]
          simp [*]
set_option maxRecDepth 100000 in
set_option maxHeartbeats 4000000 in
theorem l_isBlocked (d : Nat) (X Z : Nat → Nat → Int32) {T : Nat} (hI : IJ T (jx X 9)) {k : Nat} (hk : k < jn (jx X 9)) : EC (d + 4) 101 [.ref 0, .int (nI k)] (Wd X Z) (PI (bI (sBlocked (jx X 9) k)) (Wd X Z)) := by
  refine er_enter (L := [(0, _), (1, _)]) rfl rfl rfl ?_
  refine er_loc (pc' := 1) rfl rfl rfl ?_
  refine er_gf (pc' := 4) (_) rfl rfl rfl rfl rfl ?_
  refine er_loc (pc' := 5) rfl rfl rfl ?_
  refine er_cIi (pc' := 8) (rest := []) 7 rfl rfl rfl rfl rfl rfl (l_restingOn _ j9 _ _ hI hk) ?_
  refine er_loc (pc' := 9) rfl rfl rfl ?_
  refine er_k (pc' := 10) (nI 1) rfl rfl rfl ?_
  refine er_cSi (pc' := 13) (rest := []) rfl rfl rfl (l_with _ _ _ true _) ?_
  refine er_loc (pc' := 14) (L' := [(2, _), (0, _), (1, _)]) rfl rfl rfl ?_
  refine er_k (pc' := 15) (nI 0) rfl rfl rfl ?_
  refine er_loc (pc' := 16) (L' := [(3, _), (2, _), (0, _), (1, _)]) rfl rfl rfl ?_
  refine er_loc (pc' := 17) rfl rfl rfl ?_
  refine er_loc (pc' := 19) (L' := [(4, _), (3, _), (2, _), (0, _), (1, _)]) rfl rfl rfl ?_
  refine ER_loc [(0, _), (2, _), (3, _), (4, _)] rfl (List.forall_mem_cons.mpr ⟨rfl, List.forall_mem_cons.mpr ⟨rfl, List.forall_mem_cons.mpr ⟨rfl, List.forall_mem_cons.mpr ⟨rfl, fun _ h => absurd h List.not_mem_nil⟩⟩⟩⟩) rfl rfl ?_
  exact l_blk_loop (d := d) hI (sGoSet (jx X 9) k) k (jn (jx X 9) - k) k _ _ (by omega) rfl (bI_eq0 (sAny_low (Nat.le_refl _))) (Nat.le_refl _)
end
section
/-! THE FACE: what is only thought -/
def OT (X X' : Nat → Nat → Int32) : Prop := ∀ c, (c < 35 ∨ 35 + 12 < c) → X' c = X c
def RO (v : Int32) (X : Nat → Nat → Int32) : ab_R → Prop := fun r => ∃ X' Z', r = (some (.int v), Wd X' Z') ∧ OT X X'
theorem OT.rf (X : Nat → Nat → Int32) : OT X X := fun _ _ => rfl
theorem OT.trans {X Y V : Nat → Nat → Int32} (h : OT X Y) (h2 : OT Y V) : OT X V := fun c hc => (h2 c hc).trans (h c hc)
theorem OT.j9 {X X' : Nat → Nat → Int32} (h : OT X X') : jx X' 9 = jx X 9 := jx_off (fun c _ hc => h c (Or.inl (by omega)))
theorem OT.ud {X X' : Nat → Nat → Int32} (h : OT X X') {c k : Nat} {v : Int32} (hc : 35 ≤ c ∧ c ≤ 47) : OT X (ud X' c k v) := fun q hq => by rw [ud_ne (by omega)]; exact h q hq
theorem OT.fin {X X' : Nat → Nat → Int32} (h : OT X X') {k : Nat} : OT X (xFin X' 35 k) := fun q hq => by rw [xFin_off (by omega)]; exact h q hq
theorem OT.pass {X X' : Nat → Nat → Int32} (h : OT X X') {k : Nat} : OT X (xPass X' 35 k) := fun q hq => by rw [xPass_off (by omega)]; exact h q hq
theorem OT.unpass {X X' : Nat → Nat → Int32} (h : OT X X') {k : Nat} {g t : Int32} : OT X (xUnpass X' 35 k g t) := fun q hq => by rw [xUnpass_off (by omega)]; exact h q hq
theorem RO_of {v x : Int32} {X X' Z : Nat → Nat → Int32} (h : x = v) (ho : OT X X') : RO v X (some (.int x), Wd X' Z) := ⟨X', Z, by rw [h], ho⟩
theorem ud_ud (X : Nat → Nat → Int32) (c k : Nat) (v u : Int32) : ud (ud X c k v) c k u = ud X c k u := by
  funext i j
  simp only [ud_at]
  by_cases h : i = c
  · subst h
    by_cases hj : j = k
    · subst hj; simp
    · simp [hj]
  · simp [h]
theorem ud_id (X : Nat → Nat → Int32) (c k : Nat) : ud X c k (X c k) = X := by
  funext i j
  simp only [ud_at]
  by_cases h : i = c
  · subst h
    by_cases hj : j = k
    · subst hj; simp
    · simp [hj]
  · simp [h]
section ERV
variable {d pc pc' lk : Nat} {M : ab_M} {L L' : ab_Lo} {st : List Value} {w : ab_W} {P : ab_R → Prop} {X Z : Nat → Nat → Int32}
theorem er_cIt (cls : Nat) {c j b p : Nat} {ins : Instr} {fs As rest : List Value} (hf : ab_fetch M.2.2.2.2.2.2.2 pc = some (ins, lk)) (hi : isCI ins = true) (hq : qI lk cls st = some (c, j, As, rest)) (hc : Nat.blt c 79 = true) (ho : cO c (X c) (Z c) = .inl (cls, fs)) (hp : pc + 3 = pc') (h : EC d j As (Wd X Z) (TK X b p)) (k : ∀ X' Z', jx X' b = jx X p → (∀ c, (c < b ∨ b + 12 < c) → X' c = X c) → ER d M pc' L rest (Wd X' Z') P) : ER d M pc L st (Wd X Z) P :=
  er_cI cls hf hi hq hc ho hp h (fun r hr => by obtain ⟨X', Z', rfl, h1, h2⟩ := hr; exact k X' Z' h1 h2)
theorem er_cIo (cls : Nat) {c j : Nat} {v : Int32} {ins : Instr} {fs As rest : List Value} (hf : ab_fetch M.2.2.2.2.2.2.2 pc = some (ins, lk)) (hi : isCI ins = true) (hq : qI lk cls st = some (c, j, As, rest)) (hc : Nat.blt c 79 = true) (ho : cO c (X c) (Z c) = .inl (cls, fs)) (hp : pc + 3 = pc') (h : EC d j As (Wd X Z) (RO v X)) (k : ∀ X' Z', OT X X' → ER d M pc' L (.int v :: rest) (Wd X' Z') P) : ER d M pc L st (Wd X Z) P :=
  er_cI cls hf hi hq hc ho hp h (fun r hr => by obtain ⟨X', Z', rfl, h1⟩ := hr; exact k X' Z' h1)
end ERV
def gD (J : Nat → Nat → Int32) (s : Int32) (a : Nat) : Nat → Int32 → Int32
  | 0, t => t
  | m + 1, t => gD J s a m (if sBit s (nI (a + m)) = true then t + sBack (ud J 0 10 t) (a + m) else t)
def gU (J : Nat → Nat → Int32) (s : Int32) : Nat → Nat → Int32 → Int32
  | 0, _, t => t
  | m + 1, i, t => gU J s m (i + 1) (if sBit s (nI i) = true then t + sLasts (ud J 0 10 t) i else t)
def sGoM (J : Nat → Nat → Int32) (k : Nat) : Int32 := gU J (sGoSet J k) (jn J - k) k (gD J (sGoSet J k) k (jn J - k) (J 0 10)) - J 0 10
theorem nI_m1_lt {k : Nat} (h : k ≤ 8) : nI k - nI 1 < nI k := fin_le (m := 8) (p := fun k => nI k - nI 1 < nI k) h (by decide +kernel)
theorem nI_s1 (m : Nat) : nI (m + 1) - nI 1 = nI m := nI_sub (show 1 ≤ m + 1 by omega)
set_option maxRecDepth 100000 in
set_option maxHeartbeats 4000000 in
theorem l_gd_loop (d : Nat) {X : Nat → Nat → Int32} {T0 : Nat} (hI : IJ T0 (jx X 9)) {k : Nat} (hk : k < jn (jx X 9)) (s : Int32) (P : ab_R → Prop) : ∀ (m T : Nat) (X1 Z : Nat → Nat → Int32) (t x : Int32), x = nI (k + m) - nI 1 → OT X X1 → jx X1 35 = ud (jx X 9) 0 10 t → IJ T (ud (jx X 9) 0 10 t) → k + m ≤ jn (jx X 9) ∧ T + 300 * m < 1000000000 → (∀ X2 Z2 t2 x2, OT X X2 → jx X2 35 = ud (jx X 9) 0 10 t2 → IJ (T + 300 * m) (ud (jx X 9) 0 10 t2) → t2 = gD (jx X 9) s k m t → ER (d + 5) tb_m100 74 [(0, .ref 0), (1, .int (nI k)), (2, .int s), (3, .int x2)] [] (Wd X2 Z2) P) → ER (d + 5) tb_m100 35 [(0, .ref 0), (1, .int (nI k)), (2, .int s), (3, .int x)] [] (Wd X1 Z) P
  | 0, T, X1, Z, t, x, hx, ho, hj, hI1, hb, hP => by
    have h8 := jn8 hI
    subst hx
    refine er_loc (pc' := 36) rfl rfl rfl ?_
    refine er_loc (pc' := 37) rfl rfl rfl ?_
    refine er_cm_ltT rfl (nI_m1_lt (by omega)) ?_
    exact hP X1 Z t _ ho hj (hI1.mono (by omega)) rfl
  | m + 1, T, X1, Z, t, x, hx, ho, hj, hI1, hb, hP => by
    have h8 := jn8 hI
    have hI0 : IJ T (ud (jx X 9) 0 10 t) := hI1
    rw [show k + (m + 1) = (k + m) + 1 from rfl, nI_s1] at hx
    subst hx
    have hT : IJ T (jx X1 35) := by rw [hj]; exact hI1
    have hkT : k + m < jn (jx X1 35) := by
      rw [hj]
      show k + m < jn (jx X 9)
      omega
    have htm : X1 35 10 = t := by
      have e : jx X1 35 0 10 = t := by rw [hj]; exact ud_same _ _ _ _ ▸ u1_same _ _ _
      exact e
    refine er_loc (pc' := 36) rfl rfl rfl ?_
    refine er_loc (pc' := 37) rfl rfl rfl ?_
    refine er_cm_ltF (pc' := 40) rfl (nI_nlt (a := k + m) (by omega) (by omega)) rfl ?_
    refine er_loc (pc' := 41) rfl rfl rfl ?_
    refine er_loc (pc' := 42) rfl rfl rfl ?_
    refine er_cSi (pc' := 45) (rest := []) rfl rfl rfl (l_isIn _ _ _ _) ?_
    refine er_if_eqb (pc' := 48) rfl rfl (fun h45 => ?_) (fun h45 => ?_)
    · refine er_loc (L' := [(3, .int (_ + (-1))), (0, _), (1, _), (2, _)]) rfl rfl rfl ?_
      refine er_goto rfl ?_
      refine ER_loc [(0, _), (1, _), (2, _), (3, _)] rfl (List.forall_mem_cons.mpr ⟨rfl, List.forall_mem_cons.mpr ⟨rfl, List.forall_mem_cons.mpr ⟨rfl, List.forall_mem_cons.mpr ⟨rfl, fun _ h => absurd h List.not_mem_nil⟩⟩⟩⟩) rfl rfl ?_
      have e2 : gD (jx X 9) s k (m + 1) t = gD (jx X 9) s k m t := by show gD _ _ _ _ (if _ then _ else _) = _; rw [if_neg (by rw [h45]; decide)]
      refine l_gd_loop d hI hk s P m (T + 300) _ _ _ _ (by rw [Int32.sub_eq_add_neg]; rfl) ho hj (hI1.mono (by omega)) (by omega) ?_
      intro X2 Z2 t2 x2 a1 a2 a3 a4
      exact hP X2 Z2 t2 x2 a1 a2 (by rw [show T + 300 * (m + 1) = T + 300 + 300 * m by omega]; exact a3) (a4.trans e2.symm)
    · refine er_loc (pc' := 49) rfl rfl rfl ?_
      refine er_gf (pc' := 52) (_) rfl rfl rfl rfl rfl ?_
      refine er_pure (pc' := 53) rfl rfl rfl ?_
      refine er_gf (pc' := 56) (.int t) rfl rfl rfl (by rw [← htm]; rfl) rfl ?_
      refine er_loc (pc' := 57) rfl rfl rfl ?_
      refine er_gf (pc' := 60) (_) rfl rfl rfl rfl rfl ?_
      refine er_loc (pc' := 61) rfl rfl rfl ?_
      refine er_cIz (pc' := 64) (rest := [_, _]) 7 rfl rfl rfl rfl rfl rfl (l_takesBack _ j35 _ _ hT hkT) ?_
      intro Z2
      refine er_iadd (pc' := 65) rfl rfl ?_
      refine er_pfIX (pc' := 68) 10 rfl rfl rfl rfl rfl rfl ?_
      refine er_loc (L' := [(3, .int (_ + (-1))), (0, _), (1, _), (2, _)]) rfl rfl rfl ?_
      refine er_goto rfl ?_
      refine ER_loc [(0, _), (1, _), (2, _), (3, _)] rfl (List.forall_mem_cons.mpr ⟨rfl, List.forall_mem_cons.mpr ⟨rfl, List.forall_mem_cons.mpr ⟨rfl, List.forall_mem_cons.mpr ⟨rfl, fun _ h => absurd h List.not_mem_nil⟩⟩⟩⟩) rfl rfl ?_
      have e2 : gD (jx X 9) s k (m + 1) t = gD (jx X 9) s k m (t + sBack (ud (jx X 9) 0 10 t) (k + m)) := by show gD _ _ _ _ (if _ then _ else _) = _; rw [if_pos h45]
      refine l_gd_loop d hI hk s P m (T + 300) _ _ (t + sBack (ud (jx X 9) 0 10 t) (k + m)) _ (by rw [Int32.sub_eq_add_neg]; rfl) (OT.ud ho (by omega)) (by rw [jx_ud0 rfl, hj, ud_ud]) (IJ.uMin hI (hI1.minute.add (back300 hI1 _) (by omega))) (by omega) ?_
      intro X2 Z2 t2 x2 a1 a2 a3 a4
      exact hP X2 Z2 t2 x2 a1 a2 (by rw [show T + 300 * (m + 1) = T + 300 + 300 * m by omega]; exact a3) (a4.trans e2.symm)
set_option maxRecDepth 100000 in
set_option maxHeartbeats 4000000 in
theorem l_gu_loop (d : Nat) {X : Nat → Nat → Int32} {T0 : Nat} (hI : IJ T0 (jx X 9)) {k0 : Int32} (s v : Int32) (P : ab_R → Prop) : ∀ (m i T : Nat) (X1 Z : Nat → Nat → Int32) (t x : Int32), i + m = jn (jx X 9) → x = nI i → OT X X1 → jx X1 35 = ud (jx X 9) 0 10 t → IJ T (ud (jx X 9) 0 10 t) → T + 300 * m < 1000000000 → gU (jx X 9) s m i t = v → (∀ r, RO (v - X 9 10) X r → P r) → ER (d + 5) tb_m100 76 [(0, .ref 0), (1, .int k0), (2, .int s), (3, .int x)] [] (Wd X1 Z) P
  | 0, i, T, X1, Z, t, x, hi, hx, ho, hj, hI1, hb, hv, hP => by
    have h8 := jn8 hI
    have hi0 : i = jn (jx X 9) := by omega
    subst hx
    subst hi0
    have htm : X1 35 10 = t := by
      have e : jx X1 35 0 10 = t := by rw [hj]; exact ud_same _ _ _ _ ▸ u1_same _ _ _
      exact e
    refine er_loc (pc' := 77) rfl rfl rfl ?_
    refine er_loc (pc' := 78) rfl rfl rfl ?_
    refine er_gf (pc' := 81) (_) rfl rfl rfl rfl rfl ?_
    refine er_gf (pc' := 84) (.int (X1 9 1)) rfl rfl rfl rfl rfl ?_
    rw [show X1 9 1 = nI (jn (jx X 9)) from by rw [ho 9 (by omega)]; exact hI.n.1]
    refine er_cm_geT rfl (nI_nlt (by omega) (by omega)) ?_
    refine er_loc (pc' := 122) rfl rfl rfl ?_
    refine er_gf (pc' := 125) (_) rfl rfl rfl rfl rfl ?_
    refine er_gf (pc' := 128) (.int t) rfl rfl rfl (by rw [← htm]; rfl) rfl ?_
    refine er_loc (pc' := 129) rfl rfl rfl ?_
    refine er_gf (pc' := 132) (_) rfl rfl rfl rfl rfl ?_
    refine er_gf (pc' := 135) (.int (X1 9 10)) rfl rfl rfl rfl rfl ?_
    rw [ho 9 (by omega)]
    refine er_isub (pc' := 136) rfl rfl ?_
    refine er_iret rfl rfl ?_
    refine hP _ ⟨X1, Z, by rw [show t = v from hv], ho⟩
  | m + 1, i, T, X1, Z, t, x, hi, hx, ho, hj, hI1, hb, hv, hP => by
    have h8 := jn8 hI
    subst hx
    have hT : IJ T (jx X1 35) := by rw [hj]; exact hI1
    have hkT : i < jn (jx X1 35) := by
      rw [hj]
      show i < jn (jx X 9)
      omega
    have htm : X1 35 10 = t := by
      have e : jx X1 35 0 10 = t := by rw [hj]; exact ud_same _ _ _ _ ▸ u1_same _ _ _
      exact e
    refine er_loc (pc' := 77) rfl rfl rfl ?_
    refine er_loc (pc' := 78) rfl rfl rfl ?_
    refine er_gf (pc' := 81) (_) rfl rfl rfl rfl rfl ?_
    refine er_gf (pc' := 84) (.int (X1 9 1)) rfl rfl rfl rfl rfl ?_
    rw [show X1 9 1 = nI (jn (jx X 9)) from by rw [ho 9 (by omega)]; exact hI.n.1]
    refine er_cm_geF (pc' := 87) rfl (nI_lt (by omega) (by omega)) rfl ?_
    refine er_loc (pc' := 88) rfl rfl rfl ?_
    refine er_loc (pc' := 89) rfl rfl rfl ?_
    refine er_cSi (pc' := 92) (rest := []) rfl rfl rfl (l_isIn _ _ _ _) ?_
    refine er_if_eqb (pc' := 95) rfl rfl (fun h92 => ?_) (fun h92 => ?_)
    · refine er_loc (L' := [(3, .int (_ + nI 1)), (0, _), (1, _), (2, _)]) rfl rfl rfl ?_
      refine er_goto rfl ?_
      refine ER_loc [(0, _), (1, _), (2, _), (3, _)] rfl (List.forall_mem_cons.mpr ⟨rfl, List.forall_mem_cons.mpr ⟨rfl, List.forall_mem_cons.mpr ⟨rfl, List.forall_mem_cons.mpr ⟨rfl, fun _ h => absurd h List.not_mem_nil⟩⟩⟩⟩) rfl rfl ?_
      refine l_gu_loop d hI s v P m (i + 1) (T + 300) _ _ _ _ (by omega) (nI_add i 1) ho hj (hI1.mono (by omega)) (by omega) ?_ hP
      rw [← hv]; show _ = gU _ _ _ _ (if _ then _ else _); rw [if_neg (by rw [h92]; decide)]
    · refine er_loc (pc' := 96) rfl rfl rfl ?_
      refine er_gf (pc' := 99) (_) rfl rfl rfl rfl rfl ?_
      refine er_pure (pc' := 100) rfl rfl rfl ?_
      refine er_gf (pc' := 103) (.int t) rfl rfl rfl (by rw [← htm]; rfl) rfl ?_
      refine er_loc (pc' := 104) rfl rfl rfl ?_
      refine er_gf (pc' := 107) (_) rfl rfl rfl rfl rfl ?_
      refine er_loc (pc' := 108) rfl rfl rfl ?_
      refine er_cIz (pc' := 111) (rest := [_, _]) 7 rfl rfl rfl rfl rfl rfl (l_lasts _ j35 _ _ hT hkT) ?_
      intro Z2
      refine er_iadd (pc' := 112) rfl rfl ?_
      refine er_pfIX (pc' := 115) 10 rfl rfl rfl rfl rfl rfl ?_
      refine er_loc (L' := [(3, .int (_ + nI 1)), (0, _), (1, _), (2, _)]) rfl rfl rfl ?_
      refine er_goto rfl ?_
      refine ER_loc [(0, _), (1, _), (2, _), (3, _)] rfl (List.forall_mem_cons.mpr ⟨rfl, List.forall_mem_cons.mpr ⟨rfl, List.forall_mem_cons.mpr ⟨rfl, List.forall_mem_cons.mpr ⟨rfl, fun _ h => absurd h List.not_mem_nil⟩⟩⟩⟩) rfl rfl ?_
      refine l_gu_loop d hI s v P m (i + 1) (T + 300) _ _ (t + sLasts (ud (jx X 9) 0 10 t) i) _ (by omega) (nI_add i 1) (OT.ud ho (by omega)) (by rw [jx_ud0 rfl, hj, ud_ud]) (IJ.uMin hI (hI1.minute.add (lasts300 hI1 _) (by omega))) (by omega) ?_ hP
      rw [← hv]; show _ = gU _ _ _ _ (if _ then _ else _); rw [if_pos h92]
set_option maxRecDepth 100000 in
set_option maxHeartbeats 4000000 in
theorem l_minutesBackTo (d : Nat) {X Z : Nat → Nat → Int32} {T : Nat} (hI : IJ T (jx X 9)) (hT9 : T < 1000000) {k : Nat} (hk : k < jn (jx X 9)) : EC (d + 6) 100 [.ref 0, .int (nI k)] (Wd X Z) (RO (sGoM (jx X 9) k) X) := by
  refine er_enter (L := [(0, _), (1, _)]) rfl rfl rfl ?_
  have h8 := jn8 hI
  refine er_loc (pc' := 1) rfl rfl rfl ?_
  refine er_gf (pc' := 4) (_) rfl rfl rfl rfl rfl ?_
  refine er_loc (pc' := 5) rfl rfl rfl ?_
  refine er_cIi (pc' := 8) (rest := []) 7 rfl rfl rfl rfl rfl rfl (l_restingOn _ j9 _ _ hI hk) ?_
  refine er_loc (pc' := 9) rfl rfl rfl ?_
  refine er_k (pc' := 10) (nI 1) rfl rfl rfl ?_
  refine er_cSi (pc' := 13) (rest := []) rfl rfl rfl (l_with _ _ _ true _) ?_
  refine er_loc (pc' := 14) (L' := [(2, _), (0, _), (1, _)]) rfl rfl rfl ?_
  refine er_loc (pc' := 15) rfl rfl rfl ?_
  refine er_gf (pc' := 18) (_) rfl rfl rfl rfl rfl ?_
  refine er_loc (pc' := 19) rfl rfl rfl ?_
  refine er_gf (pc' := 22) (_) rfl rfl rfl rfl rfl ?_
  refine er_cIt (pc' := 25) (rest := []) 7 rfl rfl rfl rfl rfl rfl (l_take_35_9 _ _ _ hI) ?_
  intro X1 Z1 hj1 ho1
  refine er_loc (pc' := 26) rfl rfl rfl ?_
  refine er_gf (pc' := 29) (_) rfl rfl rfl rfl rfl ?_
  refine er_gf (pc' := 32) (.int (X1 9 1)) rfl rfl rfl rfl rfl ?_
  rw [show X1 9 1 = nI (jn (jx X 9)) from by rw [ho1 9 (by omega)]; exact hI.n.1]
  refine er_k (pc' := 33) (nI 1) rfl rfl rfl ?_
  refine er_isub (pc' := 34) rfl rfl ?_
  refine er_loc (pc' := 35) (L' := [(3, _), (2, _), (0, _), (1, _)]) rfl rfl rfl ?_
  refine ER_loc [(0, _), (1, _), (2, _), (3, _)] rfl (List.forall_mem_cons.mpr ⟨rfl, List.forall_mem_cons.mpr ⟨rfl, List.forall_mem_cons.mpr ⟨rfl, List.forall_mem_cons.mpr ⟨rfl, fun _ h => absurd h List.not_mem_nil⟩⟩⟩⟩) rfl rfl ?_
  refine l_gd_loop d hI hk (sGoSet (jx X 9) k) _ (jn (jx X 9) - k) T X1 Z1 (jx X 9 0 10) _ ?_ ho1 (by rw [ud_id]; exact hj1) (by rw [ud_id]; exact hI) (by omega) ?_
  · rw [show k + (jn (jx X 9) - k) = jn (jx X 9) by omega]
  intro X2 Z2 t2 x2 ho2 hj2 hI2 ht2
  refine er_loc (pc' := 75) rfl rfl rfl ?_
  refine er_loc (L' := [(3, _), (0, _), (1, _), (2, _)]) (pc' := 76) rfl rfl rfl ?_
  refine ER_loc [(0, _), (1, _), (2, _), (3, _)] rfl (List.forall_mem_cons.mpr ⟨rfl, List.forall_mem_cons.mpr ⟨rfl, List.forall_mem_cons.mpr ⟨rfl, List.forall_mem_cons.mpr ⟨rfl, fun _ h => absurd h List.not_mem_nil⟩⟩⟩⟩) rfl rfl ?_
  refine l_gu_loop d hI (sGoSet (jx X 9) k) (gU (jx X 9) (sGoSet (jx X 9) k) (jn (jx X 9) - k) k t2) _ (jn (jx X 9) - k) k _ _ _ t2 _ (by omega) rfl ho2 hj2 hI2 (by omega) rfl (fun r hr => ?_)
  rw [ht2] at hr
  exact hr
end
section
/-! THE FACE: going back, looking, odds, whose -/
set_option maxRecDepth 100000 in
set_option maxHeartbeats 4000000 in
theorem l_goBack (d : Nat) (X Z : Nat → Nat → Int32) {T : Nat} (hI : IJ T (jx X 9)) {k : Nat} (hk : k < jn (jx X 9)) (hT9 : T < 1000000) (w : Int32) : EC (d + 7) 99 [.ref 0, .int (nI k), .int w] (Wd X Z) (fun r => if sIn w (nI 0) (nI 1) = true then (if sDone (jx X 9) k = true then (if w = 0 then RO (sGoM (jx X 9) k) X r else RI (bI (sBlocked (jx X 9) k)) X r) else RI (sErr 3) (xErr X 3) r) else RI (sErr 1) (xErr X 1) r) := by
  refine er_enter (L := [(0, _), (1, _), (2, _)]) rfl rfl rfl ?_
  have h8 := jn8 hI
  have hk8 : k < 8 := by omega
  refine er_loc (pc' := 1) rfl rfl rfl ?_
  refine er_gf (pc' := 4) (_) rfl rfl rfl rfl rfl ?_
  refine er_loc (pc' := 5) rfl rfl rfl ?_
  refine er_cIi (pc' := 8) (rest := []) 7 rfl rfl rfl rfl rfl rfl (l_has_t _ j9 _ _ hI hk) ?_
  refine er_if_eqF (pc' := 11) rfl (by decide +kernel) rfl ?_
  refine er_loc (pc' := 12) rfl rfl rfl ?_
  refine er_k (pc' := 13) (nI 0) rfl rfl rfl ?_
  refine er_k (pc' := 14) (nI 1) rfl rfl rfl ?_
  refine er_cSi (pc' := 17) (rest := []) rfl rfl rfl (l_within _ _ _ _ _) ?_
  refine er_if_neb (pc' := 20) rfl rfl (fun h17 => ?_) (fun h17 => ?_)
  · refine er_loc (pc' := 27) rfl rfl rfl ?_
    refine er_gf (pc' := 30) (_) rfl rfl rfl rfl rfl ?_
    refine er_loc (pc' := 31) rfl rfl rfl ?_
    refine er_cIi (pc' := 34) (rest := []) 7 rfl rfl rfl rfl rfl rfl (l_isDone _ j9 _ _ _) ?_
    refine er_if_neb (pc' := 37) rfl rfl (fun h34 => ?_) (fun h34 => ?_)
    · refine er_loc (pc' := 44) rfl rfl rfl ?_
      refine er_if_ne (pc' := 47) rfl rfl (fun h44 => ?_) (fun h44 => ?_)
      · refine er_loc (pc' := 54) rfl rfl rfl ?_
        refine er_loc (pc' := 55) rfl rfl rfl ?_
        refine er_cIi (pc' := 58) (rest := []) 11 rfl rfl rfl rfl rfl rfl (l_isBlocked _ _ _ hI hk) ?_
        refine er_if_eqb (pc' := 61) rfl rfl (fun h58 => ?_) (fun h58 => ?_)
        · refine er_k (pc' := 66) (nI 0) rfl rfl rfl ?_
          refine er_iret rfl rfl ?_
          rw [if_pos h17, if_pos (show sDone (jx X 9) k = true from h34)]
          rw [if_neg h44]
          exact RI_of (bI_eq0 h58) rfl
        · refine er_k (pc' := 62) (nI 1) rfl rfl rfl ?_
          refine er_goto rfl ?_
          refine er_iret rfl rfl ?_
          rw [if_pos h17, if_pos (show sDone (jx X 9) k = true from h34)]
          rw [if_neg h44]
          exact RI_of (bI_eq1 h58) rfl
      · refine er_loc (pc' := 48) rfl rfl rfl ?_
        refine er_loc (pc' := 49) rfl rfl rfl ?_
        refine er_cIo (pc' := 52) (rest := []) 11 rfl rfl rfl rfl rfl rfl (l_minutesBackTo _ hI hT9 hk) ?_
        intro X2 Z2 ho2
        refine er_iret rfl rfl ?_
        rw [if_pos h17, if_pos (show sDone (jx X 9) k = true from h34)]
        rw [if_pos h44]
        exact RO_of rfl ho2
    · refine er_loc (pc' := 38) rfl rfl rfl ?_
      refine er_k (pc' := 39) (nI 3) rfl rfl rfl ?_
      refine er_cIz (pc' := 42) (rest := []) 11 rfl rfl rfl rfl rfl rfl (l_error _ _ _ 3 (by decide)) ?_
      intro Z9
      refine er_iret rfl rfl ?_
      rw [if_pos h17, if_neg (by unfold sDone; rw [show jx X 9 0 6 = X 9 6 from rfl, h34]; decide)]
      exact RI_of rfl rfl
  · refine er_loc (pc' := 21) rfl rfl rfl ?_
    refine er_k (pc' := 22) (nI 1) rfl rfl rfl ?_
    refine er_cIz (pc' := 25) (rest := []) 11 rfl rfl rfl rfl rfl rfl (l_error _ _ _ 1 (by decide)) ?_
    intro Z9
    refine er_iret rfl rfl ?_
    rw [if_neg (by rw [h17]; decide)]
    exact RI_of rfl rfl
def lkF (J : Nat → Nat → Int32) : Nat → Nat → Int32 → Int32 → Int32
  | 0, _, f, _ => f
  | m + 1, i, f, l => if (sBit (J 0 7) (nI i) && !sBlocked J i) = true then (if f < 0 ∨ sGoM J i < l then lkF J m (i + 1) (nI i) (sGoM J i) else lkF J m (i + 1) f l) else lkF J m (i + 1) f l
def RX (v : Int32) (X Y : Nat → Nat → Int32) : ab_R → Prop := fun r => ∃ X' Z', r = (some (.int v), Wd X' Z') ∧ OT Y X'
theorem sBlocked_ot {X X' : Nat → Nat → Int32} (h : OT X X') {k : Nat} : sBlocked (jx X' 9) k = sBlocked (jx X 9) k := by rw [h.j9]
def LkP (X : Nat → Nat → Int32) (f : Int32) : ab_R → Prop := fun r => if f < 0 then (∃ X' Z', r = (some (.int (sErr 2)), Wd X' Z') ∧ ∃ X1, OT X X1 ∧ X' = xErr X1 2) else RO f X r
set_option maxRecDepth 100000 in
set_option maxHeartbeats 4000000 in
theorem l_look_loop (d : Nat) {X : Nat → Nat → Int32} {T : Nat} (hI : IJ T (jx X 9)) (hT9 : T < 1000000) (P : ab_R → Prop) : ∀ (m i : Nat) (X1 Z : Nat → Nat → Int32) (f l x : Int32), i + m = jn (jx X 9) → x = nI i → OT X X1 → (∀ r, LkP X (lkF (jx X 9) m i f l) r → P r) → ER (d + 6) tb_m104 6 [(0, .ref 0), (1, .int f), (2, .int l), (3, .int x)] [] (Wd X1 Z) P
  | 0, i, X1, Z, f, l, x, hi, hx, ho, hP => by
    have h8 := jn8 hI
    have hi0 : i = jn (jx X 9) := by omega
    subst hx
    subst hi0
    refine er_loc (pc' := 7) rfl rfl rfl ?_
    refine er_loc (pc' := 8) rfl rfl rfl ?_
    refine er_gf (pc' := 11) (_) rfl rfl rfl rfl rfl ?_
    refine er_gf (pc' := 14) (.int (X1 9 1)) rfl rfl rfl rfl rfl ?_
    rw [show X1 9 1 = nI (jn (jx X 9)) from by rw [ho 9 (by omega)]; exact hI.n.1]
    refine er_cm_geT rfl (nI_nlt (by omega) (by omega)) ?_
    refine er_loc (pc' := 65) rfl rfl rfl ?_
    refine er_if_lt (pc' := 68) rfl rfl (fun h65 => ?_) (fun h65 => ?_)
    · refine er_loc (pc' := 73) rfl rfl rfl ?_
      refine er_k (pc' := 74) (nI 2) rfl rfl rfl ?_
      refine er_cIz (pc' := 77) (rest := []) 11 rfl rfl rfl rfl rfl rfl (l_error _ _ _ 2 (by decide)) ?_
      intro Z9
      refine er_iret rfl rfl ?_
      apply hP
      show LkP X f _
      unfold LkP
      rw [if_pos h65]
      exact ⟨_, _, rfl, X1, ho, rfl⟩
    · refine er_loc (pc' := 69) rfl rfl rfl ?_
      refine er_goto rfl ?_
      refine er_iret rfl rfl ?_
      apply hP
      show LkP X f _
      unfold LkP
      rw [if_neg h65]
      exact RO_of rfl ho
  | m + 1, i, X1, Z, f, l, x, hi, hx, ho, hP => by
    have h8 := jn8 hI
    have hi8 : i < 8 := by omega
    have hI1 : IJ T (jx X1 9) := by rw [ho.j9]; exact hI
    subst hx
    refine er_loc (pc' := 7) rfl rfl rfl ?_
    refine er_loc (pc' := 8) rfl rfl rfl ?_
    refine er_gf (pc' := 11) (_) rfl rfl rfl rfl rfl ?_
    refine er_gf (pc' := 14) (.int (X1 9 1)) rfl rfl rfl rfl rfl ?_
    rw [show X1 9 1 = nI (jn (jx X 9)) from by rw [ho 9 (by omega)]; exact hI.n.1]
    refine er_cm_geF (pc' := 17) rfl (nI_lt (by omega) (by omega)) rfl ?_
    refine er_loc (pc' := 18) rfl rfl rfl ?_
    refine er_gf (pc' := 21) (_) rfl rfl rfl rfl rfl ?_
    refine er_loc (pc' := 22) rfl rfl rfl ?_
    refine er_cIi (pc' := 25) (rest := []) 7 rfl rfl rfl rfl rfl rfl (l_isWrong _ j9 _ _ _) ?_
    have hw0 : sBit (jx X 9 0 7) (nI i) = sBit (X1 9 7) (nI i) := by rw [jx07, ho 9 (by omega)]
    refine er_if_eqb (pc' := 28) rfl rfl (fun h25 => ?_) (fun h25 => ?_)
    · refine er_loc (L' := [(3, .int (_ + nI 1)), (0, _), (1, _), (2, _)]) rfl rfl rfl ?_
      refine er_goto rfl ?_
      refine ER_loc [(0, _), (1, _), (2, _), (3, _)] rfl (List.forall_mem_cons.mpr ⟨rfl, List.forall_mem_cons.mpr ⟨rfl, List.forall_mem_cons.mpr ⟨rfl, List.forall_mem_cons.mpr ⟨rfl, fun _ h => absurd h List.not_mem_nil⟩⟩⟩⟩) rfl rfl ?_
      refine l_look_loop d hI hT9 P m (i + 1) _ _ _ _ _ (by omega) (nI_add i 1) ho ?_
      intro r hr; apply hP
      have e2 : lkF (jx X 9) (m + 1) i f l = lkF (jx X 9) m (i + 1) f l := by
        show (if _ then (if _ then _ else _) else _) = _
        rw [if_neg (by rw [hw0, h25]; simp)]
      rw [e2]
      exact hr
    · refine er_loc (pc' := 29) rfl rfl rfl ?_
      refine er_loc (pc' := 30) rfl rfl rfl ?_
      refine er_cIi (pc' := 33) (rest := []) 11 rfl rfl rfl rfl rfl rfl (l_isBlocked _ X1 Z (k := i) hI1 (by rw [ho.j9]; omega)) ?_
      have hb0 : sBlocked (jx X 9) i = sBlocked (jx X1 9) i := (sBlocked_ot ho).symm
      refine er_if_neb (pc' := 36) rfl rfl (fun h33 => ?_) (fun h33 => ?_)
      · refine er_loc (L' := [(3, .int (_ + nI 1)), (0, _), (1, _), (2, _)]) rfl rfl rfl ?_
        refine er_goto rfl ?_
        refine ER_loc [(0, _), (1, _), (2, _), (3, _)] rfl (List.forall_mem_cons.mpr ⟨rfl, List.forall_mem_cons.mpr ⟨rfl, List.forall_mem_cons.mpr ⟨rfl, List.forall_mem_cons.mpr ⟨rfl, fun _ h => absurd h List.not_mem_nil⟩⟩⟩⟩) rfl rfl ?_
        refine l_look_loop d hI hT9 P m (i + 1) _ _ _ _ _ (by omega) (nI_add i 1) ho ?_
        intro r hr; apply hP
        have e2 : lkF (jx X 9) (m + 1) i f l = lkF (jx X 9) m (i + 1) f l := by
          show (if _ then (if _ then _ else _) else _) = _
          rw [if_neg (by rw [hw0, h25, hb0, h33]; simp)]
        rw [e2]
        exact hr
      · refine er_loc (pc' := 37) rfl rfl rfl ?_
        refine er_loc (pc' := 38) rfl rfl rfl ?_
        refine er_cIo (pc' := 41) (rest := []) 11 rfl rfl rfl rfl rfl rfl (l_minutesBackTo _ hI1 hT9 (k := i) (by rw [ho.j9]; omega)) ?_
        intro X2 Z2 ho2
        have hg0 : sGoM (jx X 9) i = sGoM (jx X1 9) i := by rw [ho.j9]
        refine er_loc (pc' := 43) (L' := [(4, _), (0, _), (1, _), (2, _), (3, _)]) rfl rfl rfl ?_
        refine er_loc (pc' := 44) rfl rfl rfl ?_
        refine er_if_lt (pc' := 47) rfl rfl (fun h44 => ?_) (fun h44 => ?_)
        · refine er_loc (pc' := 54) rfl rfl rfl ?_
          refine er_loc (pc' := 55) (L' := [(1, _), (4, _), (0, _), (2, _), (3, _)]) rfl rfl rfl ?_
          refine er_loc (pc' := 57) rfl rfl rfl ?_
          refine er_loc (pc' := 58) (L' := [(2, _), (1, _), (4, _), (0, _), (3, _)]) rfl rfl rfl ?_
          refine er_loc (L' := [(3, .int (_ + nI 1)), (2, _), (1, _), (4, _), (0, _)]) rfl rfl rfl ?_
          refine er_goto rfl ?_
          refine ER_loc [(0, _), (1, _), (2, _), (3, _)] rfl (List.forall_mem_cons.mpr ⟨rfl, List.forall_mem_cons.mpr ⟨rfl, List.forall_mem_cons.mpr ⟨rfl, List.forall_mem_cons.mpr ⟨rfl, fun _ h => absurd h List.not_mem_nil⟩⟩⟩⟩) rfl rfl ?_
          refine l_look_loop d hI hT9 P m (i + 1) _ _ _ _ _ (by omega) (nI_add i 1) (ho.trans ho2) ?_
          intro r hr; apply hP
          have e2 : lkF (jx X 9) (m + 1) i f l = lkF (jx X 9) m (i + 1) (nI i) (sGoM (jx X 9) i) := by
            show (if _ then (if _ then _ else _) else _) = _
            rw [if_pos (by rw [hw0, h25, hb0, h33]; rfl), if_pos (Or.inl h44)]
          rw [e2, hg0]
          exact hr
        · refine er_loc (pc' := 49) rfl rfl rfl ?_
          refine er_loc (pc' := 50) rfl rfl rfl ?_
          refine er_cm_ge (pc' := 53) rfl rfl (fun h50 => ?_) (fun h50 => ?_)
          · refine er_loc (L' := [(3, .int (_ + nI 1)), (4, _), (0, _), (1, _), (2, _)]) rfl rfl rfl ?_
            refine er_goto rfl ?_
            refine ER_loc [(0, _), (1, _), (2, _), (3, _)] rfl (List.forall_mem_cons.mpr ⟨rfl, List.forall_mem_cons.mpr ⟨rfl, List.forall_mem_cons.mpr ⟨rfl, List.forall_mem_cons.mpr ⟨rfl, fun _ h => absurd h List.not_mem_nil⟩⟩⟩⟩) rfl rfl ?_
            refine l_look_loop d hI hT9 P m (i + 1) _ _ _ _ _ (by omega) (nI_add i 1) (ho.trans ho2) ?_
            intro r hr; apply hP
            have e2 : lkF (jx X 9) (m + 1) i f l = lkF (jx X 9) m (i + 1) f l := by
              show (if _ then (if _ then _ else _) else _) = _
              rw [if_pos (by rw [hw0, h25, hb0, h33]; rfl), if_neg (by rw [hg0]; exact fun q => q.elim h44 h50)]
            rw [e2]
            exact hr
          · refine er_loc (pc' := 54) rfl rfl rfl ?_
            refine er_loc (pc' := 55) (L' := [(1, _), (4, _), (0, _), (2, _), (3, _)]) rfl rfl rfl ?_
            refine er_loc (pc' := 57) rfl rfl rfl ?_
            refine er_loc (pc' := 58) (L' := [(2, _), (1, _), (4, _), (0, _), (3, _)]) rfl rfl rfl ?_
            refine er_loc (L' := [(3, .int (_ + nI 1)), (2, _), (1, _), (4, _), (0, _)]) rfl rfl rfl ?_
            refine er_goto rfl ?_
            refine ER_loc [(0, _), (1, _), (2, _), (3, _)] rfl (List.forall_mem_cons.mpr ⟨rfl, List.forall_mem_cons.mpr ⟨rfl, List.forall_mem_cons.mpr ⟨rfl, List.forall_mem_cons.mpr ⟨rfl, fun _ h => absurd h List.not_mem_nil⟩⟩⟩⟩) rfl rfl ?_
            refine l_look_loop d hI hT9 P m (i + 1) _ _ _ _ _ (by omega) (nI_add i 1) (ho.trans ho2) ?_
            intro r hr; apply hP
            have e2 : lkF (jx X 9) (m + 1) i f l = lkF (jx X 9) m (i + 1) (nI i) (sGoM (jx X 9) i) := by
              show (if _ then (if _ then _ else _) else _) = _
              rw [if_pos (by rw [hw0, h25, hb0, h33]; rfl), if_pos (Or.inr (by rw [hg0]; exact h50))]
            rw [e2, hg0]
            exact hr
set_option maxRecDepth 100000 in
set_option maxHeartbeats 4000000 in
theorem l_lookAt (d : Nat) (X Z : Nat → Nat → Int32) {T : Nat} (hI : IJ T (jx X 9)) (hT9 : T < 1000000) : EC (d + 7) 104 [.ref 0] (Wd X Z) (LkP X (lkF (jx X 9) (jn (jx X 9)) 0 (-1) (nI 0))) := by
  refine er_enter (L := [(0, _)]) rfl rfl rfl ?_
  refine er_k (pc' := 1) (-1) rfl rfl rfl ?_
  refine er_loc (pc' := 2) (L' := [(1, _), (0, _)]) rfl rfl rfl ?_
  refine er_k (pc' := 3) (nI 0) rfl rfl rfl ?_
  refine er_loc (pc' := 4) (L' := [(2, _), (1, _), (0, _)]) rfl rfl rfl ?_
  refine er_k (pc' := 5) (nI 0) rfl rfl rfl ?_
  refine er_loc (pc' := 6) (L' := [(3, _), (2, _), (1, _), (0, _)]) rfl rfl rfl ?_
  refine ER_loc [(0, _), (1, _), (2, _), (3, _)] rfl (List.forall_mem_cons.mpr ⟨rfl, List.forall_mem_cons.mpr ⟨rfl, List.forall_mem_cons.mpr ⟨rfl, List.forall_mem_cons.mpr ⟨rfl, fun _ h => absurd h List.not_mem_nil⟩⟩⟩⟩) rfl rfl ?_
  exact l_look_loop d hI hT9 _ (jn (jx X 9)) 0 X Z _ _ _ (by omega) rfl (OT.rf X) (fun _ h => h)
def sRight (J : Nat → Nat → Int32) (k : Nat) : Nat → Int32
  | 0 => nI 0
  | i + 1 => sRight J k i + (nI 1 - sErrsBy J (J 2 k) (nI i) (J 1 k))
def sRem (x y : Int32) : Int32 := x - x / y * y
def sRed : Nat → Int32 → Int32 → Int32 × Int32
  | 0, a, b => (a, b)
  | m + 1, a, b => if sRem a (nI (m + 2)) = 0 ∧ sRem b (nI (m + 2)) = 0 then sRed m (a / nI (m + 2)) (b / nI (m + 2)) else sRed m a b
def sOdds (J : Nat → Nat → Int32) (k : Nat) : Int32 × Int32 := sRed 9 (sRight J k 10) (nI 10)
set_option maxRecDepth 100000 in
set_option maxHeartbeats 4000000 in
theorem l_odd_loop (d : Nat) {X : Nat → Nat → Int32} {T : Nat} (hI : IJ T (jx X 9)) {k : Nat} (hk : k < jn (jx X 9)) (w : Int32) (P : ab_R → Prop) : ∀ (m i : Nat) (Z : Nat → Nat → Int32) (v x : Int32), i + m = 10 → x = nI i → v = sRight (jx X 9) k i → (∀ Z2 x2, ER (d + 3) tb_m108 76 [(0, .ref 0), (1, .int (nI k)), (2, .int w), (3, .int (sRight (jx X 9) k 10)), (4, .int x2)] [] (Wd X Z2) P) → ER (d + 3) tb_m108 31 [(0, .ref 0), (1, .int (nI k)), (2, .int w), (3, .int v), (4, .int x)] [] (Wd X Z) P
  | 0, i, Z, v, x, hi, hx, hv, hP => by
    have hi0 : i = 10 := by omega
    subst hx
    subst hv
    subst hi0
    refine er_loc (pc' := 33) rfl rfl rfl ?_
    refine er_k (pc' := 35) (nI 9) rfl rfl rfl ?_
    refine er_cm_gtT rfl (nI_lt (by omega) (by omega)) ?_
    exact hP Z _
  | m + 1, i, Z, v, x, hi, hx, hv, hP => by
    have h8 := jn8 hI
    have hk8 : k < 8 := by omega
    subst hx
    subst hv
    refine er_loc (pc' := 33) rfl rfl rfl ?_
    refine er_k (pc' := 35) (nI 9) rfl rfl rfl ?_
    refine er_cm_gtF (pc' := 38) rfl (nI_nlt (by omega) (by omega)) rfl ?_
    refine er_loc (pc' := 39) rfl rfl rfl ?_
    refine er_k (pc' := 40) (nI 1) rfl rfl rfl ?_
    refine er_loc (pc' := 41) rfl rfl rfl ?_
    refine er_gf (pc' := 44) (_) rfl rfl rfl rfl rfl ?_
    refine er_loc (pc' := 45) rfl rfl rfl ?_
    refine er_gf (pc' := 48) (_) rfl rfl rfl rfl rfl ?_
    refine er_gf (pc' := 51) (_) rfl rfl rfl rfl rfl ?_
    refine er_loc (pc' := 52) rfl rfl rfl ?_
    refine er_ia (pc' := 53) (k) rfl rfl rfl rfl (by omega) rfl rfl ?_
    refine er_loc (pc' := 55) rfl rfl rfl ?_
    refine er_loc (pc' := 56) rfl rfl rfl ?_
    refine er_gf (pc' := 59) (_) rfl rfl rfl rfl rfl ?_
    refine er_gf (pc' := 62) (_) rfl rfl rfl rfl rfl ?_
    refine er_loc (pc' := 63) rfl rfl rfl ?_
    refine er_ia (pc' := 64) (k) rfl rfl rfl rfl (by omega) rfl rfl ?_
    refine er_cIz (pc' := 67) (rest := [_, _]) 7 rfl rfl rfl rfl rfl rfl (l_errsBy _ j9 _ _ hI _ _ _) ?_
    intro Z1
    refine er_isub (pc' := 68) rfl rfl ?_
    refine er_iadd (pc' := 69) rfl rfl ?_
    refine er_loc (pc' := 70) (L' := [(3, _), (0, _), (1, _), (2, _), (4, _)]) rfl rfl rfl ?_
    refine er_loc (L' := [(4, .int (_ + nI 1)), (3, _), (0, _), (1, _), (2, _)]) rfl rfl rfl ?_
    refine er_goto rfl ?_
    refine ER_loc [(0, _), (1, _), (2, _), (3, _), (4, _)] rfl (List.forall_mem_cons.mpr ⟨rfl, List.forall_mem_cons.mpr ⟨rfl, List.forall_mem_cons.mpr ⟨rfl, List.forall_mem_cons.mpr ⟨rfl, List.forall_mem_cons.mpr ⟨rfl, fun _ h => absurd h List.not_mem_nil⟩⟩⟩⟩⟩) rfl rfl ?_
    refine l_odd_loop d hI hk w P m (i + 1) _ _ _ (by omega) (nI_add i 1) ?_ hP
    show _ = _ + (nI 1 - _)
    rw [jx2 hk8, jx1 hk8]
set_option maxRecDepth 100000 in
set_option maxHeartbeats 4000000 in
theorem l_red_loop (d : Nat) {X : Nat → Nat → Int32} (w : Int32) (P : ab_R → Prop) : ∀ (m : Nat) (p q x : Int32) (Z : Nat → Nat → Int32), x = nI (m + 1) → (∀ r, RI (if w = 0 then (sRed m p q).1 else (sRed m p q).2) X r → P r) ∧ m ≤ 9 → ER (d + 3) tb_m108 84 [(0, .ref 0), (2, .int w), (3, .int p), (4, .int q), (5, .int x)] [] (Wd X Z) P
  | 0, p, q, x, Z, hx, hP => by
    subst hx
    refine er_loc (pc' := 86) rfl rfl rfl ?_
    refine er_k (pc' := 87) (nI 1) rfl rfl rfl ?_
    refine er_cm_leT rfl (nI_nlt (by omega) (by omega)) ?_
    refine er_loc (pc' := 124) rfl rfl rfl ?_
    refine er_if_ne (pc' := 127) rfl rfl (fun h124 => ?_) (fun h124 => ?_)
    · refine er_loc (pc' := 133) rfl rfl rfl ?_
      refine er_iret rfl rfl ?_
      apply hP.1
      rw [if_neg h124]
      exact RI_of rfl rfl
    · refine er_loc (pc' := 128) rfl rfl rfl ?_
      refine er_goto rfl ?_
      refine er_iret rfl rfl ?_
      apply hP.1
      rw [if_pos h124]
      exact RI_of rfl rfl
  | m + 1, p, q, x, Z, hx, hP => by
    have hm9 := hP.2
    subst hx
    refine er_loc (pc' := 86) rfl rfl rfl ?_
    refine er_k (pc' := 87) (nI 1) rfl rfl rfl ?_
    refine er_cm_leF (pc' := 90) rfl (nI_lt (by omega) (by omega)) rfl ?_
    refine er_loc (pc' := 91) rfl rfl rfl ?_
    refine er_loc (pc' := 93) rfl rfl rfl ?_
    refine er_irem (pc' := 94) rfl rfl (by have := nI_ne0 (n := m + 2) (by omega) (by omega); exact this) ?_
    refine er_if_ne (pc' := 97) rfl rfl (fun h94 => ?_) (fun h94 => ?_)
    · refine er_loc (L' := [(5, .int (_ + (-1))), (0, _), (2, _), (3, _), (4, _)]) rfl rfl rfl ?_
      refine er_goto rfl ?_
      refine ER_loc [(0, _), (2, _), (3, _), (4, _), (5, _)] rfl (List.forall_mem_cons.mpr ⟨rfl, List.forall_mem_cons.mpr ⟨rfl, List.forall_mem_cons.mpr ⟨rfl, List.forall_mem_cons.mpr ⟨rfl, List.forall_mem_cons.mpr ⟨rfl, fun _ h => absurd h List.not_mem_nil⟩⟩⟩⟩⟩) rfl rfl ?_
      refine l_red_loop d w P m _ _ _ Z (by rw [nI_addm1 (by omega)]; rfl) ?_
      have e2 : sRed (m + 1) p q = sRed m p q := by
        show (if _ then _ else _) = _
        rw [if_neg (fun c => h94 c.1)]
      rw [← e2]
      exact ⟨hP.1, by omega⟩
    · refine er_loc (pc' := 99) rfl rfl rfl ?_
      refine er_loc (pc' := 101) rfl rfl rfl ?_
      refine er_irem (pc' := 102) rfl rfl (by have := nI_ne0 (n := m + 2) (by omega) (by omega); exact this) ?_
      refine er_if_ne (pc' := 105) rfl rfl (fun h102 => ?_) (fun h102 => ?_)
      · refine er_loc (L' := [(5, .int (_ + (-1))), (0, _), (2, _), (3, _), (4, _)]) rfl rfl rfl ?_
        refine er_goto rfl ?_
        refine ER_loc [(0, _), (2, _), (3, _), (4, _), (5, _)] rfl (List.forall_mem_cons.mpr ⟨rfl, List.forall_mem_cons.mpr ⟨rfl, List.forall_mem_cons.mpr ⟨rfl, List.forall_mem_cons.mpr ⟨rfl, List.forall_mem_cons.mpr ⟨rfl, fun _ h => absurd h List.not_mem_nil⟩⟩⟩⟩⟩) rfl rfl ?_
        refine l_red_loop d w P m _ _ _ Z (by rw [nI_addm1 (by omega)]; rfl) ?_
        have e2 : sRed (m + 1) p q = sRed m p q := by
          show (if _ then _ else _) = _
          rw [if_neg (fun c => h102 c.2)]
        rw [← e2]
        exact ⟨hP.1, by omega⟩
      · refine er_loc (pc' := 106) rfl rfl rfl ?_
        refine er_loc (pc' := 108) rfl rfl rfl ?_
        refine er_idiv (pc' := 109) rfl rfl (by have := nI_ne0 (n := m + 2) (by omega) (by omega); exact this) ?_
        refine er_loc (pc' := 110) (L' := [(3, _), (0, _), (2, _), (4, _), (5, _)]) rfl rfl rfl ?_
        refine er_loc (pc' := 112) rfl rfl rfl ?_
        refine er_loc (pc' := 114) rfl rfl rfl ?_
        refine er_idiv (pc' := 115) rfl rfl (by have := nI_ne0 (n := m + 2) (by omega) (by omega); exact this) ?_
        refine er_loc (pc' := 117) (L' := [(4, _), (3, _), (0, _), (2, _), (5, _)]) rfl rfl rfl ?_
        refine er_loc (L' := [(5, .int (_ + (-1))), (4, _), (3, _), (0, _), (2, _)]) rfl rfl rfl ?_
        refine er_goto rfl ?_
        refine ER_loc [(0, _), (2, _), (3, _), (4, _), (5, _)] rfl (List.forall_mem_cons.mpr ⟨rfl, List.forall_mem_cons.mpr ⟨rfl, List.forall_mem_cons.mpr ⟨rfl, List.forall_mem_cons.mpr ⟨rfl, List.forall_mem_cons.mpr ⟨rfl, fun _ h => absurd h List.not_mem_nil⟩⟩⟩⟩⟩) rfl rfl ?_
        refine l_red_loop d w P m _ _ _ Z (by rw [nI_addm1 (by omega)]; rfl) ?_
        have e2 : sRed (m + 1) p q = sRed m (p / nI (m + 2)) (q / nI (m + 2)) := by
          show (if _ then _ else _) = _
          rw [if_pos ⟨h94, h102⟩]
        rw [← e2]
        exact ⟨hP.1, by omega⟩
set_option maxRecDepth 100000 in
set_option maxHeartbeats 4000000 in
theorem l_odds (d : Nat) (X Z : Nat → Nat → Int32) {T : Nat} (hI : IJ T (jx X 9)) {k : Nat} (hk : k < jn (jx X 9)) (w : Int32) : EC (d + 4) 108 [.ref 0, .int (nI k), .int w] (Wd X Z) (fun r => if sIn w (nI 0) (nI 1) = true then RI (if w = 0 then (sOdds (jx X 9) k).1 else (sOdds (jx X 9) k).2) X r else RI (sErr 1) (xErr X 1) r) := by
  refine er_enter (L := [(0, _), (1, _), (2, _)]) rfl rfl rfl ?_
  refine er_loc (pc' := 1) rfl rfl rfl ?_
  refine er_gf (pc' := 4) (_) rfl rfl rfl rfl rfl ?_
  refine er_loc (pc' := 5) rfl rfl rfl ?_
  refine er_cIi (pc' := 8) (rest := []) 7 rfl rfl rfl rfl rfl rfl (l_has_t _ j9 _ _ hI hk) ?_
  refine er_if_eqF (pc' := 11) rfl (by decide +kernel) rfl ?_
  refine er_loc (pc' := 12) rfl rfl rfl ?_
  refine er_k (pc' := 13) (nI 0) rfl rfl rfl ?_
  refine er_k (pc' := 14) (nI 1) rfl rfl rfl ?_
  refine er_cSi (pc' := 17) (rest := []) rfl rfl rfl (l_within _ _ _ _ _) ?_
  refine er_if_neb (pc' := 20) rfl rfl (fun h17 => ?_) (fun h17 => ?_)
  · refine er_k (pc' := 27) (nI 0) rfl rfl rfl ?_
    refine er_loc (pc' := 28) (L' := [(3, _), (0, _), (1, _), (2, _)]) rfl rfl rfl ?_
    refine er_k (pc' := 29) (nI 0) rfl rfl rfl ?_
    refine er_loc (pc' := 31) (L' := [(4, _), (3, _), (0, _), (1, _), (2, _)]) rfl rfl rfl ?_
    refine ER_loc [(0, _), (1, _), (2, _), (3, _), (4, _)] rfl (List.forall_mem_cons.mpr ⟨rfl, List.forall_mem_cons.mpr ⟨rfl, List.forall_mem_cons.mpr ⟨rfl, List.forall_mem_cons.mpr ⟨rfl, List.forall_mem_cons.mpr ⟨rfl, fun _ h => absurd h List.not_mem_nil⟩⟩⟩⟩⟩) rfl rfl ?_
    refine l_odd_loop d hI hk w _ 10 0 Z _ _ (by omega) rfl rfl ?_
    intro Z2 x2
    refine er_k (pc' := 78) (nI 10) rfl rfl rfl ?_
    refine er_loc (L' := [(4, _), (0, _), (1, _), (2, _), (3, _)]) (pc' := 80) rfl rfl rfl ?_
    refine er_loc (pc' := 82) rfl rfl rfl ?_
    refine er_loc (L' := [(5, _), (4, _), (0, _), (1, _), (2, _), (3, _)]) (pc' := 84) rfl rfl rfl ?_
    refine ER_loc [(0, _), (2, _), (3, _), (4, _), (5, _)] rfl (List.forall_mem_cons.mpr ⟨rfl, List.forall_mem_cons.mpr ⟨rfl, List.forall_mem_cons.mpr ⟨rfl, List.forall_mem_cons.mpr ⟨rfl, List.forall_mem_cons.mpr ⟨rfl, fun _ h => absurd h List.not_mem_nil⟩⟩⟩⟩⟩) rfl rfl ?_
    refine l_red_loop d w _ 9 _ _ _ Z2 rfl ⟨fun r hr => ?_, by omega⟩
    rw [if_pos h17]
    exact hr
  · refine er_loc (pc' := 21) rfl rfl rfl ?_
    refine er_k (pc' := 22) (nI 1) rfl rfl rfl ?_
    refine er_cIz (pc' := 25) (rest := []) 11 rfl rfl rfl rfl rfl rfl (l_error _ _ _ 1 (by decide)) ?_
    intro Z9
    refine er_iret rfl rfl ?_
    rw [if_neg (by rw [h17]; decide)]
    exact RI_of rfl rfl
end
section
/-! THE FACE: whose, all, check, image, restore -/
def wh (J : Nat → Nat → Int32) (q : Int32) : Nat → Int32 → Int32 → Int32 × Int32
  | 0, f, l => (f, l)
  | s + 1, f, l => if (nI s &&& (J 0 6 ^^^ (-1))) = 0 ∧ sSum J (nI s) (jn J) = q then wh J q s (f + nI 1) (nI s) else wh J q s f l
def sWh (J : Nat → Nat → Int32) (q : Int32) : Int32 × Int32 := wh J q (2 ^ jn J) (nI 0) (-1)
def WhP (X : Nat → Nat → Int32) (w : Int32) (q : Int32 × Int32) : ab_R → Prop := fun r => if w = 0 then RI q.1 X r else if q.2 < 0 then RI (sErr 2) (xErr X 2) r else RI q.2 X r
theorem nIs_lt {s : Nat} : nI 0 - nI 1 < 0 := by decide +kernel
theorem pow_nI {n : Nat} (h : n ≤ 8) : nI 1 <<< (nI n &&& 31) - nI 1 = nI (2 ^ n) - nI 1 := fin_le (m := 8) (p := fun n => nI 1 <<< (nI n &&& 31) - nI 1 = nI (2 ^ n) - nI 1) h (by decide +kernel)
theorem pow_le {n : Nat} (h : n ≤ 8) : 2 ^ n ≤ 256 := Nat.pow_le_pow_right (by omega) h
set_option maxRecDepth 100000 in
set_option maxHeartbeats 4000000 in
theorem l_whose_loop (d : Nat) {X Z : Nat → Nat → Int32} {T : Nat} (hI : IJ T (jx X 9)) (q w : Int32) (P : ab_R → Prop) : ∀ (s : Nat) (f l x : Int32), x = nI s - nI 1 → s ≤ 256 → (∀ r, WhP X w (wh (jx X 9) q s f l) r → P r) → ER (d + 2) tb_m103 43 [(0, .ref 0), (1, .int q), (2, .int w), (3, .int f), (4, .int l), (5, .int x)] [] (Wd X Z) P
  | 0, f, l, x, hx, hs, hP => by
    subst hx
    refine er_loc (pc' := 45) rfl rfl rfl ?_
    refine er_if_ltT rfl (by decide +kernel) ?_
    refine er_loc (pc' := 90) rfl rfl rfl ?_
    refine er_if_ne (pc' := 93) rfl rfl (fun h90 => ?_) (fun h90 => ?_)
    · refine er_loc (pc' := 97) rfl rfl rfl ?_
      refine er_if_lt (pc' := 100) rfl rfl (fun h97 => ?_) (fun h97 => ?_)
      · refine er_loc (pc' := 106) rfl rfl rfl ?_
        refine er_k (pc' := 107) (nI 2) rfl rfl rfl ?_
        refine er_cIz (pc' := 110) (rest := []) 11 rfl rfl rfl rfl rfl rfl (l_error _ _ _ 2 (by decide)) ?_
        intro Z9
        refine er_iret rfl rfl ?_
        apply hP
        show WhP X w (f, l) _
        unfold WhP
        rw [if_neg h90, if_pos h97]
        exact RI_of rfl rfl
      · refine er_loc (pc' := 102) rfl rfl rfl ?_
        refine er_goto rfl ?_
        refine er_iret rfl rfl ?_
        apply hP
        show WhP X w (f, l) _
        unfold WhP
        rw [if_neg h90, if_neg h97]
        exact RI_of rfl rfl
    · refine er_loc (pc' := 94) rfl rfl rfl ?_
      refine er_iret rfl rfl ?_
      apply hP
      show WhP X w (f, l) _
      unfold WhP
      rw [if_pos h90]
      exact RI_of rfl rfl
  | s + 1, f, l, x, hx, hs, hP => by
    rw [nI_s1] at hx
    subst hx
    refine er_loc (pc' := 45) rfl rfl rfl ?_
    refine er_if_ltF (pc' := 48) rfl (nI_pos (by omega)) rfl ?_
    refine er_loc (pc' := 50) rfl rfl rfl ?_
    refine er_loc (pc' := 51) rfl rfl rfl ?_
    refine er_gf (pc' := 54) (_) rfl rfl rfl rfl rfl ?_
    refine er_gf (pc' := 57) (.int (X 9 6)) rfl rfl rfl rfl rfl ?_
    refine er_k (pc' := 58) (-1) rfl rfl rfl ?_
    refine er_ixor (pc' := 59) rfl rfl ?_
    refine er_iand (pc' := 60) rfl rfl ?_
    refine er_if_ne (pc' := 63) rfl rfl (fun h60 => ?_) (fun h60 => ?_)
    · refine er_loc (L' := [(5, .int (_ + (-1))), (0, _), (1, _), (2, _), (3, _), (4, _)]) rfl rfl rfl ?_
      refine er_goto rfl ?_
      refine ER_loc [(0, _), (1, _), (2, _), (3, _), (4, _), (5, _)] rfl (List.forall_mem_cons.mpr ⟨rfl, List.forall_mem_cons.mpr ⟨rfl, List.forall_mem_cons.mpr ⟨rfl, List.forall_mem_cons.mpr ⟨rfl, List.forall_mem_cons.mpr ⟨rfl, List.forall_mem_cons.mpr ⟨rfl, fun _ h => absurd h List.not_mem_nil⟩⟩⟩⟩⟩⟩) rfl rfl ?_
      refine l_whose_loop d hI q w P s _ _ _ (by rw [Int32.sub_eq_add_neg]; rfl) (by omega) ?_
      have e2 : wh (jx X 9) q (s + 1) f l = wh (jx X 9) q s f l := by
        show (if _ then _ else _) = _
        rw [if_neg (fun c => h60 c.1)]
      rw [← e2]
      exact hP
    · refine er_loc (pc' := 64) rfl rfl rfl ?_
      refine er_gf (pc' := 67) (_) rfl rfl rfl rfl rfl ?_
      refine er_loc (pc' := 69) rfl rfl rfl ?_
      refine er_cIi (pc' := 72) (rest := []) 7 rfl rfl rfl rfl rfl rfl (l_screwsOf _ j9 _ _ hI _) ?_
      refine er_loc (pc' := 73) rfl rfl rfl ?_
      refine er_cm_ne (pc' := 76) rfl rfl (fun h73 => ?_) (fun h73 => ?_)
      · refine er_loc (L' := [(5, .int (_ + (-1))), (0, _), (1, _), (2, _), (3, _), (4, _)]) rfl rfl rfl ?_
        refine er_goto rfl ?_
        refine ER_loc [(0, _), (1, _), (2, _), (3, _), (4, _), (5, _)] rfl (List.forall_mem_cons.mpr ⟨rfl, List.forall_mem_cons.mpr ⟨rfl, List.forall_mem_cons.mpr ⟨rfl, List.forall_mem_cons.mpr ⟨rfl, List.forall_mem_cons.mpr ⟨rfl, List.forall_mem_cons.mpr ⟨rfl, fun _ h => absurd h List.not_mem_nil⟩⟩⟩⟩⟩⟩) rfl rfl ?_
        refine l_whose_loop d hI q w P s _ _ _ (by rw [Int32.sub_eq_add_neg]; rfl) (by omega) ?_
        have e2 : wh (jx X 9) q (s + 1) f l = wh (jx X 9) q s f l := by
          show (if _ then _ else _) = _
          rw [if_neg (fun c => h73 c.2)]
        rw [← e2]
        exact hP
      · refine er_loc (pc' := 79) (L' := [(3, .int (_ + nI 1)), (0, _), (1, _), (2, _), (4, _), (5, _)]) rfl rfl rfl ?_
        refine er_loc (pc' := 81) rfl rfl rfl ?_
        refine er_loc (pc' := 83) (L' := [(4, _), (3, _), (0, _), (1, _), (2, _), (5, _)]) rfl rfl rfl ?_
        refine er_loc (L' := [(5, .int (_ + (-1))), (4, _), (3, _), (0, _), (1, _), (2, _)]) rfl rfl rfl ?_
        refine er_goto rfl ?_
        refine ER_loc [(0, _), (1, _), (2, _), (3, _), (4, _), (5, _)] rfl (List.forall_mem_cons.mpr ⟨rfl, List.forall_mem_cons.mpr ⟨rfl, List.forall_mem_cons.mpr ⟨rfl, List.forall_mem_cons.mpr ⟨rfl, List.forall_mem_cons.mpr ⟨rfl, List.forall_mem_cons.mpr ⟨rfl, fun _ h => absurd h List.not_mem_nil⟩⟩⟩⟩⟩⟩) rfl rfl ?_
        refine l_whose_loop d hI q w P s _ _ _ (by rw [Int32.sub_eq_add_neg]; rfl) (by omega) ?_
        have e2 : wh (jx X 9) q (s + 1) f l = wh (jx X 9) q s (f + nI 1) (nI s) := by
          show (if _ then _ else _) = _
          rw [if_pos ⟨by rw [show jx X 9 0 6 = X 9 6 from rfl]; exact h60, h73⟩]
        rw [← e2]
        exact hP
set_option maxRecDepth 100000 in
set_option maxHeartbeats 4000000 in
theorem l_whose (d : Nat) (X Z : Nat → Nat → Int32) {T : Nat} (hI : IJ T (jx X 9)) (q w : Int32) : EC (d + 3) 103 [.ref 0, .int q, .int w] (Wd X Z) (fun r => if (sIn q (nI 0) (nI 99) && sIn w (nI 0) (nI 1)) = true then WhP X w (sWh (jx X 9) q) r else RI (sErr 1) (xErr X 1) r) := by
  refine er_enter (L := [(0, _), (1, _), (2, _)]) rfl rfl rfl ?_
  have h8 := jn8 hI
  refine er_loc (pc' := 1) rfl rfl rfl ?_
  refine er_k (pc' := 2) (nI 0) rfl rfl rfl ?_
  refine er_k (pc' := 4) (nI 99) rfl rfl rfl ?_
  refine er_cSi (pc' := 7) (rest := []) rfl rfl rfl (l_within _ _ _ _ _) ?_
  refine er_if_eqb (pc' := 10) rfl rfl (fun h7 => ?_) (fun h7 => ?_)
  · refine er_loc (pc' := 20) rfl rfl rfl ?_
    refine er_k (pc' := 21) (nI 1) rfl rfl rfl ?_
    refine er_cIz (pc' := 24) (rest := []) 11 rfl rfl rfl rfl rfl rfl (l_error _ _ _ 1 (by decide)) ?_
    intro Z9
    refine er_iret rfl rfl ?_
    rw [if_neg (by first | (rw [h7]; simp; done) | (rw [h7, h16]; simp; done))]
    exact RI_of rfl rfl
  · refine er_loc (pc' := 11) rfl rfl rfl ?_
    refine er_k (pc' := 12) (nI 0) rfl rfl rfl ?_
    refine er_k (pc' := 13) (nI 1) rfl rfl rfl ?_
    refine er_cSi (pc' := 16) (rest := []) rfl rfl rfl (l_within _ _ _ _ _) ?_
    refine er_if_neb (pc' := 19) rfl rfl (fun h16 => ?_) (fun h16 => ?_)
    · refine er_k (pc' := 26) (nI 0) rfl rfl rfl ?_
      refine er_loc (pc' := 27) (L' := [(3, _), (0, _), (1, _), (2, _)]) rfl rfl rfl ?_
      refine er_k (pc' := 28) (-1) rfl rfl rfl ?_
      refine er_loc (pc' := 30) (L' := [(4, _), (3, _), (0, _), (1, _), (2, _)]) rfl rfl rfl ?_
      refine er_k (pc' := 31) (nI 1) rfl rfl rfl ?_
      refine er_loc (pc' := 32) rfl rfl rfl ?_
      refine er_gf (pc' := 35) (_) rfl rfl rfl rfl rfl ?_
      refine er_gf (pc' := 38) (.int (X 9 1)) rfl rfl rfl rfl rfl ?_
      rw [show X 9 1 = nI (jn (jx X 9)) from hI.n.1]
      refine er_ishl (pc' := 39) rfl rfl ?_
      refine er_k (pc' := 40) (nI 1) rfl rfl rfl ?_
      refine er_isub (pc' := 41) rfl rfl ?_
      rw [pow_nI h8]
      refine er_loc (pc' := 43) (L' := [(5, _), (4, _), (3, _), (0, _), (1, _), (2, _)]) rfl rfl rfl ?_
      refine ER_loc [(0, _), (1, _), (2, _), (3, _), (4, _), (5, _)] rfl (List.forall_mem_cons.mpr ⟨rfl, List.forall_mem_cons.mpr ⟨rfl, List.forall_mem_cons.mpr ⟨rfl, List.forall_mem_cons.mpr ⟨rfl, List.forall_mem_cons.mpr ⟨rfl, List.forall_mem_cons.mpr ⟨rfl, fun _ h => absurd h List.not_mem_nil⟩⟩⟩⟩⟩⟩) rfl rfl ?_
      refine l_whose_loop d hI q w _ (2 ^ jn (jx X 9)) _ _ _ rfl (pow_le h8) (fun r hr => ?_)
      rw [if_pos (by rw [h7, h16]; rfl)]
      exact hr
    · refine er_loc (pc' := 20) rfl rfl rfl ?_
      refine er_k (pc' := 21) (nI 1) rfl rfl rfl ?_
      refine er_cIz (pc' := 24) (rest := []) 11 rfl rfl rfl rfl rfl rfl (l_error _ _ _ 1 (by decide)) ?_
      intro Z9
      refine er_iret rfl rfl ?_
      rw [if_neg (by first | (rw [h7]; simp; done) | (rw [h7, h16]; simp; done))]
      exact RI_of rfl rfl
def jS (J : Nat → Nat → Int32) : Nat → Nat → Int32 := match sFirst J (jn J) 0 with
  | none => J
  | some k => jFin J k
def jIt (J : Nat → Nat → Int32) : Nat → Nat → Nat → Int32
  | 0 => J
  | i + 1 => jS (jIt J i)
def sAll (J : Nat → Nat → Int32) (w : Int32) : Int32 := if w = 0 then jIt J 8 0 10 - J 0 10 else if w = nI 1 then sOpen (jIt J 8) else sPop (jIt J 8 0 7)
theorem jS_none {J : Nat → Nat → Int32} (h : sFirst J (jn J) 0 = none) : jS J = J := by unfold jS; rw [h]
theorem jS_some {J : Nat → Nat → Int32} {k : Nat} (h : sFirst J (jn J) 0 = some k) : jS J = jFin J k := by unfold jS; rw [h]
theorem fI_neg : fI none < 0 := by decide +kernel
theorem fI_pos {k : Nat} (h : k < 100) : ¬ fI (some k) < 0 := nI_pos (by omega)
set_option maxRecDepth 100000 in
set_option maxHeartbeats 4000000 in
theorem l_all_loop (d : Nat) {X : Nat → Nat → Int32} {T0 : Nat} (hI : IJ T0 (jx X 9)) (w : Int32) (P : ab_R → Prop) : ∀ (m i T : Nat) (X1 Z : Nat → Nat → Int32) (x : Int32), i + m = 8 → x = nI i → OT X X1 → jx X1 35 = jIt (jx X 9) i → IJ T (jx X1 35) → T + 300 * m < 1000000000 → (∀ r, RO (sAll (jx X 9) w) X r → P r) → ER (d + 6) tb_m95 28 [(0, .ref 0), (1, .int w), (2, .int x)] [] (Wd X1 Z) P
  | 0, i, T, X1, Z, x, hi, hx, ho, hj, hI1, hb, hP => by
    have hi0 : i = 8 := by omega
    subst hx
    subst hi0
    refine er_loc (pc' := 29) rfl rfl rfl ?_
    refine er_k (pc' := 31) (nI 8) rfl rfl rfl ?_
    refine er_cm_geT rfl (nI_nlt (by omega) (by omega)) ?_
    refine er_loc (pc' := 61) rfl rfl rfl ?_
    refine er_if_ne (pc' := 64) rfl rfl (fun h61 => ?_) (fun h61 => ?_)
    · refine er_loc (pc' := 81) rfl rfl rfl ?_
      refine er_k (pc' := 82) (nI 1) rfl rfl rfl ?_
      refine er_cm_ne (pc' := 85) rfl rfl (fun h82 => ?_) (fun h82 => ?_)
      · refine er_loc (pc' := 96) rfl rfl rfl ?_
        refine er_gf (pc' := 99) (_) rfl rfl rfl rfl rfl ?_
        refine er_gf (pc' := 102) (.int (X1 35 7)) rfl rfl rfl rfl rfl ?_
        refine er_cSi (pc' := 105) (rest := []) rfl rfl rfl (l_bitCount _ _ _) ?_
        refine er_iret rfl rfl ?_
        apply hP
        refine RO_of ?_ ho
        unfold sAll
        rw [if_neg h61, if_neg h82, ← hj, jx07]
      · refine er_loc (pc' := 86) rfl rfl rfl ?_
        refine er_gf (pc' := 89) (_) rfl rfl rfl rfl rfl ?_
        refine er_cIi (pc' := 92) (rest := []) 7 rfl rfl rfl rfl rfl rfl (l_howManyOpen _ j35 _ _) ?_
        refine er_goto rfl ?_
        refine er_iret rfl rfl ?_
        apply hP
        refine RO_of ?_ ho
        unfold sAll
        rw [if_neg h61, if_pos h82, ← hj]
    · refine er_loc (pc' := 65) rfl rfl rfl ?_
      refine er_gf (pc' := 68) (_) rfl rfl rfl rfl rfl ?_
      refine er_gf (pc' := 71) (.int (X1 35 10)) rfl rfl rfl rfl rfl ?_
      refine er_loc (pc' := 72) rfl rfl rfl ?_
      refine er_gf (pc' := 75) (_) rfl rfl rfl rfl rfl ?_
      refine er_gf (pc' := 78) (.int (X1 9 10)) rfl rfl rfl rfl rfl ?_
      refine er_isub (pc' := 79) rfl rfl ?_
      refine er_iret rfl rfl ?_
      apply hP
      refine RO_of ?_ ho
      unfold sAll
      rw [if_pos h61, ← hj, jx010, jx010, ho 9 (by omega)]
  | m + 1, i, T, X1, Z, x, hi, hx, ho, hj, hI1, hb, hP => by
    subst hx
    refine er_loc (pc' := 29) rfl rfl rfl ?_
    refine er_k (pc' := 31) (nI 8) rfl rfl rfl ?_
    refine er_cm_geF (pc' := 34) rfl (nI_lt (by omega) (by omega)) rfl ?_
    refine er_loc (pc' := 35) rfl rfl rfl ?_
    refine er_gf (pc' := 38) (_) rfl rfl rfl rfl rfl ?_
    refine er_cIi (pc' := 41) (rest := []) 7 rfl rfl rfl rfl rfl rfl (l_leastThatMay _ j35 _ _ hI1) ?_
    rcases hq : sFirst (jx X1 35) (jn (jx X1 35)) 0 with _ | k
    · refine er_loc (L' := [(3, _), (0, _), (1, _), (2, _)]) (pc' := 42) rfl rfl rfl ?_
      refine er_loc (pc' := 43) rfl rfl rfl ?_
      refine er_if_ltT rfl fI_neg ?_
      refine er_loc (L' := [(2, .int (_ + nI 1)), (3, _), (0, _), (1, _)]) (pc' := 57) rfl rfl rfl ?_
      refine er_goto rfl ?_
      refine ER_loc [(0, _), (1, _), (2, _)] rfl (List.forall_mem_cons.mpr ⟨rfl, List.forall_mem_cons.mpr ⟨rfl, List.forall_mem_cons.mpr ⟨rfl, fun _ h => absurd h List.not_mem_nil⟩⟩⟩) rfl rfl ?_
      refine l_all_loop d hI w P m (i + 1) (T + 300) X1 _ _ (by omega) (nI_add i 1) ho ?_ (hI1.mono (by omega)) (by omega) hP
      rw [hj] at hq
      show _ = jS (jIt (jx X 9) i)
      rw [jS_none hq]
      exact hj
    · have hm := sFirst_some hq
      have hk := (mayDo_k hm).1
      have h8 := jn8 hI1
      refine er_loc (L' := [(3, _), (0, _), (1, _), (2, _)]) (pc' := 42) rfl rfl rfl ?_
      refine er_loc (pc' := 43) rfl rfl rfl ?_
      refine er_if_ltF (pc' := 46) rfl (fI_pos (by omega)) rfl ?_
      refine er_loc (pc' := 47) rfl rfl rfl ?_
      refine er_gf (pc' := 50) (_) rfl rfl rfl rfl rfl ?_
      refine er_loc (pc' := 51) rfl rfl rfl ?_
      refine er_cIv (pc' := 54) (rest := []) 7 rfl rfl rfl rfl rfl rfl (l_finish _ j35 _ _ hI1 (k := k) hk) ?_
      intro Z7
      refine er_loc (L' := [(2, .int (_ + nI 1)), (3, _), (0, _), (1, _)]) (pc' := 57) rfl rfl rfl ?_
      refine er_goto rfl ?_
      refine ER_loc [(0, _), (1, _), (2, _)] rfl (List.forall_mem_cons.mpr ⟨rfl, List.forall_mem_cons.mpr ⟨rfl, List.forall_mem_cons.mpr ⟨rfl, fun _ h => absurd h List.not_mem_nil⟩⟩⟩) rfl rfl ?_
      refine l_all_loop d hI w P m (i + 1) (T + 300) _ _ _ (by omega) (nI_add i 1) ho.fin ?_ ?_ (by omega) hP
      · rw [jx_xFin (by omega)]
        rw [hj] at hq ⊢
        show _ = jS (jIt (jx X 9) i)
        rw [jS_some hq]
      · rw [jx_xFin (by omega)]
        exact hI1.fin (by omega) hm
set_option maxRecDepth 100000 in
set_option maxHeartbeats 4000000 in
theorem l_all (d : Nat) (X Z : Nat → Nat → Int32) {T : Nat} (hI : IJ T (jx X 9)) (hT9 : T < 1000000) (w : Int32) : EC (d + 7) 95 [.ref 0, .int w] (Wd X Z) (fun r => if sIn w (nI 0) (nI 2) = true then RO (sAll (jx X 9) w) X r else RI (sErr 1) (xErr X 1) r) := by
  refine er_enter (L := [(0, _), (1, _)]) rfl rfl rfl ?_
  refine er_loc (pc' := 1) rfl rfl rfl ?_
  refine er_k (pc' := 2) (nI 0) rfl rfl rfl ?_
  refine er_k (pc' := 3) (nI 2) rfl rfl rfl ?_
  refine er_cSi (pc' := 6) (rest := []) rfl rfl rfl (l_within _ _ _ _ _) ?_
  refine er_if_neb (pc' := 9) rfl rfl (fun h6 => ?_) (fun h6 => ?_)
  · refine er_loc (pc' := 16) rfl rfl rfl ?_
    refine er_gf (pc' := 19) (_) rfl rfl rfl rfl rfl ?_
    refine er_loc (pc' := 20) rfl rfl rfl ?_
    refine er_gf (pc' := 23) (_) rfl rfl rfl rfl rfl ?_
    refine er_cIt (pc' := 26) (rest := []) 7 rfl rfl rfl rfl rfl rfl (l_take_35_9 _ _ _ hI) ?_
    intro X1 Z1 hj1 ho1
    refine er_k (pc' := 27) (nI 0) rfl rfl rfl ?_
    refine er_loc (pc' := 28) (L' := [(2, _), (0, _), (1, _)]) rfl rfl rfl ?_
    refine ER_loc [(0, _), (1, _), (2, _)] rfl (List.forall_mem_cons.mpr ⟨rfl, List.forall_mem_cons.mpr ⟨rfl, List.forall_mem_cons.mpr ⟨rfl, fun _ h => absurd h List.not_mem_nil⟩⟩⟩) rfl rfl ?_
    refine l_all_loop d hI w _ 8 0 T X1 Z1 _ (by omega) rfl ho1 hj1 (by rw [hj1]; exact hI) (by omega) (fun r hr => ?_)
    rw [if_pos h6]
    exact hr
  · refine er_loc (pc' := 10) rfl rfl rfl ?_
    refine er_k (pc' := 11) (nI 1) rfl rfl rfl ?_
    refine er_cIz (pc' := 14) (rest := []) 11 rfl rfl rfl rfl rfl rfl (l_error _ _ _ 1 (by decide)) ?_
    intro Z9
    refine er_iret rfl rfl ?_
    rw [if_neg (by rw [h6]; decide)]
    exact RI_of rfl rfl
def RT (v : Int32) (b p : Nat) (X : Nat → Nat → Int32) : ab_R → Prop := fun r => ∃ X' Z', r = (some (.int v), Wd X' Z') ∧ jx X' b = jx X p ∧ ∀ c, (c < b ∨ b + 12 < c) → X' c = X c
def RM (v : Int32) (X : Nat → Nat → Int32) : ab_R → Prop := fun r => ∃ X' Z', r = (some (.int v), Wd X' Z') ∧ jx X' 22 = jx X 9 ∧ ∀ c, (c < 22 ∨ 22 + 12 < c) → X' c = ud X 0 4 v c
set_option maxRecDepth 100000 in
set_option maxHeartbeats 4000000 in
theorem l_image (d : Nat) (X Z : Nat → Nat → Int32) {T : Nat} (hI : IJ T (jx X 9)) : EC (d + 3) 119 [.ref 0] (Wd X Z) (RM (X 0 4 + nI 1) X) := by
  refine er_enter (L := [(0, _)]) rfl rfl rfl ?_
  refine er_loc (pc' := 1) rfl rfl rfl ?_
  refine er_gf (pc' := 4) (_) rfl rfl rfl rfl rfl ?_
  refine er_loc (pc' := 5) rfl rfl rfl ?_
  refine er_gf (pc' := 8) (_) rfl rfl rfl rfl rfl ?_
  refine er_cIt (pc' := 11) (rest := []) 7 rfl rfl rfl rfl rfl rfl (l_take_22_9 _ _ _ hI) ?_
  intro X1 Z1 hj1 ho1
  refine er_loc (pc' := 12) rfl rfl rfl ?_
  refine er_pure (pc' := 13) rfl rfl rfl ?_
  refine er_gf (pc' := 16) (.int (X1 0 4)) rfl rfl rfl rfl rfl ?_
  rw [ho1 0 (by omega)]
  refine er_k (pc' := 17) (nI 1) rfl rfl rfl ?_
  refine er_iadd (pc' := 18) rfl rfl ?_
  refine er_pfIX (pc' := 21) 4 rfl rfl rfl rfl rfl rfl ?_
  refine er_loc (pc' := 22) rfl rfl rfl ?_
  refine er_gf (pc' := 25) (_) rfl rfl rfl rfl rfl ?_
  refine er_iret rfl rfl ?_
  refine ⟨_, _, rfl, ?_, ?_⟩
  · rw [jx_off (fun c hc _ => ud_ne (by omega))]; exact hj1
  · intro c hc
    by_cases h : c = 0
    · subst h; rw [ud_same, ud_same, ho1 0 (by omega)]
    · rw [ud_ne h, ud_ne h]; exact ho1 c hc
set_option maxRecDepth 100000 in
set_option maxHeartbeats 4000000 in
theorem l_restore (d : Nat) (X Z : Nat → Nat → Int32) {T : Nat} (hI : IJ T (jx X 22)) : EC (d + 3) 120 [.ref 0] (Wd X Z) (fun r => if X 0 4 = 0 then RI (sErr 2) (xErr X 2) r else RT (jx X 22 0 10) 9 22 X r) := by
  refine er_enter (L := [(0, _)]) rfl rfl rfl ?_
  refine er_loc (pc' := 1) rfl rfl rfl ?_
  refine er_gf (pc' := 4) (_) rfl rfl rfl rfl rfl ?_
  refine er_if_ne (pc' := 7) rfl rfl (fun h4 => ?_) (fun h4 => ?_)
  · refine er_loc (pc' := 14) rfl rfl rfl ?_
    refine er_gf (pc' := 17) (_) rfl rfl rfl rfl rfl ?_
    refine er_loc (pc' := 18) rfl rfl rfl ?_
    refine er_gf (pc' := 21) (_) rfl rfl rfl rfl rfl ?_
    refine er_cIt (pc' := 24) (rest := []) 7 rfl rfl rfl rfl rfl rfl (l_take_9_22 _ _ _ hI) ?_
    intro X1 Z1 hj1 ho1
    refine er_loc (pc' := 25) rfl rfl rfl ?_
    refine er_gf (pc' := 28) (_) rfl rfl rfl rfl rfl ?_
    refine er_gf (pc' := 31) (.int (X1 9 10)) rfl rfl rfl rfl rfl ?_
    refine er_iret rfl rfl ?_
    rw [if_neg h4]
    refine ⟨X1, Z1, ?_, hj1, ho1⟩
    rw [← hj1, jx010]
  · refine er_loc (pc' := 8) rfl rfl rfl ?_
    refine er_k (pc' := 9) (nI 2) rfl rfl rfl ?_
    refine er_cIz (pc' := 12) (rest := []) 11 rfl rfl rfl rfl rfl rfl (l_error _ _ _ 2 (by decide)) ?_
    intro Z9
    refine er_iret rfl rfl ?_
    rw [if_pos h4]
    exact RI_of rfl rfl
end
section
/-! THE FACE: check, draws, the tape -/
def ck (J : Nat → Nat → Int32) : Nat → Nat → (Nat → Nat → Int32) → Int32
  | 0, _, _ => nI 0
  | m + 1, i, K => match sFirst K (jn K) 0 with
    | none => nI 1 + nI i
    | some k => if jPass K k 0 10 = J 10 i then ck J m (i + 1) (jPass K k) else nI 1 + nI i
def sCheck (J : Nat → Nat → Int32) : Int32 := ck J (nN (J 0 16)) 0 J
def RC (v : Int32) (X : Nat → Nat → Int32) : ab_R → Prop := fun r => ∃ X1 Z', r = (some (.int v), Wd (ud X1 9 16 (nI 0)) Z') ∧ OT X X1
theorem ck_none {J K : Nat → Nat → Int32} {m i : Nat} (h : sFirst K (jn K) 0 = none) : ck J (m + 1) i K = nI 1 + nI i := by
  show (match sFirst K (jn K) 0 with
    | none => _
    | some k => _) = _
  rw [h]
theorem ck_some {J K : Nat → Nat → Int32} {m i k : Nat} (h : sFirst K (jn K) 0 = some k) : ck J (m + 1) i K = if jPass K k 0 10 = J 10 i then ck J m (i + 1) (jPass K k) else nI 1 + nI i := by
  show (match sFirst K (jn K) 0 with
    | none => _
    | some k => _) = _
  rw [h]
set_option maxRecDepth 100000 in
set_option maxHeartbeats 4000000 in
theorem l_check_end (d : Nat) {X : Nat → Nat → Int32} (v : Int32) (P : ab_R → Prop) (X1 Z : Nat → Nat → Int32) (x : Int32) (ho : OT X X1) (hP : ∀ r, RC v X r → P r) : ER (d + 5) tb_m122 83 [(0, .ref 0), (1, .int v), (2, .int x)] [] (Wd X1 Z) P := by
  refine er_loc (pc' := 84) rfl rfl rfl ?_
  refine er_gf (pc' := 87) (_) rfl rfl rfl rfl rfl ?_
  refine er_k (pc' := 88) (nI 0) rfl rfl rfl ?_
  refine er_pfIX (pc' := 91) 16 rfl rfl rfl rfl rfl rfl ?_
  refine er_loc (pc' := 92) rfl rfl rfl ?_
  refine er_iret rfl rfl ?_
  exact hP _ ⟨_, _, rfl, ho⟩
set_option maxRecDepth 100000 in
set_option maxHeartbeats 4000000 in
theorem l_check_out (d : Nat) {X : Nat → Nat → Int32} (i : Nat) (hi : i < 30) (n : Nat) (hn : n ≤ 30) (P : ab_R → Prop) (X1 Z : Nat → Nat → Int32) (x v : Int32) (hx : x = nI (i + 1)) (hv : v = nI 1 + nI i) (ho : OT X X1) (hw : X1 35 16 = nI n) (hP : ∀ r, RC v X r → P r) : ER (d + 5) tb_m122 15 [(0, .ref 0), (1, .int v), (2, .int x)] [] (Wd X1 Z) P := by
  subst hx
  refine er_loc (pc' := 16) rfl rfl rfl ?_
  refine er_loc (pc' := 17) rfl rfl rfl ?_
  refine er_gf (pc' := 20) (_) rfl rfl rfl rfl rfl ?_
  refine er_gf (pc' := 23) (.int (X1 35 16)) rfl rfl rfl rfl rfl ?_
  refine er_cm_ge (pc' := 26) rfl rfl (fun h23 => ?_) (fun h23 => ?_)
  · exact l_check_end d v P X1 Z _ ho hP
  · refine er_loc (pc' := 27) rfl rfl rfl ?_
    refine er_if_neT rfl ?_ ?_
    · rw [hv, nI_add]
      exact nI_ne0 (by omega) (by omega)
    · exact l_check_end d v P X1 Z _ ho hP
set_option maxRecDepth 100000 in
set_option maxHeartbeats 4000000 in
theorem l_check_loop (d : Nat) {X : Nat → Nat → Int32} {T0 : Nat} (hI : IJ T0 (jx X 9)) (n : Nat) (hn : n ≤ 20) (P : ab_R → Prop) : ∀ (m i T : Nat) (X1 Z : Nat → Nat → Int32) (x : Int32), i + m = n → x = nI i → OT X X1 → IJ T (jx X1 35) → X1 35 16 = nI n → (∀ j, jx X1 35 10 j = jx X 9 10 j) → T + 300 * m < 1000000000 → (∀ r, RC (ck (jx X 9) m i (jx X1 35)) X r → P r) → ER (d + 5) tb_m122 15 [(0, .ref 0), (1, .int (nI 0)), (2, .int x)] [] (Wd X1 Z) P
  | 0, i, T, X1, Z, x, hi, hx, ho, hI1, hw, hwt, hb, hP => by
    have hi0 : i = n := by omega
    subst hx
    subst hi0
    refine er_loc (pc' := 16) rfl rfl rfl ?_
    refine er_loc (pc' := 17) rfl rfl rfl ?_
    refine er_gf (pc' := 20) (_) rfl rfl rfl rfl rfl ?_
    refine er_gf (pc' := 23) (.int (X1 35 16)) rfl rfl rfl rfl rfl ?_
    rw [hw]
    refine er_cm_geT rfl (nI_nlt (by omega) (by omega)) ?_
    exact l_check_end d (nI 0) P X1 Z _ ho hP
  | m + 1, i, T, X1, Z, x, hi, hx, ho, hI1, hw, hwt, hb, hP => by
    subst hx
    have h8 := jn8 hI1
    refine er_loc (pc' := 16) rfl rfl rfl ?_
    refine er_loc (pc' := 17) rfl rfl rfl ?_
    refine er_gf (pc' := 20) (_) rfl rfl rfl rfl rfl ?_
    refine er_gf (pc' := 23) (.int (X1 35 16)) rfl rfl rfl rfl rfl ?_
    rw [hw]
    refine er_cm_geF (pc' := 26) rfl (nI_lt (by omega) (by omega)) rfl ?_
    refine er_loc (pc' := 27) rfl rfl rfl ?_
    refine er_if_neF (pc' := 30) rfl (by decide +kernel) rfl ?_
    refine er_loc (pc' := 31) rfl rfl rfl ?_
    refine er_gf (pc' := 34) (_) rfl rfl rfl rfl rfl ?_
    refine er_cIi (pc' := 37) (rest := []) 7 rfl rfl rfl rfl rfl rfl (l_leastThatMay _ j35 _ _ hI1) ?_
    rcases hq : sFirst (jx X1 35) (jn (jx X1 35)) 0 with _ | k
    · refine er_loc (L' := [(3, _), (0, _), (1, _), (2, _)]) (pc' := 38) rfl rfl rfl ?_
      refine er_loc (pc' := 39) rfl rfl rfl ?_
      refine er_if_ltT rfl fI_neg ?_
      refine er_loc (pc' := 51) rfl rfl rfl ?_
      refine er_if_ltT rfl fI_neg ?_
      refine er_k (pc' := 74) (nI 1) rfl rfl rfl ?_
      refine er_loc (pc' := 75) rfl rfl rfl ?_
      refine er_iadd (pc' := 76) rfl rfl ?_
      refine er_loc (L' := [(1, _), (3, _), (0, _), (2, _)]) (pc' := 77) rfl rfl rfl ?_
      refine er_loc (L' := [(2, .int (_ + nI 1)), (1, _), (3, _), (0, _)]) (pc' := 80) rfl rfl rfl ?_
      refine er_goto rfl ?_
      refine ER_loc [(0, _), (1, _), (2, _)] rfl (List.forall_mem_cons.mpr ⟨rfl, List.forall_mem_cons.mpr ⟨rfl, List.forall_mem_cons.mpr ⟨rfl, fun _ h => absurd h List.not_mem_nil⟩⟩⟩) rfl rfl ?_
      refine l_check_out d i (by omega) n (by omega) P X1 _ _ _ (nI_add i 1) rfl ho hw ?_
      rw [ck_none hq] at hP
      exact hP
    · have hm := sFirst_some hq
      have hk := (mayDo_k hm).1
      refine er_loc (L' := [(3, _), (0, _), (1, _), (2, _)]) (pc' := 38) rfl rfl rfl ?_
      refine er_loc (pc' := 39) rfl rfl rfl ?_
      refine er_if_ltF (pc' := 42) rfl (fI_pos (by omega)) rfl ?_
      refine er_loc (pc' := 43) rfl rfl rfl ?_
      refine er_gf (pc' := 46) (_) rfl rfl rfl rfl rfl ?_
      refine er_loc (pc' := 47) rfl rfl rfl ?_
      refine er_cIv (pc' := 50) (rest := []) 7 rfl rfl rfl rfl rfl rfl (l_pass _ j35 _ _ hI1 (k := k) hk) ?_
      intro Z7
      have hj2 : jx (xPass X1 35 k) 35 = jPass (jx X1 35) k := jx_xPass (by omega)
      have ho2 : OT X (xPass X1 35 k) := ho.pass
      have hw2 : xPass X1 35 k 35 16 = nI n := by
        have e : jx (xPass X1 35 k) 35 0 16 = nI n := by rw [hj2]; exact (show jPass (jx X1 35) k 0 16 = nI n from by rw [← hw]; exact jx016)
        rw [jx016] at e
        exact e
      have hwt2 : ∀ j, jx (xPass X1 35 k) 35 10 j = jx X 9 10 j := fun j => by rw [hj2]; exact hwt j
      have hI2 : IJ (T + 300) (jx (xPass X1 35 k) 35) := by rw [hj2]; exact hI1.pass (by omega) hm
      have hmin : xPass X1 35 k 35 10 = jPass (jx X1 35) k 0 10 := by rw [← hj2, jx010]
      have hwi : xPass X1 35 k 47 i = jx X 9 10 i := by
        rw [← hwt2 i]
        exact (jx10 (b := 35) (by omega)).symm
      refine er_loc (pc' := 51) rfl rfl rfl ?_
      refine er_if_ltF (pc' := 54) rfl (fI_pos (by omega)) rfl ?_
      refine er_loc (pc' := 55) rfl rfl rfl ?_
      refine er_gf (pc' := 58) (_) rfl rfl rfl rfl rfl ?_
      refine er_gf (pc' := 61) (.int (xPass X1 35 k 35 10)) rfl rfl rfl rfl rfl ?_
      refine er_loc (pc' := 62) rfl rfl rfl ?_
      refine er_gf (pc' := 65) (_) rfl rfl rfl rfl rfl ?_
      refine er_gf (pc' := 68) (_) rfl rfl rfl rfl rfl ?_
      refine er_loc (pc' := 69) rfl rfl rfl ?_
      refine er_ia (pc' := 70) (i) rfl rfl rfl rfl (by omega) rfl rfl ?_
      rw [hmin, hwi]
      refine er_cm_eq (pc' := 73) rfl rfl (fun h70 => ?_) (fun h70 => ?_)
      · refine er_loc (L' := [(2, .int (_ + nI 1)), (3, _), (0, _), (1, _)]) (pc' := 80) rfl rfl rfl ?_
        refine er_goto rfl ?_
        refine ER_loc [(0, _), (1, _), (2, _)] rfl (List.forall_mem_cons.mpr ⟨rfl, List.forall_mem_cons.mpr ⟨rfl, List.forall_mem_cons.mpr ⟨rfl, fun _ h => absurd h List.not_mem_nil⟩⟩⟩) rfl rfl ?_
        refine l_check_loop d hI n hn P m (i + 1) (T + 300) _ _ _ (by omega) (nI_add i 1) ho2 hI2 hw2 hwt2 (by omega) ?_
        rw [ck_some hq, if_pos h70, ← hj2] at hP
        exact hP
      · refine er_k (pc' := 74) (nI 1) rfl rfl rfl ?_
        refine er_loc (pc' := 75) rfl rfl rfl ?_
        refine er_iadd (pc' := 76) rfl rfl ?_
        refine er_loc (L' := [(1, _), (3, _), (0, _), (2, _)]) (pc' := 77) rfl rfl rfl ?_
        refine er_loc (L' := [(2, .int (_ + nI 1)), (1, _), (3, _), (0, _)]) (pc' := 80) rfl rfl rfl ?_
        refine er_goto rfl ?_
        refine ER_loc [(0, _), (1, _), (2, _)] rfl (List.forall_mem_cons.mpr ⟨rfl, List.forall_mem_cons.mpr ⟨rfl, List.forall_mem_cons.mpr ⟨rfl, fun _ h => absurd h List.not_mem_nil⟩⟩⟩) rfl rfl ?_
        refine l_check_out d i (by omega) n (by omega) P _ _ _ _ (nI_add i 1) rfl ho2 hw2 ?_
        rw [ck_some hq, if_neg h70] at hP
        exact hP
set_option maxRecDepth 100000 in
set_option maxHeartbeats 4000000 in
theorem l_check (d : Nat) (X Z : Nat → Nat → Int32) {T : Nat} (hI : IJ T (jx X 9)) (hT9 : T < 1000000) : EC (d + 6) 122 [.ref 0] (Wd X Z) (RC (sCheck (jx X 9)) X) := by
  refine er_enter (L := [(0, _)]) rfl rfl rfl ?_
  refine er_k (pc' := 1) (nI 0) rfl rfl rfl ?_
  refine er_loc (pc' := 2) (L' := [(1, _), (0, _)]) rfl rfl rfl ?_
  refine er_loc (pc' := 3) rfl rfl rfl ?_
  refine er_gf (pc' := 6) (_) rfl rfl rfl rfl rfl ?_
  refine er_loc (pc' := 7) rfl rfl rfl ?_
  refine er_gf (pc' := 10) (_) rfl rfl rfl rfl rfl ?_
  refine er_cIt (pc' := 13) (rest := []) 7 rfl rfl rfl rfl rfl rfl (l_take_35_9 _ _ _ hI) ?_
  intro X1 Z1 hj1 ho1
  refine er_k (pc' := 14) (nI 0) rfl rfl rfl ?_
  refine er_loc (pc' := 15) (L' := [(2, _), (1, _), (0, _)]) rfl rfl rfl ?_
  obtain ⟨n, hn, hw⟩ := (isN_iff (by omega)).mp hI.waits
  have hnn : nN (jx X 9 0 16) = n := by rw [hw]; exact nN_nI (by omega)
  have hw1 : X1 35 16 = nI n := by
    have e : jx X1 35 0 16 = nI n := by rw [hj1]; exact hw
    rw [jx016] at e
    exact e
  refine ER_loc [(0, _), (1, _), (2, _)] rfl (List.forall_mem_cons.mpr ⟨rfl, List.forall_mem_cons.mpr ⟨rfl, List.forall_mem_cons.mpr ⟨rfl, fun _ h => absurd h List.not_mem_nil⟩⟩⟩) rfl rfl ?_
  refine l_check_loop d hI n hn _ n 0 T X1 Z1 _ (by omega) rfl ho1 (by rw [hj1]; exact hI) hw1 (fun j => by rw [hj1]) (by omega) (fun r hr => ?_)
  unfold sCheck
  rw [hj1] at hr
  rw [hnn]
  exact hr
def sPick (z : Int32) : Int32 := sDraw z - sDraw z / nI 8 * nI 8
def loS (J : Nat → Nat → Int32) (k : Nat) (c : Int32) : (Nat → Nat → Int32) × Int32 := if sMayDo J k = true then (jFin J k, c + nI 1) else if sMayUn J k = true then (jApart J k, c) else (ud J 0 10 (J 0 10 + nI 1), c)
def jZ (J : Nat → Nat → Int32) : Nat → Nat → Int32 := ud J 0 17 (sZ (J 0 17))
def loT (q : (Nat → Nat → Int32) × Int32) : (Nat → Nat → Int32) × Int32 := loS (jZ q.1) (nN (sPick (sZ (q.1 0 17)))) q.2
def itN {α : Type} (f : α → α) : Nat → α → α
  | 0, a => a
  | n + 1, a => itN f n (f a)
theorem itN_succ {α : Type} (f : α → α) (n : Nat) (a : α) : itN f (n + 1) a = itN f n (f a) := rfl
def RJ (v : Int32) (J : Nat → Nat → Int32) (X : Nat → Nat → Int32) : ab_R → Prop := fun r => ∃ X' Z', r = (some (.int v), Wd X' Z') ∧ jx X' 9 = J ∧ ∀ c, (c < 9 ∨ 9 + 12 < c) → X' c = X c
theorem pick8 (z : Int32) : ∃ k, k < 8 ∧ sPick z = nI k := by
  unfold sPick sDraw
  have h1 : (z.toUInt32 >>> ((nI 8).toUInt32 &&& Int32.toUInt32 31)).toInt32.toBitVec = z.toBitVec >>> 8 := by
    show (z.toUInt32 >>> ((nI 8).toUInt32 &&& Int32.toUInt32 31)).toBitVec = _
    rw [UInt32.toBitVec_shiftRight, shn_bv (by omega)]
    rfl
  obtain ⟨x, hx⟩ : ∃ x, x = (z.toUInt32 >>> ((nI 8).toUInt32 &&& Int32.toUInt32 31)).toInt32 := ⟨_, rfl⟩
  rw [← hx] at h1 ⊢
  have h2 : (x.toBitVec).toNat < 2 ^ 24 := by
    rw [h1, BitVec.toNat_ushiftRight, Nat.shiftRight_eq_div_pow]
    have := z.toBitVec.isLt
    omega
  have h3 : x = nI x.toBitVec.toNat := by
    apply Int32.toBitVec_inj.mp
    show _ = (Int32.ofNat _).toBitVec
    rw [Int32.toBitVec_ofNat']
    simp
  generalize x.toBitVec.toNat = n at h2 h3
  subst h3
  have h4 : nI n / nI 8 = nI (n / 8) := by
    apply Int32.toInt_inj.mp
    rw [Int32.toInt_div_of_ne_right, nI_toInt (by omega), nI_toInt (by omega), nI_toInt (by omega)]
    · exact (Int.ofNat_tdiv n 8).symm
    · decide +kernel
  refine ⟨n % 8, by omega, ?_⟩
  rw [h4, nI_mul, nI_sub (by omega)]
  congr 1
  omega
end
section
/-! THE FACE: draws, the tape -/
theorem sMayDo_no {J : Nat → Nat → Int32} {k : Nat} (h : ¬ k < jn J) : sMayDo J k = false := by
  unfold sMayDo
  rw [decide_eq_false h]
  rfl
theorem sMayUn_no {J : Nat → Nat → Int32} {k : Nat} (h : ¬ k < jn J) : sMayUn J k = false := by
  unfold sMayUn
  rw [decide_eq_false h]
  rfl
set_option maxRecDepth 100000 in
set_option maxHeartbeats 4000000 in
theorem l_mayBeDone_f (d : Nat) {b : Nat} (hb : jb b) (X Z : Nat → Nat → Int32) {T : Nat} (hI : IJ T (jx X b)) {k : Nat} (hk : ¬ k < jn (jx X b)) (h100 : k < 100) : EC (d + 3) 41 [.ref b, .int (nI k)] (Wd X Z) (PI (bI (sMayDo (jx X b) k)) (Wd X Z)) := by
  refine er_enter (L := [(0, _), (1, _)]) rfl rfl rfl ?_
  refine er_loc (pc' := 1) rfl rfl rfl ?_
  refine er_loc (pc' := 2) rfl rfl rfl ?_
  refine er_cIi (pc' := 5) (rest := []) 7 rfl rfl rfl (blt_J hb 0 rfl) (cO_J0 hb _ _) rfl (l_has_f _ hb _ _ hI hk h100) ?_
  refine er_if_eqT rfl (by decide +kernel) ?_
  refine er_k (pc' := 17) (nI 0) rfl rfl rfl ?_
  refine er_ret _ rfl rfl ?_
  exact PI_of (bI_eq0 (sMayDo_no hk))
theorem l_mayBeDone8 (d : Nat) {b : Nat} (hb : jb b) (X Z : Nat → Nat → Int32) {T : Nat} (hI : IJ T (jx X b)) {k : Nat} (h8 : k < 8) : EC (d + 3) 41 [.ref b, .int (nI k)] (Wd X Z) (PI (bI (sMayDo (jx X b) k)) (Wd X Z)) := by
  by_cases hk : k < jn (jx X b)
  · exact l_mayBeDone d hb X Z hI hk
  · exact l_mayBeDone_f d hb X Z hI hk (by omega)
set_option maxRecDepth 100000 in
set_option maxHeartbeats 4000000 in
theorem l_mayBeUndone_f (d : Nat) {b : Nat} (hb : jb b) (X Z : Nat → Nat → Int32) {T : Nat} (hI : IJ T (jx X b)) {k : Nat} (hk : ¬ k < jn (jx X b)) (h100 : k < 100) : EC (d + 3) 42 [.ref b, .int (nI k)] (Wd X Z) (PI (bI (sMayUn (jx X b) k)) (Wd X Z)) := by
  refine er_enter (L := [(0, _), (1, _)]) rfl rfl rfl ?_
  refine er_loc (pc' := 1) rfl rfl rfl ?_
  refine er_loc (pc' := 2) rfl rfl rfl ?_
  refine er_cIi (pc' := 5) (rest := []) 7 rfl rfl rfl (blt_J hb 0 rfl) (cO_J0 hb _ _) rfl (l_has_f _ hb _ _ hI hk h100) ?_
  refine er_if_eqT rfl (by decide +kernel) ?_
  refine er_k (pc' := 28) (nI 0) rfl rfl rfl ?_
  refine er_ret _ rfl rfl ?_
  exact PI_of (bI_eq0 (sMayUn_no hk))
theorem l_mayBeUndone8 (d : Nat) {b : Nat} (hb : jb b) (X Z : Nat → Nat → Int32) {T : Nat} (hI : IJ T (jx X b)) {k : Nat} (h8 : k < 8) : EC (d + 3) 42 [.ref b, .int (nI k)] (Wd X Z) (PI (bI (sMayUn (jx X b) k)) (Wd X Z)) := by
  by_cases hk : k < jn (jx X b)
  · exact l_mayBeUndone d hb X Z hI hk
  · exact l_mayBeUndone_f d hb X Z hI hk (by omega)
def O9 (X X' : Nat → Nat → Int32) : Prop := ∀ c, (c < 9 ∨ 9 + 12 < c) → X' c = X c
theorem O9.rf (X : Nat → Nat → Int32) : O9 X X := fun _ _ => rfl
theorem O9.ud {X X' : Nat → Nat → Int32} (h : O9 X X') {c k : Nat} {v : Int32} (hc : 9 ≤ c ∧ c ≤ 21) : O9 X (ud X' c k v) := fun q hq => by rw [ud_ne (by omega)]; exact h q hq
theorem O9.fin {X X' : Nat → Nat → Int32} (h : O9 X X') {k : Nat} : O9 X (xFin X' 9 k) := fun q hq => by rw [xFin_off (by omega)]; exact h q hq
theorem O9.apart {X X' : Nat → Nat → Int32} (h : O9 X X') {k : Nat} : O9 X (xApart X' 9 k) := fun q hq => by rw [xApart_off (by omega)]; exact h q hq
theorem IJ.loS {T : Nat} {J : Nat → Nat → Int32} (h : IJ T J) (hT : T < 1000000000) (k : Nat) (c : Int32) : IJ (T + 300) (loS J k c).1 := by
  show IJ (T + 300) (if _ then _ else if _ then _ else _ : (Nat → Nat → Int32) × Int32).1
  split
  · rename_i hm; exact h.fin (by omega) hm
  · split
    · rename_i hm; exact h.apart (by omega) hm
    · exact h.uMin ((h.minute.add (isN.of (Nat.le_refl 1) (by omega)) (by omega)).mono (by omega))
set_option maxRecDepth 100000 in
set_option maxHeartbeats 4000000 in
theorem l_loose_loop (d : Nat) {X : Nat → Nat → Int32} (P : ab_R → Prop) (n : Nat) : ∀ (m i T : Nat) (X1 Z : Nat → Nat → Int32) (c x : Int32), i + m = n ∧ n ≤ 40 → x = nI i → O9 X X1 → IJ T (jx X1 9) → T + 300 * m < 1000000 → (∀ r, RJ (itN loT m (jx X1 9, c)).2 (itN loT m (jx X1 9, c)).1 X r → P r) → ER (d + 6) tb_m93 44 [(0, .ref 0), (1, .int (nI n)), (2, .int c), (3, .int x)] [] (Wd X1 Z) P
  | 0, i, T, X1, Z, c, x, hi, hx, ho, hI1, hb, hP => by
    have hi0 : i = n := by omega
    subst hx
    subst hi0
    refine er_loc (pc' := 45) rfl rfl rfl ?_
    refine er_loc (pc' := 46) rfl rfl rfl ?_
    refine er_cm_geT rfl (nI_nlt (by omega) (by omega)) ?_
    refine er_loc (pc' := 132) rfl rfl rfl ?_
    refine er_iret rfl rfl ?_
    exact hP _ ⟨X1, Z, rfl, rfl, ho⟩
  | m + 1, i, T, X1, Z, c, x, hi, hx, ho, hI1, hb, hP => by
    subst hx
    refine er_loc (pc' := 45) rfl rfl rfl ?_
    refine er_loc (pc' := 46) rfl rfl rfl ?_
    refine er_cm_geF (pc' := 49) rfl (nI_lt (by omega) (by omega)) rfl ?_
    refine er_loc (pc' := 50) rfl rfl rfl ?_
    refine er_gf (pc' := 53) (_) rfl rfl rfl rfl rfl ?_
    refine er_cIz (pc' := 56) (rest := []) 7 rfl rfl rfl rfl rfl rfl (l_draw _ j9 _ _) ?_
    intro Z1
    obtain ⟨Y, hY⟩ : ∃ Y, Y = ud X1 9 17 (sZ (X1 9 17)) := ⟨_, rfl⟩
    have hjY : jx Y 9 = jZ (jx X1 9) := by rw [hY, jx_ud0 rfl]; unfold jZ; rw [jx017]
    have hIY : IJ T (jx Y 9) := by rw [hjY]; exact hI1.uZ
    have hoY : O9 X Y := by rw [hY]; exact ho.ud (by omega)
    obtain ⟨k, hk8, hk⟩ := pick8 (sZ (X1 9 17))
    have hks : nN (sPick (sZ (jx X1 9 0 17))) = k := by rw [jx017, hk]; exact nN_nI (by omega)
    have eT : loT (jx X1 9, c) = loS (jx Y 9) k c := by
      unfold loT
      rw [hks, ← hjY]
    rw [← hY]
    refine er_k (pc' := 58) (nI 8) rfl rfl rfl ?_
    refine er_irem (pc' := 59) rfl rfl (by decide) ?_
    rw [show sDraw (sZ (X1 9 17)) - sDraw (sZ (X1 9 17)) / nI 8 * nI 8 = nI k from hk]
    refine er_loc (L' := [(4, _), (0, _), (1, _), (2, _), (3, _)]) (pc' := 61) rfl rfl rfl ?_
    refine er_loc (pc' := 62) rfl rfl rfl ?_
    refine er_gf (pc' := 65) (_) rfl rfl rfl rfl rfl ?_
    refine er_loc (pc' := 67) rfl rfl rfl ?_
    refine er_cIi (pc' := 70) (rest := []) 7 rfl rfl rfl rfl rfl rfl (l_mayBeDone8 _ j9 _ _ hIY hk8) ?_
    refine er_if_eqb (pc' := 73) rfl rfl (fun h70 => ?_) (fun h70 => ?_)
    · refine er_loc (pc' := 89) rfl rfl rfl ?_
      refine er_gf (pc' := 92) (_) rfl rfl rfl rfl rfl ?_
      refine er_loc (pc' := 94) rfl rfl rfl ?_
      refine er_cIi (pc' := 97) (rest := []) 7 rfl rfl rfl rfl rfl rfl (l_mayBeUndone8 _ j9 _ _ hIY hk8) ?_
      refine er_if_eqb (pc' := 100) rfl rfl (fun h97 => ?_) (fun h97 => ?_)
      · have e2 : loS (jx Y 9) k c = (ud (jx Y 9) 0 10 (jx Y 9 0 10 + nI 1), c) := by
          unfold loS
          rw [if_neg (by rw [h70]; decide), if_neg (by rw [h97]; decide)]
        refine er_loc (pc' := 113) rfl rfl rfl ?_
        refine er_gf (pc' := 116) (_) rfl rfl rfl rfl rfl ?_
        refine er_pure (pc' := 117) rfl rfl rfl ?_
        refine er_gf (pc' := 120) (.int (Y 9 10)) rfl rfl rfl rfl rfl ?_
        refine er_k (pc' := 121) (nI 1) rfl rfl rfl ?_
        refine er_iadd (pc' := 122) rfl rfl ?_
        refine er_pfIX (pc' := 125) 10 rfl rfl rfl rfl rfl rfl ?_
        refine er_loc (L' := [(3, .int (_ + nI 1)), (4, _), (0, _), (1, _), (2, _)]) (pc' := 128) rfl rfl rfl ?_
        refine er_goto rfl ?_
        refine ER_loc [(0, _), (1, _), (2, _), (3, _)] rfl (List.forall_mem_cons.mpr ⟨rfl, List.forall_mem_cons.mpr ⟨rfl, List.forall_mem_cons.mpr ⟨rfl, List.forall_mem_cons.mpr ⟨rfl, fun _ h => absurd h List.not_mem_nil⟩⟩⟩⟩) rfl rfl ?_
        have hj3 : jx (ud Y 9 10 (Y 9 10 + nI 1)) 9 = (loS (jx Y 9) k c).1 := by
          rw [e2, jx_ud0 rfl, jx010]
        refine l_loose_loop d P n m (i + 1) (T + 300) _ _ c _ (by omega) (nI_add i 1) (hoY.ud (by omega)) ?_ (by omega) (fun r hr => hP r ?_)
        · rw [hj3]; exact IJ.loS hIY (by omega) _ _
        · rw [itN_succ, eT, e2, ← show jx (ud Y 9 10 (Y 9 10 + nI 1)) 9 = ud (jx Y 9) 0 10 (jx Y 9 0 10 + nI 1) from by rw [jx_ud0 rfl, jx010]]
          exact hr
      · have e2 : loS (jx Y 9) k c = (jApart (jx Y 9) k, c) := by
          unfold loS
          rw [if_neg (by rw [h70]; decide), if_pos h97]
        refine er_loc (pc' := 101) rfl rfl rfl ?_
        refine er_gf (pc' := 104) (_) rfl rfl rfl rfl rfl ?_
        refine er_loc (pc' := 106) rfl rfl rfl ?_
        refine er_cIv (pc' := 109) (rest := []) 7 rfl rfl rfl rfl rfl rfl (l_takeApart _ j9 _ _ hIY (k := k) (mayUn_k h97).1) ?_
        intro Z7
        refine er_goto rfl ?_
        refine er_loc (L' := [(3, .int (_ + nI 1)), (4, _), (0, _), (1, _), (2, _)]) (pc' := 128) rfl rfl rfl ?_
        refine er_goto rfl ?_
        refine ER_loc [(0, _), (1, _), (2, _), (3, _)] rfl (List.forall_mem_cons.mpr ⟨rfl, List.forall_mem_cons.mpr ⟨rfl, List.forall_mem_cons.mpr ⟨rfl, List.forall_mem_cons.mpr ⟨rfl, fun _ h => absurd h List.not_mem_nil⟩⟩⟩⟩) rfl rfl ?_
        have hj3 : jx (xApart Y 9 k) 9 = (loS (jx Y 9) k c).1 := by
          rw [e2, jx_xApart hk8]
        refine l_loose_loop d P n m (i + 1) (T + 300) _ _ c _ (by omega) (nI_add i 1) hoY.apart ?_ (by omega) (fun r hr => hP r ?_)
        · rw [hj3]; exact IJ.loS hIY (by omega) _ _
        · rw [itN_succ, eT, e2, ← jx_xApart hk8]
          exact hr
    · have e2 : loS (jx Y 9) k c = (jFin (jx Y 9) k, c + nI 1) := by
        unfold loS
        rw [if_pos h70]
      refine er_loc (pc' := 74) rfl rfl rfl ?_
      refine er_gf (pc' := 77) (_) rfl rfl rfl rfl rfl ?_
      refine er_loc (pc' := 79) rfl rfl rfl ?_
      refine er_cIv (pc' := 82) (rest := []) 7 rfl rfl rfl rfl rfl rfl (l_finish _ j9 _ _ hIY (k := k) (mayDo_k h70).1) ?_
      intro Z7
      refine er_loc (L' := [(2, .int (_ + nI 1)), (4, _), (0, _), (1, _), (3, _)]) (pc' := 85) rfl rfl rfl ?_
      refine er_goto rfl ?_
      refine er_loc (L' := [(3, .int (_ + nI 1)), (2, _), (4, _), (0, _), (1, _)]) (pc' := 128) rfl rfl rfl ?_
      refine er_goto rfl ?_
      refine ER_loc [(0, _), (1, _), (2, _), (3, _)] rfl (List.forall_mem_cons.mpr ⟨rfl, List.forall_mem_cons.mpr ⟨rfl, List.forall_mem_cons.mpr ⟨rfl, List.forall_mem_cons.mpr ⟨rfl, fun _ h => absurd h List.not_mem_nil⟩⟩⟩⟩) rfl rfl ?_
      have hj3 : jx (xFin Y 9 k) 9 = (loS (jx Y 9) k c).1 := by
        rw [e2, jx_xFin hk8]
      refine l_loose_loop d P n m (i + 1) (T + 300) _ _ (c + nI 1) _ (by omega) (nI_add i 1) hoY.fin ?_ (by omega) (fun r hr => hP r ?_)
      · rw [hj3]; exact IJ.loS hIY (by omega) _ _
      · rw [itN_succ, eT, e2, ← jx_xFin hk8]
        exact hr
def sLooseOk (J : Nat → Nat → Int32) (n : Int32) : Bool := !decide (99999 < J 0 10 + n * nI 300)
set_option maxRecDepth 100000 in
set_option maxHeartbeats 4000000 in
theorem l_loose (d : Nat) (X Z : Nat → Nat → Int32) {t : Nat} (hI : IJ t (jx X 9)) (ht : t < 100000) (n : Int32) : EC (d + 7) 93 [.ref 0, .int n] (Wd X Z) (fun r => if sIn n (nI 1) (nI 40) = true then (if sLooseOk (jx X 9) n = true then RJ (itN loT (nN n) (jx X 9, nI 0)).2 (itN loT (nN n) (jx X 9, nI 0)).1 X r else RI (sErr 3) (xErr X 3) r) else RI (sErr 1) (xErr X 1) r) := by
  refine er_enter (L := [(0, _), (1, _)]) rfl rfl rfl ?_
  refine er_loc (pc' := 1) rfl rfl rfl ?_
  refine er_k (pc' := 2) (nI 1) rfl rfl rfl ?_
  refine er_k (pc' := 4) (nI 40) rfl rfl rfl ?_
  refine er_cSi (pc' := 7) (rest := []) rfl rfl rfl (l_within _ _ _ _ _) ?_
  refine er_if_neb (pc' := 10) rfl rfl (fun h7 => ?_) (fun h7 => ?_)
  · refine er_loc (pc' := 17) rfl rfl rfl ?_
    refine er_gf (pc' := 20) (_) rfl rfl rfl rfl rfl ?_
    refine er_gf (pc' := 23) (.int (X 9 10)) rfl rfl rfl rfl rfl ?_
    refine er_loc (pc' := 24) rfl rfl rfl ?_
    refine er_k (pc' := 27) (nI 300) rfl rfl rfl ?_
    refine er_imul (pc' := 28) rfl rfl ?_
    refine er_iadd (pc' := 29) rfl rfl ?_
    refine er_ldc (pc' := 31) (99999) rfl rfl rfl rfl rfl ?_
    refine er_cm_le (pc' := 34) rfl rfl (fun h31 => ?_) (fun h31 => ?_)
    · refine er_k (pc' := 41) (nI 0) rfl rfl rfl ?_
      refine er_loc (pc' := 42) (L' := [(2, _), (0, _), (1, _)]) rfl rfl rfl ?_
      refine er_k (pc' := 43) (nI 0) rfl rfl rfl ?_
      refine er_loc (pc' := 44) (L' := [(3, _), (2, _), (0, _), (1, _)]) rfl rfl rfl ?_
      obtain ⟨j, h1j, h40j, hj⟩ := sIn_ex (by omega) (by omega) h7
      subst hj
      refine ER_loc [(0, _), (1, _), (2, _), (3, _)] rfl (List.forall_mem_cons.mpr ⟨rfl, List.forall_mem_cons.mpr ⟨rfl, List.forall_mem_cons.mpr ⟨rfl, List.forall_mem_cons.mpr ⟨rfl, fun _ h => absurd h List.not_mem_nil⟩⟩⟩⟩) rfl rfl ?_
      refine l_loose_loop d _ j j 0 t X Z (nI 0) _ ⟨by omega, h40j⟩ rfl (O9.rf X) hI (by omega) (fun r hr => ?_)
      rw [if_pos h7, if_pos (by unfold sLooseOk; rw [jx010]; simp [h31]), nN_nI (by omega)]
      exact hr
    · refine er_loc (pc' := 35) rfl rfl rfl ?_
      refine er_k (pc' := 36) (nI 3) rfl rfl rfl ?_
      refine er_cIz (pc' := 39) (rest := []) 11 rfl rfl rfl rfl rfl rfl (l_error _ _ _ 3 (by decide)) ?_
      intro Z9
      refine er_iret rfl rfl ?_
      rw [if_pos h7, if_neg (by unfold sLooseOk; rw [jx010]; simp [h31])]
      exact RI_of rfl rfl
  · refine er_loc (pc' := 11) rfl rfl rfl ?_
    refine er_k (pc' := 12) (nI 1) rfl rfl rfl ?_
    refine er_cIz (pc' := 15) (rest := []) 11 rfl rfl rfl rfl rfl rfl (l_error _ _ _ 1 (by decide)) ?_
    intro Z9
    refine er_iret rfl rfl ?_
    rw [if_neg (by rw [h7]; decide)]
    exact RI_of rfl rfl
end
section
/-! THE FACE: the tape, SHEETS -/
theorem jx_ud9 {X : Nat → Nat → Int32} {b k : Nat} {v : Int32} (h : k < 50) : jx (ud X (b + 11) k v) b = ud (jx X b) 9 k v := by
  funext i j
  unfold jx
  simp only [ud_at]
  match i with
  | 9 =>
    by_cases hj : j = k
    · subst hj; simp [h]
    · simp [hj]
  | 0 => simp
  | 1 => simp
  | 2 => simp
  | 3 => simp
  | 4 => simp
  | 5 => simp
  | 6 => simp
  | 7 => simp
  | 8 => simp
  | 10 => simp
  | i + 11 => simp; try omega
theorem jx_ud10 {X : Nat → Nat → Int32} {b k : Nat} {v : Int32} (h : k < 20) : jx (ud X (b + 12) k v) b = ud (jx X b) 10 k v := by
  funext i j
  unfold jx
  simp only [ud_at]
  match i with
  | 10 =>
    by_cases hj : j = k
    · subst hj; simp [h]
    · simp [hj]
  | 0 => simp
  | 1 => simp
  | 2 => simp
  | 3 => simp
  | 4 => simp
  | 5 => simp
  | 6 => simp
  | 7 => simp
  | 8 => simp
  | 9 => simp
  | i + 11 => simp; try omega
def sByte (w : Int64) (i : Nat) : Int32 := ((w.toUInt64 >>> ((nI 8 * nI i).toInt64.toUInt64 &&& Int64.toUInt64 63)).toInt64).toInt32 &&& nI 255
def xFeed (X : Nat → Nat → Int32) (w : Int64) (f : Nat) : Nat → Nat → Nat → Int32
  | 0 => X
  | i + 1 => ud (ud (xFeed X w f i) (9 + 11) (f + i) (sByte w i)) 9 14 (nI (f + i + 1))
def jFeed (J : Nat → Nat → Int32) (w : Int64) (f : Nat) : Nat → Nat → Nat → Int32
  | 0 => J
  | i + 1 => ud (ud (jFeed J w f i) 9 (f + i) (sByte w i)) 0 14 (nI (f + i + 1))
theorem jx_xFeed {X : Nat → Nat → Int32} {w : Int64} {f : Nat} : ∀ {i : Nat}, f + i ≤ 50 → jx (xFeed X w f i) 9 = jFeed (jx X 9) w f i
  | 0, _ => rfl
  | i + 1, h => by
    unfold xFeed jFeed
    rw [jx_ud0 rfl, jx_ud9 (by omega), jx_xFeed (by omega)]
theorem xFeed_off {X : Nat → Nat → Int32} {w : Int64} {f : Nat} : ∀ {i : Nat}, O9 X (xFeed X w f i)
  | 0 => O9.rf X
  | i + 1 => (xFeed_off.ud (by omega)).ud (by omega)
theorem IJ.uTape {T : Nat} {J : Nat → Nat → Int32} {v : Int32} (h : IJ T J) {k : Nat} (hv : isN v 255) : IJ T (ud J 9 k v) := ⟨h.n, h.kind, h.m, h.sc, h.needs, h.done, h.wrong, h.hands, h.bag, h.minute, h.tl, h.te, h.fed, h.waits, u1_all (p := fun x => isN x 255) h.tape hv⟩
theorem byte255 (x : Int32) : isN (x &&& nI 255) 255 := by
  have h1 : (x &&& nI 255).toBitVec.toNat ≤ 255 := by
    rw [Int32.toBitVec_and, BitVec.toNat_and, show (nI 255).toBitVec.toNat = 255 from by decide +kernel]
    exact Nat.and_le_right
  have h3 : (x &&& nI 255) = nI (x &&& nI 255).toBitVec.toNat := by
    apply Int32.toBitVec_inj.mp
    show _ = (Int32.ofNat _).toBitVec
    rw [Int32.toBitVec_ofNat']
    simp
  rw [h3]
  exact isN.of h1 (by omega)
theorem IJ.feed {T : Nat} {J : Nat → Nat → Int32} {w : Int64} {f : Nat} (h : IJ T J) : ∀ {i : Nat}, f + i ≤ 50 → IJ T (jFeed J w f i)
  | 0, _ => h
  | i + 1, hf => by
    unfold jFeed
    exact ((IJ.feed h (by omega)).uTape (byte255 _)).uFed (isN.of (by omega) (by omega))
theorem sIn_lt {i : Int32} {g : Nat} (hg : g < 2 ^ 31) (h : sIn i (nI 0) (nI g - nI 1) = true) : ∃ j, j < g ∧ i = nI j := by
  rcases Nat.eq_zero_or_pos g with h0 | h0
  · subst h0
    rw [show nI 0 - nI 1 = (-1) from by decide +kernel] at h
    unfold sIn at h
    simp only [Bool.and_eq_true, Bool.not_eq_true', decide_eq_false_iff_not, Int32.lt_iff_toInt_lt] at h
    have e0 : (nI 0).toInt = 0 := by decide +kernel
    have e1 : (-1 : Int32).toInt = -1 := by decide +kernel
    omega
  · rw [nI_sub h0] at h
    obtain ⟨j, _, h2, h3⟩ := sIn_ex (by omega) (by omega) h
    exact ⟨j, by omega, h3⟩
theorem lt4 {a : Nat} (h : a < 4) : a = 0 ∨ a = 1 ∨ a = 2 ∨ a = 3 := by omega
theorem cO_R {a : Nat} (h : a < 4) (x z : Nat → Int32) : cO (55 + a) x z = .inr (.inl (qa 40 x)) := by
  rcases lt4 h with rfl | rfl | rfl | rfl <;> rfl
theorem blt_R {a : Nat} (h : a < 4) : Nat.blt (55 + a) 79 = true := Nat.ble_eq_true_of_le (by omega)
set_option maxRecDepth 100000 in
set_option maxHeartbeats 4000000 in
theorem xFeed_14 {X : Nat → Nat → Int32} {w : Int64} {f : Nat} (hf : X 9 14 = nI f) : ∀ i, xFeed X w f i 9 14 = nI (f + i)
  | 0 => hf
  | i + 1 => rfl
theorem l_feed_loop (d : Nat) {X Z : Nat → Nat → Int32} {f : Nat} (hf : X 9 14 = nI f) (k : Nat) (h50 : f + k ≤ 50 ∧ k ≤ 8) (w : Int64) : ∀ (m i : Nat) (x : Int32), i + m = k → x = nI i → ER (d + 2) tb_m87 39 [(0, .ref 0), (1, .long w), (3, .int (nI k)), (4, .int x)] [] (Wd (xFeed X w f i) Z) (RI (nI (f + k)) (xFeed X w f k))
  | 0, i, x, hi, hx => by
    have hi0 : i = k := by omega
    have hfi := xFeed_14 (w := w) hf i
    subst hx
    subst hi0
    refine er_loc (pc' := 41) rfl rfl rfl ?_
    refine er_loc (pc' := 42) rfl rfl rfl ?_
    refine er_cm_geT rfl (nI_nlt (by omega) (by omega)) ?_
    refine er_loc (pc' := 92) rfl rfl rfl ?_
    refine er_gf (pc' := 95) (_) rfl rfl rfl rfl rfl ?_
    refine er_gf (pc' := 98) (.int (xFeed X w f i 9 14)) rfl rfl rfl rfl rfl ?_
    rw [hfi]
    refine er_iret rfl rfl ?_
    exact RI_of rfl rfl
  | m + 1, i, x, hi, hx => by
    have hfi := xFeed_14 (w := w) hf i
    subst hx
    refine er_loc (pc' := 41) rfl rfl rfl ?_
    refine er_loc (pc' := 42) rfl rfl rfl ?_
    refine er_cm_geF (pc' := 45) rfl (nI_lt (by omega) (by omega)) rfl ?_
    refine er_loc (pc' := 46) rfl rfl rfl ?_
    refine er_gf (pc' := 49) (_) rfl rfl rfl rfl rfl ?_
    refine er_gf (pc' := 52) (_) rfl rfl rfl rfl rfl ?_
    refine er_loc (pc' := 53) rfl rfl rfl ?_
    refine er_gf (pc' := 56) (_) rfl rfl rfl rfl rfl ?_
    refine er_gf (pc' := 59) (.int (xFeed X w f i 9 14)) rfl rfl rfl rfl rfl ?_
    rw [hfi]
    refine er_loc (pc' := 60) rfl rfl rfl ?_
    refine er_k (pc' := 62) (nI 8) rfl rfl rfl ?_
    refine er_loc (pc' := 64) rfl rfl rfl ?_
    refine er_imul (pc' := 65) rfl rfl ?_
    refine er_pure (pc' := 66) rfl rfl rfl ?_
    refine er_pure (pc' := 67) rfl rfl rfl ?_
    refine er_k (pc' := 70) (nI 255) rfl rfl rfl ?_
    refine er_iand (pc' := 71) rfl rfl ?_
    refine er_isX (pc' := 72) ((f + i)) rfl rfl (fun _ => rfl) (by simp only [nI_add, nI_mul]) (by omega) rfl rfl ?_
    refine er_loc (pc' := 73) rfl rfl rfl ?_
    refine er_gf (pc' := 76) (_) rfl rfl rfl rfl rfl ?_
    refine er_pure (pc' := 77) rfl rfl rfl ?_
    refine er_gf (pc' := 80) (.int (xFeed X w f i 9 14)) rfl rfl rfl rfl rfl ?_
    rw [hfi]
    refine er_k (pc' := 81) (nI 1) rfl rfl rfl ?_
    refine er_iadd (pc' := 82) rfl rfl ?_
    rw [nI_add]
    refine er_pfIX (pc' := 85) 14 rfl rfl rfl rfl rfl rfl ?_
    refine er_loc (L' := [(4, .int (_ + nI 1)), (0, _), (1, _), (3, _)]) rfl rfl rfl ?_
    refine er_goto rfl ?_
    refine ER_loc [(0, _), (1, _), (3, _), (4, _)] rfl (List.forall_mem_cons.mpr ⟨rfl, List.forall_mem_cons.mpr ⟨rfl, List.forall_mem_cons.mpr ⟨rfl, List.forall_mem_cons.mpr ⟨rfl, fun _ h => absurd h List.not_mem_nil⟩⟩⟩⟩) rfl rfl ?_
    have ih := l_feed_loop d (Z := Z) hf k h50 w m (i + 1) _ (by omega) (nI_add i 1)
    rw [show xFeed X w f (i + 1) = ud (ud (xFeed X w f i) (9 + 11) (f + i) (sByte w i)) 9 14 (nI (f + i + 1)) from rfl] at ih
    exact ih
set_option maxRecDepth 100000 in
set_option maxHeartbeats 4000000 in
theorem l_feed (d : Nat) (X Z : Nat → Nat → Int32) {f : Nat} (hf : X 9 14 = nI f) (h50 : f ≤ 50) (w : Int64) (n : Int32) : EC (d + 3) 87 [.ref 0, .long w, .int n] (Wd X Z) (fun r => if sIn n (nI 1) (nI 8) = true then (if f + nN n ≤ 50 then RI (nI (f + nN n)) (xFeed X w f (nN n)) r else RI (sErr 4) (xErr X 4) r) else RI (sErr 1) (xErr X 1) r) := by
  refine er_enter (L := [(0, _), (1, _), (3, _)]) rfl rfl rfl ?_
  refine er_loc (pc' := 1) rfl rfl rfl ?_
  refine er_k (pc' := 2) (nI 1) rfl rfl rfl ?_
  refine er_k (pc' := 4) (nI 8) rfl rfl rfl ?_
  refine er_cSi (pc' := 7) (rest := []) rfl rfl rfl (l_within _ _ _ _ _) ?_
  refine er_if_neb (pc' := 10) rfl rfl (fun h7 => ?_) (fun h7 => ?_)
  · obtain ⟨k, h1k, h8k, hk⟩ := sIn_ex (by omega) (by omega) h7
    subst hk
    refine er_loc (pc' := 17) rfl rfl rfl ?_
    refine er_gf (pc' := 20) (_) rfl rfl rfl rfl rfl ?_
    refine er_gf (pc' := 23) (.int (X 9 14)) rfl rfl rfl rfl rfl ?_
    rw [hf]
    refine er_loc (pc' := 24) rfl rfl rfl ?_
    refine er_iadd (pc' := 25) rfl rfl ?_
    rw [nI_add]
    refine er_k (pc' := 27) (nI 50) rfl rfl rfl ?_
    refine er_cm_le (pc' := 30) rfl rfl (fun h27 => ?_) (fun h27 => ?_)
    · have hle : f + k ≤ 50 := by
        rw [nI_ltI (by omega) (by omega)] at h27; omega
      refine er_k (pc' := 37) (nI 0) rfl rfl rfl ?_
      refine er_loc (pc' := 39) (L' := [(4, _), (0, _), (1, _), (3, _)]) rfl rfl rfl ?_
      refine ER_loc [(0, _), (1, _), (3, _), (4, _)] rfl (List.forall_mem_cons.mpr ⟨rfl, List.forall_mem_cons.mpr ⟨rfl, List.forall_mem_cons.mpr ⟨rfl, List.forall_mem_cons.mpr ⟨rfl, fun _ h => absurd h List.not_mem_nil⟩⟩⟩⟩) rfl rfl ?_
      refine ER.mono (l_feed_loop (d := d) (Z := Z) hf k ⟨hle, h8k⟩ w k 0 _ (by omega) rfl) (fun r hr => ?_)
      rw [if_pos h7, nN_nI (by omega), if_pos hle]
      exact hr
    · have hle : ¬ f + k ≤ 50 := by
        rw [nI_ltI (by omega) (by omega)] at h27; omega
      refine er_loc (pc' := 31) rfl rfl rfl ?_
      refine er_k (pc' := 32) (nI 4) rfl rfl rfl ?_
      refine er_cIz (pc' := 35) (rest := []) 11 rfl rfl rfl rfl rfl rfl (l_error _ _ _ 4 (by decide)) ?_
      intro Z9
      refine er_iret rfl rfl ?_
      rw [if_pos h7, nN_nI (by omega), if_neg hle]
      exact RI_of rfl rfl
  · refine er_loc (pc' := 11) rfl rfl rfl ?_
    refine er_k (pc' := 12) (nI 1) rfl rfl rfl ?_
    refine er_cIz (pc' := 15) (rest := []) 11 rfl rfl rfl rfl rfl rfl (l_error _ _ _ 1 (by decide)) ?_
    intro Z9
    refine er_iret rfl rfl ?_
    rw [if_neg (by rw [h7]; decide)]
    exact RI_of rfl rfl
def sLow (v b : Int32) : Int32 := if b = nI 8 then v &&& nI 255 else if b = nI 16 then v &&& 65535 else v
def sStand (g : Nat) (i n : Int32) : Bool := sIn i (nI 0) (nI g) && sIn n (nI 0) (nI g - i)
set_option maxRecDepth 100000 in
set_option maxHeartbeats 4000000 in
theorem l_lowestBits (d : Nat) (v b : Int32) (w : ab_W) : EC (d + 1) 114 [.int v, .int b] w (PI (sLow v b) w) := by
  refine er_enter (L := [(0, _), (1, _)]) rfl rfl rfl ?_
  refine er_loc (pc' := 1) rfl rfl rfl ?_
  refine er_k (pc' := 3) (nI 8) rfl rfl rfl ?_
  refine er_cm_ne (pc' := 6) rfl rfl (fun h3 => ?_) (fun h3 => ?_)
  · refine er_loc (pc' := 13) rfl rfl rfl ?_
    refine er_k (pc' := 15) (nI 16) rfl rfl rfl ?_
    refine er_cm_ne (pc' := 18) rfl rfl (fun h15 => ?_) (fun h15 => ?_)
    · refine er_loc (pc' := 27) rfl rfl rfl ?_
      refine er_iret rfl rfl ?_
      refine PI_of ?_
      unfold sLow
      first | rw [if_pos h3] | rw [if_neg h3, if_pos h15] | rw [if_neg h3, if_neg h15]
    · refine er_loc (pc' := 19) rfl rfl rfl ?_
      refine er_ldc (pc' := 22) (65535) rfl rfl rfl rfl rfl ?_
      refine er_iand (pc' := 23) rfl rfl ?_
      refine er_goto rfl ?_
      refine er_iret rfl rfl ?_
      refine PI_of ?_
      unfold sLow
      first | rw [if_pos h3] | rw [if_neg h3, if_pos h15] | rw [if_neg h3, if_neg h15]
  · refine er_loc (pc' := 7) rfl rfl rfl ?_
    refine er_k (pc' := 10) (nI 255) rfl rfl rfl ?_
    refine er_iand (pc' := 11) rfl rfl ?_
    refine er_iret rfl rfl ?_
    refine PI_of ?_
    unfold sLow
    first | rw [if_pos h3] | rw [if_neg h3, if_pos h15] | rw [if_neg h3, if_neg h15]
set_option maxRecDepth 100000 in
set_option maxHeartbeats 4000000 in
theorem l_put_no (d : Nat) (X Z : Nat → Nat → Int32) (s i v : Int32) (hs : sIn s (nI 0) (nI 3) = false) : EC (d + 3) 113 [.ref 0, .int s, .int i, .int v] (Wd X Z) (RI (sErr 1) (xErr X 1)) := by
  refine er_enter (L := [(0, _), (1, _), (2, _), (3, _)]) rfl rfl rfl ?_
  refine er_loc (pc' := 1) rfl rfl rfl ?_
  refine er_cSi (pc' := 4) (rest := []) rfl rfl rfl (l_xSheet _ _ _) ?_
  rw [hs]
  refine er_if_neF (pc' := 7) rfl (by decide +kernel) rfl ?_
  refine er_loc (pc' := 8) rfl rfl rfl ?_
  refine er_k (pc' := 9) (nI 1) rfl rfl rfl ?_
  refine er_cIz (pc' := 12) (rest := []) 11 rfl rfl rfl rfl rfl rfl (l_error _ _ _ 1 (by decide)) ?_
  intro Z9
  refine er_iret rfl rfl ?_
  exact RI_of rfl rfl
set_option maxRecDepth 100000 in
set_option maxHeartbeats 4000000 in
theorem l_put (d : Nat) (X Z : Nat → Nat → Int32) {a : Nat} (ha : a < 4) (i v : Int32) {g : Nat} (hg : X 59 a = nI g) (h40 : g ≤ 40) : EC (d + 3) 113 [.ref 0, .int (nI a), .int i, .int v] (Wd X Z) (fun r => if X 60 a = 0 then RI (sErr 2) (xErr X 2) r else if sIn i (nI 0) (nI g - nI 1) = true then RI (nI 1) (ud X (55 + a) (nN i) (sLow v (X 60 a))) r else RI (sErr 1) (xErr X 1) r) := by
  refine er_enter (L := [(0, _), (1, _), (2, _), (3, _)]) rfl rfl rfl ?_
  refine er_loc (pc' := 1) rfl rfl rfl ?_
  refine er_cSi (pc' := 4) (rest := []) rfl rfl rfl (l_xSheet _ _ _) ?_
  rw [show sIn (nI a) (nI 0) (nI 3) = true from sIn_t (by omega) (by omega) (by omega)]
  refine er_if_neT rfl (by decide +kernel) ?_
  refine er_loc (pc' := 14) rfl rfl rfl ?_
  refine er_gf (pc' := 17) (_) rfl rfl rfl rfl rfl ?_
  refine er_loc (pc' := 18) rfl rfl rfl ?_
  refine er_ia (pc' := 19) (a) rfl rfl rfl rfl ha rfl rfl ?_
  refine er_if_ne (pc' := 22) rfl rfl (fun h19 => ?_) (fun h19 => ?_)
  · refine er_loc (pc' := 29) rfl rfl rfl ?_
    refine er_k (pc' := 30) (nI 0) rfl rfl rfl ?_
    refine er_loc (pc' := 31) rfl rfl rfl ?_
    refine er_gf (pc' := 34) (_) rfl rfl rfl rfl rfl ?_
    refine er_loc (pc' := 35) rfl rfl rfl ?_
    refine er_ia (pc' := 36) (a) rfl rfl rfl rfl ha rfl rfl ?_
    rw [hg]
    refine er_k (pc' := 37) (nI 1) rfl rfl rfl ?_
    refine er_isub (pc' := 38) rfl rfl ?_
    refine er_cSi (pc' := 41) (rest := []) rfl rfl rfl (l_within _ _ _ _ _) ?_
    refine er_if_neb (pc' := 44) rfl rfl (fun h41 => ?_) (fun h41 => ?_)
    · obtain ⟨j, hj, hij⟩ := sIn_lt (by omega) h41
      have hkn : i = nI (nN i) := by rw [hij, nN_nI (by omega)]
      have hnj : nN i = j := by rw [hij]; exact nN_nI (by omega)
      refine er_loc (pc' := 51) rfl rfl rfl ?_
      refine er_gf (pc' := 54) (_) rfl rfl rfl rfl rfl ?_
      refine er_loc (pc' := 55) rfl rfl rfl ?_
      refine er_aa (pc' := 56) (a) rfl rfl rfl rfl rfl ha rfl rfl ?_
      refine er_loc (pc' := 57) rfl rfl rfl ?_
      refine er_loc (pc' := 58) rfl rfl rfl ?_
      refine er_loc (pc' := 59) rfl rfl rfl ?_
      refine er_gf (pc' := 62) (_) rfl rfl rfl rfl rfl ?_
      refine er_loc (pc' := 63) rfl rfl rfl ?_
      refine er_ia (pc' := 64) (a) rfl rfl rfl rfl ha rfl rfl ?_
      refine er_cSi (pc' := 67) (rest := [_, _]) rfl rfl rfl (l_lowestBits _ _ _ _) ?_
      refine er_isX (pc' := 68) (nN i) rfl (blt_R ha) (fun f => cO_R ha f _) hkn (by omega) rfl rfl ?_
      refine er_k (pc' := 69) (nI 1) rfl rfl rfl ?_
      refine er_iret rfl rfl ?_
      rw [if_neg h19, if_pos h41]
      exact RI_of rfl rfl
    · refine er_loc (pc' := 45) rfl rfl rfl ?_
      refine er_k (pc' := 46) (nI 1) rfl rfl rfl ?_
      refine er_cIz (pc' := 49) (rest := []) 11 rfl rfl rfl rfl rfl rfl (l_error _ _ _ 1 (by decide)) ?_
      intro Z9
      refine er_iret rfl rfl ?_
      rw [if_neg h19, if_neg (by rw [h41]; decide)]
      exact RI_of rfl rfl
  · refine er_loc (pc' := 23) rfl rfl rfl ?_
    refine er_k (pc' := 24) (nI 2) rfl rfl rfl ?_
    refine er_cIz (pc' := 27) (rest := []) 11 rfl rfl rfl rfl rfl rfl (l_error _ _ _ 2 (by decide)) ?_
    intro Z9
    refine er_iret rfl rfl ?_
    rw [if_pos h19]
    exact RI_of rfl rfl
set_option maxRecDepth 100000 in
set_option maxHeartbeats 4000000 in
theorem l_standThere (d : Nat) (X Z : Nat → Nat → Int32) {a : Nat} (ha : a < 4) (i n : Int32) {g : Nat} (hg : X 59 a = nI g) : EC (d + 2) 116 [.ref 0, .int (nI a), .int i, .int n] (Wd X Z) (PI (bI (sStand g i n)) (Wd X Z)) := by
  refine er_enter (L := [(0, _), (1, _), (2, _), (3, _)]) rfl rfl rfl ?_
  refine er_loc (pc' := 1) rfl rfl rfl ?_
  refine er_k (pc' := 2) (nI 0) rfl rfl rfl ?_
  refine er_loc (pc' := 3) rfl rfl rfl ?_
  refine er_gf (pc' := 6) (_) rfl rfl rfl rfl rfl ?_
  refine er_loc (pc' := 7) rfl rfl rfl ?_
  refine er_ia (pc' := 8) (a) rfl rfl rfl rfl ha rfl rfl ?_
  rw [hg]
  refine er_cSi (pc' := 11) (rest := []) rfl rfl rfl (l_within _ _ _ _ _) ?_
  refine er_if_eqb (pc' := 14) rfl rfl (fun h11 => ?_) (fun h11 => ?_)
  · refine er_k (pc' := 35) (nI 0) rfl rfl rfl ?_
    refine er_ret _ rfl rfl ?_
    exact PI_of (bI_eq0 (by unfold sStand; simp [*]))
  · refine er_loc (pc' := 15) rfl rfl rfl ?_
    refine er_k (pc' := 16) (nI 0) rfl rfl rfl ?_
    refine er_loc (pc' := 17) rfl rfl rfl ?_
    refine er_gf (pc' := 20) (_) rfl rfl rfl rfl rfl ?_
    refine er_loc (pc' := 21) rfl rfl rfl ?_
    refine er_ia (pc' := 22) (a) rfl rfl rfl rfl ha rfl rfl ?_
    rw [hg]
    refine er_loc (pc' := 23) rfl rfl rfl ?_
    refine er_isub (pc' := 24) rfl rfl ?_
    refine er_cSi (pc' := 27) (rest := []) rfl rfl rfl (l_within _ _ _ _ _) ?_
    refine er_if_eqb (pc' := 30) rfl rfl (fun h27 => ?_) (fun h27 => ?_)
    · refine er_k (pc' := 35) (nI 0) rfl rfl rfl ?_
      refine er_ret _ rfl rfl ?_
      exact PI_of (bI_eq0 (by unfold sStand; simp [*]))
    · refine er_k (pc' := 31) (nI 1) rfl rfl rfl ?_
      refine er_goto rfl ?_
      refine er_ret _ rfl rfl ?_
      exact PI_of (bI_eq1 (by unfold sStand; simp [*]))
set_option maxRecDepth 100000 in
set_option maxHeartbeats 4000000 in
theorem l_move_no (d : Nat) (X Z : Nat → Nat → Int32) (s i p j n : Int32) (hs : (sIn s (nI 0) (nI 3) && sIn p (nI 0) (nI 3)) = false) : EC (d + 3) 115 [.ref 0, .int s, .int i, .int p, .int j, .int n] (Wd X Z) (RI (sErr 1) (xErr X 1)) := by
  refine er_enter (L := [(0, _), (1, _), (2, _), (3, _), (4, _), (5, _)]) rfl rfl rfl ?_
  refine er_loc (pc' := 1) rfl rfl rfl ?_
  refine er_cSi (pc' := 4) (rest := []) rfl rfl rfl (l_xSheet _ _ _) ?_
  refine er_if_eqb (pc' := 7) rfl rfl (fun h4 => ?_) (fun h4 => ?_)
  · refine er_loc (pc' := 15) rfl rfl rfl ?_
    refine er_k (pc' := 16) (nI 1) rfl rfl rfl ?_
    refine er_cIz (pc' := 19) (rest := []) 11 rfl rfl rfl rfl rfl rfl (l_error _ _ _ 1 (by decide)) ?_
    intro Z9
    refine er_iret rfl rfl ?_
    exact RI_of rfl rfl
  · refine er_loc (pc' := 8) rfl rfl rfl ?_
    refine er_cSi (pc' := 11) (rest := []) rfl rfl rfl (l_xSheet _ _ _) ?_
    refine er_if_neb (pc' := 14) rfl rfl (fun h11 => ?_) (fun h11 => ?_)
    · exfalso; rw [h4, h11] at hs; cases hs
    · refine er_loc (pc' := 15) rfl rfl rfl ?_
      refine er_k (pc' := 16) (nI 1) rfl rfl rfl ?_
      refine er_cIz (pc' := 19) (rest := []) 11 rfl rfl rfl rfl rfl rfl (l_error _ _ _ 1 (by decide)) ?_
      intro Z9
      refine er_iret rfl rfl ?_
      exact RI_of rfl rfl
set_option maxRecDepth 100000 in
set_option maxHeartbeats 4000000 in
theorem l_move (d : Nat) (X Z : Nat → Nat → Int32) {a : Nat} (ha : a < 4) {p : Nat} (hp : p < 4) (i j n : Int32) {g e : Nat} (hg : X 59 a = nI g) (h40 : g ≤ 40) (he : X 59 p = nI e) (h40e : e ≤ 40) : EC (d + 3) 115 [.ref 0, .int (nI a), .int i, .int (nI p), .int j, .int n] (Wd X Z) (fun r => if X 60 a = 0 ∨ X 60 p = 0 then RI (sErr 2) (xErr X 2) r else if X 60 a = X 60 p then (if (sStand g i n && sStand e j n) = true then RI n (uc X (55 + p) (cpf (X (55 + a)) (X (55 + p)) (nN i) (nN j) (nN n))) r else RI (sErr 1) (xErr X 1) r) else RI (sErr 5) (xErr X 5) r) := by
  refine er_enter (L := [(0, _), (1, _), (2, _), (3, _), (4, _), (5, _)]) rfl rfl rfl ?_
  refine er_loc (pc' := 1) rfl rfl rfl ?_
  refine er_cSi (pc' := 4) (rest := []) rfl rfl rfl (l_xSheet _ _ _) ?_
  rw [show sIn (nI a) (nI 0) (nI 3) = true from sIn_t (by omega) (by omega) (by omega)]
  refine er_if_eqF (pc' := 7) rfl (by decide +kernel) rfl ?_
  refine er_loc (pc' := 8) rfl rfl rfl ?_
  refine er_cSi (pc' := 11) (rest := []) rfl rfl rfl (l_xSheet _ _ _) ?_
  rw [show sIn (nI p) (nI 0) (nI 3) = true from sIn_t (by omega) (by omega) (by omega)]
  refine er_if_neT rfl (by decide +kernel) ?_
  refine er_loc (pc' := 21) rfl rfl rfl ?_
  refine er_gf (pc' := 24) (_) rfl rfl rfl rfl rfl ?_
  refine er_loc (pc' := 25) rfl rfl rfl ?_
  refine er_ia (pc' := 26) (a) rfl rfl rfl rfl ha rfl rfl ?_
  refine er_if_eq (pc' := 29) rfl rfl (fun h26 => ?_) (fun h26 => ?_)
  · refine er_loc (pc' := 39) rfl rfl rfl ?_
    refine er_k (pc' := 40) (nI 2) rfl rfl rfl ?_
    refine er_cIz (pc' := 43) (rest := []) 11 rfl rfl rfl rfl rfl rfl (l_error _ _ _ 2 (by decide)) ?_
    intro Z9
    refine er_iret rfl rfl ?_
    rw [if_pos (by first | exact Or.inl h26 | exact Or.inr h35)]
    exact RI_of rfl rfl
  · refine er_loc (pc' := 30) rfl rfl rfl ?_
    refine er_gf (pc' := 33) (_) rfl rfl rfl rfl rfl ?_
    refine er_loc (pc' := 34) rfl rfl rfl ?_
    refine er_ia (pc' := 35) (p) rfl rfl rfl rfl hp rfl rfl ?_
    refine er_if_ne (pc' := 38) rfl rfl (fun h35 => ?_) (fun h35 => ?_)
    · refine er_loc (pc' := 45) rfl rfl rfl ?_
      refine er_gf (pc' := 48) (_) rfl rfl rfl rfl rfl ?_
      refine er_loc (pc' := 49) rfl rfl rfl ?_
      refine er_ia (pc' := 50) (a) rfl rfl rfl rfl ha rfl rfl ?_
      refine er_loc (pc' := 51) rfl rfl rfl ?_
      refine er_gf (pc' := 54) (_) rfl rfl rfl rfl rfl ?_
      refine er_loc (pc' := 55) rfl rfl rfl ?_
      refine er_ia (pc' := 56) (p) rfl rfl rfl rfl hp rfl rfl ?_
      refine er_cm_eq (pc' := 59) rfl rfl (fun h56 => ?_) (fun h56 => ?_)
      · refine er_loc (pc' := 66) rfl rfl rfl ?_
        refine er_loc (pc' := 67) rfl rfl rfl ?_
        refine er_loc (pc' := 68) rfl rfl rfl ?_
        refine er_loc (pc' := 70) rfl rfl rfl ?_
        refine er_cIi (pc' := 73) (rest := []) 11 rfl rfl rfl rfl rfl rfl (l_standThere _ _ _ ha _ _ hg) ?_
        refine er_if_eqb (pc' := 76) rfl rfl (fun h73 => ?_) (fun h73 => ?_)
        · refine er_loc (pc' := 89) rfl rfl rfl ?_
          refine er_k (pc' := 90) (nI 1) rfl rfl rfl ?_
          refine er_cIz (pc' := 93) (rest := []) 11 rfl rfl rfl rfl rfl rfl (l_error _ _ _ 1 (by decide)) ?_
          intro Z9
          refine er_iret rfl rfl ?_
          rw [if_neg (fun c => c.elim h26 h35), if_pos h56, if_neg (by first | (rw [h73]; simp; done) | (rw [h73, h85]; simp; done))]
          exact RI_of rfl rfl
        · refine er_loc (pc' := 77) rfl rfl rfl ?_
          refine er_loc (pc' := 78) rfl rfl rfl ?_
          refine er_loc (pc' := 80) rfl rfl rfl ?_
          refine er_loc (pc' := 82) rfl rfl rfl ?_
          refine er_cIi (pc' := 85) (rest := []) 11 rfl rfl rfl rfl rfl rfl (l_standThere _ _ _ hp _ _ he) ?_
          refine er_if_neb (pc' := 88) rfl rfl (fun h85 => ?_) (fun h85 => ?_)
          · have e1 := h73
            have e2 := h85
            unfold sStand at e1 e2
            rw [Bool.and_eq_true] at e1 e2
            obtain ⟨i', _, hi1, hi2⟩ := sIn_ex (by omega) (by omega) e1.1
            obtain ⟨j', _, hj1, hj2⟩ := sIn_ex (by omega) (by omega) e2.1
            subst hi2
            subst hj2
            rw [nI_sub hi1] at e1
            rw [nI_sub hj1] at e2
            obtain ⟨n', _, hn1, hn2⟩ := sIn_ex (by omega) (by omega) e1.2
            subst hn2
            obtain ⟨n2, _, hm1, hm2⟩ := sIn_ex (by omega) (by omega) e2.2
            have hnn : n' = n2 := (nI_eq (by omega) (by omega)).mp hm2
            refine er_loc (pc' := 95) rfl rfl rfl ?_
            refine er_gf (pc' := 98) (_) rfl rfl rfl rfl rfl ?_
            refine er_loc (pc' := 99) rfl rfl rfl ?_
            refine er_aa (pc' := 100) (a) rfl rfl rfl rfl rfl ha rfl rfl ?_
            refine er_loc (pc' := 101) rfl rfl rfl ?_
            refine er_loc (pc' := 102) rfl rfl rfl ?_
            refine er_gf (pc' := 105) (_) rfl rfl rfl rfl rfl ?_
            refine er_loc (pc' := 106) rfl rfl rfl ?_
            refine er_aa (pc' := 107) (p) rfl rfl rfl rfl rfl hp rfl rfl ?_
            refine er_loc (pc' := 109) rfl rfl rfl ?_
            refine er_loc (pc' := 111) rfl rfl rfl ?_
            refine er_cpX (pc' := 114) (i') (j') (n') rfl rfl rfl (blt_R ha) (blt_R hp) (cO_R ha _ _) (fun f => cO_R hp f _) rfl rfl rfl (by omega) (by omega) rfl rfl ?_
            refine er_loc (pc' := 116) rfl rfl rfl ?_
            refine er_iret rfl rfl ?_
            rw [if_neg (fun c => c.elim h26 h35), if_pos h56, if_pos (by rw [h73, h85]; rfl), nN_nI (by omega), nN_nI (by omega), nN_nI (by omega)]
            exact RI_of rfl rfl
          · refine er_loc (pc' := 89) rfl rfl rfl ?_
            refine er_k (pc' := 90) (nI 1) rfl rfl rfl ?_
            refine er_cIz (pc' := 93) (rest := []) 11 rfl rfl rfl rfl rfl rfl (l_error _ _ _ 1 (by decide)) ?_
            intro Z9
            refine er_iret rfl rfl ?_
            rw [if_neg (fun c => c.elim h26 h35), if_pos h56, if_neg (by first | (rw [h73]; simp; done) | (rw [h73, h85]; simp; done))]
            exact RI_of rfl rfl
      · refine er_loc (pc' := 60) rfl rfl rfl ?_
        refine er_k (pc' := 61) (nI 5) rfl rfl rfl ?_
        refine er_cIz (pc' := 64) (rest := []) 11 rfl rfl rfl rfl rfl rfl (l_error _ _ _ 5 (by decide)) ?_
        intro Z9
        refine er_iret rfl rfl ?_
        rw [if_neg (fun c => c.elim h26 h35), if_neg h56]
        exact RI_of rfl rfl
    · refine er_loc (pc' := 39) rfl rfl rfl ?_
      refine er_k (pc' := 40) (nI 2) rfl rfl rfl ?_
      refine er_cIz (pc' := 43) (rest := []) 11 rfl rfl rfl rfl rfl rfl (l_error _ _ _ 2 (by decide)) ?_
      intro Z9
      refine er_iret rfl rfl ?_
      rw [if_pos (by first | exact Or.inl h26 | exact Or.inr h35)]
      exact RI_of rfl rfl
end
section
/-! THE FACE: SHEETS, more -/
def zr (f : Nat → Int32) (i : Nat) : Nat → Int32 := fun j => if j < i then nI 0 else f j
theorem zr_0 (f : Nat → Int32) : zr f 0 = f := by
  funext j
  unfold zr
  rw [if_neg (by omega)]
theorem zr_succ (f : Nat → Int32) (i : Nat) : u1 (zr f i) i (nI 0) = zr f (i + 1) := by
  funext j
  unfold zr u1
  by_cases h : j = i
  · subst h; rw [if_pos rfl, if_pos (by omega)]
  · rw [if_neg h]
    by_cases h2 : j < i
    · show (if j < i then nI 0 else f j) = _
      rw [if_pos h2, if_pos (by omega)]
    · show (if j < i then nI 0 else f j) = _
      rw [if_neg h2, if_neg (by omega)]
def sBits (b : Int32) : Bool := decide (b = 0) || (decide (b = nI 8) || (decide (b = nI 16) || decide (b = nI 32)))
def xSheet (X : Nat → Nat → Int32) (a : Nat) (b n : Int32) (i : Nat) : Nat → Nat → Int32 := uc (ud (ud X 60 a b) 59 a n) (55 + a) (zr (X (55 + a)) i)
theorem xSheet_row {X : Nat → Nat → Int32} {a : Nat} {b n : Int32} {i : Nat} : ud (xSheet X a b n i) (55 + a) i (nI 0) = xSheet X a b n (i + 1) := by
  unfold xSheet ud
  rw [uc_same, uc_uc, zr_succ]
theorem xSheet_0 {X : Nat → Nat → Int32} {a : Nat} {b n : Int32} (ha : a < 4) : xSheet X a b n 0 = ud (ud X 60 a b) 59 a n := by
  unfold xSheet
  rw [zr_0]
  have e : ud (ud X 60 a b) 59 a n (55 + a) = X (55 + a) := by rw [ud_ne (by omega), ud_ne (by omega)]
  rw [← e, uc_id]
set_option maxRecDepth 100000 in
set_option maxHeartbeats 4000000 in
theorem l_sheet_loop (d : Nat) (X Z : Nat → Nat → Int32) {a : Nat} (ha : a < 4) (b n : Int32) : ∀ (m i : Nat) (x : Int32), i + m = 40 → x = nI i → ER (d + 2) tb_m112 98 [(0, .ref 0), (1, .int (nI a)), (5, .int x)] [] (Wd (xSheet X a b n i) Z) (RI (nI 1) (xSheet X a b n 40))
  | 0, i, x, hi, hx => by
    have hi0 : i = 40 := by omega
    subst hx
    subst hi0
    refine er_loc (pc' := 100) rfl rfl rfl ?_
    refine er_k (pc' := 102) (nI 40) rfl rfl rfl ?_
    refine er_cm_geT rfl (nI_nlt (by omega) (by omega)) ?_
    refine er_k (pc' := 122) (nI 1) rfl rfl rfl ?_
    refine er_iret rfl rfl ?_
    exact RI_of rfl rfl
  | m + 1, i, x, hi, hx => by
    subst hx
    refine er_loc (pc' := 100) rfl rfl rfl ?_
    refine er_k (pc' := 102) (nI 40) rfl rfl rfl ?_
    refine er_cm_geF (pc' := 105) rfl (nI_lt (by omega) (by omega)) rfl ?_
    refine er_loc (pc' := 106) rfl rfl rfl ?_
    refine er_gf (pc' := 109) (_) rfl rfl rfl rfl rfl ?_
    refine er_loc (pc' := 110) rfl rfl rfl ?_
    refine er_aa (pc' := 111) (a) rfl rfl rfl rfl rfl ha rfl rfl ?_
    refine er_loc (pc' := 113) rfl rfl rfl ?_
    refine er_k (pc' := 114) (nI 0) rfl rfl rfl ?_
    refine er_isX (pc' := 115) (i) rfl (blt_R ha) (fun f => cO_R ha f _) rfl (by omega) rfl rfl ?_
    refine er_loc (L' := [(5, .int (_ + nI 1)), (0, _), (1, _)]) rfl rfl rfl ?_
    refine er_goto rfl ?_
    refine ER_loc [(0, _), (1, _), (5, _)] rfl (List.forall_mem_cons.mpr ⟨rfl, List.forall_mem_cons.mpr ⟨rfl, List.forall_mem_cons.mpr ⟨rfl, fun _ h => absurd h List.not_mem_nil⟩⟩⟩) rfl rfl ?_
    rw [xSheet_row]
    exact l_sheet_loop d X Z ha b n m (i + 1) _ (by omega) (nI_add i 1)
set_option maxRecDepth 100000 in
set_option maxHeartbeats 4000000 in
theorem l_sheet_no (d : Nat) (X Z : Nat → Nat → Int32) (s b n : Int32) (hs : (sIn s (nI 0) (nI 3) && sBits b) = false) : EC (d + 3) 112 [.ref 0, .int s, .int b, .int n] (Wd X Z) (RI (sErr 1) (xErr X 1)) := by
  refine er_enter (L := [(0, _), (1, _), (2, _), (3, _)]) rfl rfl rfl ?_
  refine er_loc (pc' := 1) rfl rfl rfl ?_
  refine er_if_eq (pc' := 4) rfl rfl (fun h1 => ?_) (fun h1 => ?_)
  · refine er_k (pc' := 23) (nI 1) rfl rfl rfl ?_
    refine er_goto rfl ?_
    refine er_loc (pc' := 29) (L' := [(4, _), (0, _), (1, _), (2, _), (3, _)]) rfl rfl rfl ?_
    refine er_loc (pc' := 30) rfl rfl rfl ?_
    refine er_cSi (pc' := 33) (rest := []) rfl rfl rfl (l_xSheet _ _ _) ?_
    refine er_if_eqb (pc' := 36) rfl rfl (fun h33 => ?_) (fun h33 => ?_)
    · refine er_loc (pc' := 42) rfl rfl rfl ?_
      refine er_k (pc' := 43) (nI 1) rfl rfl rfl ?_
      refine er_cIz (pc' := 46) (rest := []) 11 rfl rfl rfl rfl rfl rfl (l_error _ _ _ 1 (by decide)) ?_
      intro Z9
      refine er_iret rfl rfl ?_
      exact RI_of rfl rfl
    · refine er_loc (pc' := 38) rfl rfl rfl ?_
      refine er_if_neT rfl (by decide +kernel) ?_
      exfalso
      rw [h33] at hs
      unfold sBits at hs
      simp only [Bool.true_and, Bool.or_eq_false_iff, decide_eq_false_iff_not] at hs
      first | exact hs.1 h1 | exact hs.2.1 h7 | exact hs.2.2.1 h13 | exact hs.2.2.2 h19
  · refine er_loc (pc' := 5) rfl rfl rfl ?_
    refine er_k (pc' := 7) (nI 8) rfl rfl rfl ?_
    refine er_cm_eq (pc' := 10) rfl rfl (fun h7 => ?_) (fun h7 => ?_)
    · refine er_k (pc' := 23) (nI 1) rfl rfl rfl ?_
      refine er_goto rfl ?_
      refine er_loc (pc' := 29) (L' := [(4, _), (0, _), (1, _), (2, _), (3, _)]) rfl rfl rfl ?_
      refine er_loc (pc' := 30) rfl rfl rfl ?_
      refine er_cSi (pc' := 33) (rest := []) rfl rfl rfl (l_xSheet _ _ _) ?_
      refine er_if_eqb (pc' := 36) rfl rfl (fun h33 => ?_) (fun h33 => ?_)
      · refine er_loc (pc' := 42) rfl rfl rfl ?_
        refine er_k (pc' := 43) (nI 1) rfl rfl rfl ?_
        refine er_cIz (pc' := 46) (rest := []) 11 rfl rfl rfl rfl rfl rfl (l_error _ _ _ 1 (by decide)) ?_
        intro Z9
        refine er_iret rfl rfl ?_
        exact RI_of rfl rfl
      · refine er_loc (pc' := 38) rfl rfl rfl ?_
        refine er_if_neT rfl (by decide +kernel) ?_
        exfalso
        rw [h33] at hs
        unfold sBits at hs
        simp only [Bool.true_and, Bool.or_eq_false_iff, decide_eq_false_iff_not] at hs
        first | exact hs.1 h1 | exact hs.2.1 h7 | exact hs.2.2.1 h13 | exact hs.2.2.2 h19
    · refine er_loc (pc' := 11) rfl rfl rfl ?_
      refine er_k (pc' := 13) (nI 16) rfl rfl rfl ?_
      refine er_cm_eq (pc' := 16) rfl rfl (fun h13 => ?_) (fun h13 => ?_)
      · refine er_k (pc' := 23) (nI 1) rfl rfl rfl ?_
        refine er_goto rfl ?_
        refine er_loc (pc' := 29) (L' := [(4, _), (0, _), (1, _), (2, _), (3, _)]) rfl rfl rfl ?_
        refine er_loc (pc' := 30) rfl rfl rfl ?_
        refine er_cSi (pc' := 33) (rest := []) rfl rfl rfl (l_xSheet _ _ _) ?_
        refine er_if_eqb (pc' := 36) rfl rfl (fun h33 => ?_) (fun h33 => ?_)
        · refine er_loc (pc' := 42) rfl rfl rfl ?_
          refine er_k (pc' := 43) (nI 1) rfl rfl rfl ?_
          refine er_cIz (pc' := 46) (rest := []) 11 rfl rfl rfl rfl rfl rfl (l_error _ _ _ 1 (by decide)) ?_
          intro Z9
          refine er_iret rfl rfl ?_
          exact RI_of rfl rfl
        · refine er_loc (pc' := 38) rfl rfl rfl ?_
          refine er_if_neT rfl (by decide +kernel) ?_
          exfalso
          rw [h33] at hs
          unfold sBits at hs
          simp only [Bool.true_and, Bool.or_eq_false_iff, decide_eq_false_iff_not] at hs
          first | exact hs.1 h1 | exact hs.2.1 h7 | exact hs.2.2.1 h13 | exact hs.2.2.2 h19
      · refine er_loc (pc' := 17) rfl rfl rfl ?_
        refine er_k (pc' := 19) (nI 32) rfl rfl rfl ?_
        refine er_cm_ne (pc' := 22) rfl rfl (fun h19 => ?_) (fun h19 => ?_)
        · refine er_k (pc' := 27) (nI 0) rfl rfl rfl ?_
          refine er_loc (pc' := 29) (L' := [(4, _), (0, _), (1, _), (2, _), (3, _)]) rfl rfl rfl ?_
          refine er_loc (pc' := 30) rfl rfl rfl ?_
          refine er_cSi (pc' := 33) (rest := []) rfl rfl rfl (l_xSheet _ _ _) ?_
          refine er_if_eqb (pc' := 36) rfl rfl (fun h33 => ?_) (fun h33 => ?_)
          · refine er_loc (pc' := 42) rfl rfl rfl ?_
            refine er_k (pc' := 43) (nI 1) rfl rfl rfl ?_
            refine er_cIz (pc' := 46) (rest := []) 11 rfl rfl rfl rfl rfl rfl (l_error _ _ _ 1 (by decide)) ?_
            intro Z9
            refine er_iret rfl rfl ?_
            exact RI_of rfl rfl
          · refine er_loc (pc' := 38) rfl rfl rfl ?_
            refine er_if_neF (pc' := 41) rfl (by decide +kernel) rfl ?_
            refine er_loc (pc' := 42) rfl rfl rfl ?_
            refine er_k (pc' := 43) (nI 1) rfl rfl rfl ?_
            refine er_cIz (pc' := 46) (rest := []) 11 rfl rfl rfl rfl rfl rfl (l_error _ _ _ 1 (by decide)) ?_
            intro Z9
            refine er_iret rfl rfl ?_
            exact RI_of rfl rfl
        · refine er_k (pc' := 23) (nI 1) rfl rfl rfl ?_
          refine er_goto rfl ?_
          refine er_loc (pc' := 29) (L' := [(4, _), (0, _), (1, _), (2, _), (3, _)]) rfl rfl rfl ?_
          refine er_loc (pc' := 30) rfl rfl rfl ?_
          refine er_cSi (pc' := 33) (rest := []) rfl rfl rfl (l_xSheet _ _ _) ?_
          refine er_if_eqb (pc' := 36) rfl rfl (fun h33 => ?_) (fun h33 => ?_)
          · refine er_loc (pc' := 42) rfl rfl rfl ?_
            refine er_k (pc' := 43) (nI 1) rfl rfl rfl ?_
            refine er_cIz (pc' := 46) (rest := []) 11 rfl rfl rfl rfl rfl rfl (l_error _ _ _ 1 (by decide)) ?_
            intro Z9
            refine er_iret rfl rfl ?_
            exact RI_of rfl rfl
          · refine er_loc (pc' := 38) rfl rfl rfl ?_
            refine er_if_neT rfl (by decide +kernel) ?_
            exfalso
            rw [h33] at hs
            unfold sBits at hs
            simp only [Bool.true_and, Bool.or_eq_false_iff, decide_eq_false_iff_not] at hs
            first | exact hs.1 h1 | exact hs.2.1 h7 | exact hs.2.2.1 h13 | exact hs.2.2.2 h19
set_option maxRecDepth 100000 in
set_option maxHeartbeats 4000000 in
theorem l_sheet (d : Nat) (X Z : Nat → Nat → Int32) {a : Nat} (ha : a < 4) (b n : Int32) (hb : sBits b = true) : EC (d + 3) 112 [.ref 0, .int (nI a), .int b, .int n] (Wd X Z) (fun r => if b = 0 then RI (nI 1) (xSheet X a b (nI 0) 40) r else if n < 0 then RI (sErr 3) (xErr X 3) r else if nI 40 < n then RI (sErr 1) (xErr X 1) r else RI (nI 1) (xSheet X a b n 40) r) := by
  obtain ⟨g, hg⟩ : ∃ g : Int32, g = if b = 0 then nI 0 else n := ⟨_, rfl⟩
  refine er_enter (L := [(0, _), (1, _), (2, _), (3, _)]) rfl rfl rfl ?_
  refine er_loc (pc' := 1) rfl rfl rfl ?_
  refine er_if_eq (pc' := 4) rfl rfl (fun h1 => ?_) (fun h1 => ?_)
  · refine er_k (pc' := 23) (nI 1) rfl rfl rfl ?_
    refine er_goto rfl ?_
    refine er_loc (pc' := 29) (L' := [(4, _), (0, _), (1, _), (2, _), (3, _)]) rfl rfl rfl ?_
    refine er_loc (pc' := 30) rfl rfl rfl ?_
    refine er_cSi (pc' := 33) (rest := []) rfl rfl rfl (l_xSheet _ _ _) ?_
    rw [show sIn (nI a) (nI 0) (nI 3) = true from sIn_t (by omega) (by omega) (by omega)]
    refine er_if_eqF (pc' := 36) rfl (by decide +kernel) rfl ?_
    refine er_loc (pc' := 38) rfl rfl rfl ?_
    refine er_if_neT rfl (by decide +kernel) ?_
    refine er_loc (pc' := 48) rfl rfl rfl ?_
    refine er_if_eq (pc' := 51) rfl rfl (fun h48 => ?_) (fun h48 => ?_)
    · refine er_loc (pc' := 74) rfl rfl rfl ?_
      refine er_gf (pc' := 77) (_) rfl rfl rfl rfl rfl ?_
      refine er_loc (pc' := 78) rfl rfl rfl ?_
      refine er_loc (pc' := 79) rfl rfl rfl ?_
      refine er_isX (pc' := 80) (a) rfl rfl (fun _ => rfl) rfl ha rfl rfl ?_
      refine er_loc (pc' := 81) rfl rfl rfl ?_
      refine er_gf (pc' := 84) (_) rfl rfl rfl rfl rfl ?_
      refine er_loc (pc' := 85) rfl rfl rfl ?_
      refine er_loc (pc' := 86) rfl rfl rfl ?_
      refine er_if_ne (pc' := 89) rfl rfl (fun h86 => ?_) (fun h86 => ?_)
      · refine er_loc (pc' := 94) rfl rfl rfl ?_
        refine er_isX (pc' := 95) (a) rfl rfl (fun _ => rfl) rfl ha rfl rfl ?_
        refine er_k (pc' := 96) (nI 0) rfl rfl rfl ?_
        refine er_loc (pc' := 98) (L' := [(5, _), (4, _), (0, _), (1, _), (2, _), (3, _)]) rfl rfl rfl ?_
        refine ER_loc [(0, _), (1, _), (5, _)] rfl (List.forall_mem_cons.mpr ⟨rfl, List.forall_mem_cons.mpr ⟨rfl, List.forall_mem_cons.mpr ⟨rfl, fun _ h => absurd h List.not_mem_nil⟩⟩⟩) rfl rfl ?_
        rw [← xSheet_0 ha]
        refine ER.mono (l_sheet_loop d X Z ha b _ 40 0 _ (by omega) rfl) (fun r hr => ?_)
        first | exact absurd h48 h86 | exact absurd h86 h48 | (rw [if_pos h48]; exact hr) | (rw [if_pos h86]; exact hr) | (rw [if_neg h48, if_neg h52, if_neg h64]; exact hr)
      · refine er_k (pc' := 90) (nI 0) rfl rfl rfl ?_
        refine er_goto rfl ?_
        refine er_isX (pc' := 95) (a) rfl rfl (fun _ => rfl) rfl ha rfl rfl ?_
        refine er_k (pc' := 96) (nI 0) rfl rfl rfl ?_
        refine er_loc (pc' := 98) (L' := [(5, _), (4, _), (0, _), (1, _), (2, _), (3, _)]) rfl rfl rfl ?_
        refine ER_loc [(0, _), (1, _), (5, _)] rfl (List.forall_mem_cons.mpr ⟨rfl, List.forall_mem_cons.mpr ⟨rfl, List.forall_mem_cons.mpr ⟨rfl, fun _ h => absurd h List.not_mem_nil⟩⟩⟩) rfl rfl ?_
        rw [← xSheet_0 ha]
        refine ER.mono (l_sheet_loop d X Z ha b _ 40 0 _ (by omega) rfl) (fun r hr => ?_)
        first | exact absurd h48 h86 | exact absurd h86 h48 | (rw [if_pos h48]; exact hr) | (rw [if_pos h86]; exact hr) | (rw [if_neg h48, if_neg h52, if_neg h64]; exact hr)
    · refine er_loc (pc' := 52) rfl rfl rfl ?_
      refine er_if_ge (pc' := 55) rfl rfl (fun h52 => ?_) (fun h52 => ?_)
      · refine er_loc (pc' := 62) rfl rfl rfl ?_
        refine er_k (pc' := 64) (nI 40) rfl rfl rfl ?_
        refine er_cm_le (pc' := 67) rfl rfl (fun h64 => ?_) (fun h64 => ?_)
        · refine er_loc (pc' := 74) rfl rfl rfl ?_
          refine er_gf (pc' := 77) (_) rfl rfl rfl rfl rfl ?_
          refine er_loc (pc' := 78) rfl rfl rfl ?_
          refine er_loc (pc' := 79) rfl rfl rfl ?_
          refine er_isX (pc' := 80) (a) rfl rfl (fun _ => rfl) rfl ha rfl rfl ?_
          refine er_loc (pc' := 81) rfl rfl rfl ?_
          refine er_gf (pc' := 84) (_) rfl rfl rfl rfl rfl ?_
          refine er_loc (pc' := 85) rfl rfl rfl ?_
          refine er_loc (pc' := 86) rfl rfl rfl ?_
          refine er_if_ne (pc' := 89) rfl rfl (fun h86 => ?_) (fun h86 => ?_)
          · refine er_loc (pc' := 94) rfl rfl rfl ?_
            refine er_isX (pc' := 95) (a) rfl rfl (fun _ => rfl) rfl ha rfl rfl ?_
            refine er_k (pc' := 96) (nI 0) rfl rfl rfl ?_
            refine er_loc (pc' := 98) (L' := [(5, _), (4, _), (0, _), (1, _), (2, _), (3, _)]) rfl rfl rfl ?_
            refine ER_loc [(0, _), (1, _), (5, _)] rfl (List.forall_mem_cons.mpr ⟨rfl, List.forall_mem_cons.mpr ⟨rfl, List.forall_mem_cons.mpr ⟨rfl, fun _ h => absurd h List.not_mem_nil⟩⟩⟩) rfl rfl ?_
            rw [← xSheet_0 ha]
            refine ER.mono (l_sheet_loop d X Z ha b _ 40 0 _ (by omega) rfl) (fun r hr => ?_)
            first | exact absurd h48 h86 | exact absurd h86 h48 | (rw [if_pos h48]; exact hr) | (rw [if_pos h86]; exact hr) | (rw [if_neg h48, if_neg h52, if_neg h64]; exact hr)
          · refine er_k (pc' := 90) (nI 0) rfl rfl rfl ?_
            refine er_goto rfl ?_
            refine er_isX (pc' := 95) (a) rfl rfl (fun _ => rfl) rfl ha rfl rfl ?_
            refine er_k (pc' := 96) (nI 0) rfl rfl rfl ?_
            refine er_loc (pc' := 98) (L' := [(5, _), (4, _), (0, _), (1, _), (2, _), (3, _)]) rfl rfl rfl ?_
            refine ER_loc [(0, _), (1, _), (5, _)] rfl (List.forall_mem_cons.mpr ⟨rfl, List.forall_mem_cons.mpr ⟨rfl, List.forall_mem_cons.mpr ⟨rfl, fun _ h => absurd h List.not_mem_nil⟩⟩⟩) rfl rfl ?_
            rw [← xSheet_0 ha]
            refine ER.mono (l_sheet_loop d X Z ha b _ 40 0 _ (by omega) rfl) (fun r hr => ?_)
            first | exact absurd h48 h86 | exact absurd h86 h48 | (rw [if_pos h48]; exact hr) | (rw [if_pos h86]; exact hr) | (rw [if_neg h48, if_neg h52, if_neg h64]; exact hr)
        · refine er_loc (pc' := 68) rfl rfl rfl ?_
          refine er_k (pc' := 69) (nI 1) rfl rfl rfl ?_
          refine er_cIz (pc' := 72) (rest := []) 11 rfl rfl rfl rfl rfl rfl (l_error _ _ _ 1 (by decide)) ?_
          intro Z9
          refine er_iret rfl rfl ?_
          rw [if_neg h48, if_neg h52, if_pos h64]
          exact RI_of rfl rfl
      · refine er_loc (pc' := 56) rfl rfl rfl ?_
        refine er_k (pc' := 57) (nI 3) rfl rfl rfl ?_
        refine er_cIz (pc' := 60) (rest := []) 11 rfl rfl rfl rfl rfl rfl (l_error _ _ _ 3 (by decide)) ?_
        intro Z9
        refine er_iret rfl rfl ?_
        rw [if_neg h48, if_pos h52]
        exact RI_of rfl rfl
  · refine er_loc (pc' := 5) rfl rfl rfl ?_
    refine er_k (pc' := 7) (nI 8) rfl rfl rfl ?_
    refine er_cm_eq (pc' := 10) rfl rfl (fun h7 => ?_) (fun h7 => ?_)
    · refine er_k (pc' := 23) (nI 1) rfl rfl rfl ?_
      refine er_goto rfl ?_
      refine er_loc (pc' := 29) (L' := [(4, _), (0, _), (1, _), (2, _), (3, _)]) rfl rfl rfl ?_
      refine er_loc (pc' := 30) rfl rfl rfl ?_
      refine er_cSi (pc' := 33) (rest := []) rfl rfl rfl (l_xSheet _ _ _) ?_
      rw [show sIn (nI a) (nI 0) (nI 3) = true from sIn_t (by omega) (by omega) (by omega)]
      refine er_if_eqF (pc' := 36) rfl (by decide +kernel) rfl ?_
      refine er_loc (pc' := 38) rfl rfl rfl ?_
      refine er_if_neT rfl (by decide +kernel) ?_
      refine er_loc (pc' := 48) rfl rfl rfl ?_
      refine er_if_eq (pc' := 51) rfl rfl (fun h48 => ?_) (fun h48 => ?_)
      · refine er_loc (pc' := 74) rfl rfl rfl ?_
        refine er_gf (pc' := 77) (_) rfl rfl rfl rfl rfl ?_
        refine er_loc (pc' := 78) rfl rfl rfl ?_
        refine er_loc (pc' := 79) rfl rfl rfl ?_
        refine er_isX (pc' := 80) (a) rfl rfl (fun _ => rfl) rfl ha rfl rfl ?_
        refine er_loc (pc' := 81) rfl rfl rfl ?_
        refine er_gf (pc' := 84) (_) rfl rfl rfl rfl rfl ?_
        refine er_loc (pc' := 85) rfl rfl rfl ?_
        refine er_loc (pc' := 86) rfl rfl rfl ?_
        refine er_if_ne (pc' := 89) rfl rfl (fun h86 => ?_) (fun h86 => ?_)
        · refine er_loc (pc' := 94) rfl rfl rfl ?_
          refine er_isX (pc' := 95) (a) rfl rfl (fun _ => rfl) rfl ha rfl rfl ?_
          refine er_k (pc' := 96) (nI 0) rfl rfl rfl ?_
          refine er_loc (pc' := 98) (L' := [(5, _), (4, _), (0, _), (1, _), (2, _), (3, _)]) rfl rfl rfl ?_
          refine ER_loc [(0, _), (1, _), (5, _)] rfl (List.forall_mem_cons.mpr ⟨rfl, List.forall_mem_cons.mpr ⟨rfl, List.forall_mem_cons.mpr ⟨rfl, fun _ h => absurd h List.not_mem_nil⟩⟩⟩) rfl rfl ?_
          rw [← xSheet_0 ha]
          refine ER.mono (l_sheet_loop d X Z ha b _ 40 0 _ (by omega) rfl) (fun r hr => ?_)
          first | exact absurd h48 h86 | exact absurd h86 h48 | (rw [if_pos h48]; exact hr) | (rw [if_pos h86]; exact hr) | (rw [if_neg h48, if_neg h52, if_neg h64]; exact hr)
        · refine er_k (pc' := 90) (nI 0) rfl rfl rfl ?_
          refine er_goto rfl ?_
          refine er_isX (pc' := 95) (a) rfl rfl (fun _ => rfl) rfl ha rfl rfl ?_
          refine er_k (pc' := 96) (nI 0) rfl rfl rfl ?_
          refine er_loc (pc' := 98) (L' := [(5, _), (4, _), (0, _), (1, _), (2, _), (3, _)]) rfl rfl rfl ?_
          refine ER_loc [(0, _), (1, _), (5, _)] rfl (List.forall_mem_cons.mpr ⟨rfl, List.forall_mem_cons.mpr ⟨rfl, List.forall_mem_cons.mpr ⟨rfl, fun _ h => absurd h List.not_mem_nil⟩⟩⟩) rfl rfl ?_
          rw [← xSheet_0 ha]
          refine ER.mono (l_sheet_loop d X Z ha b _ 40 0 _ (by omega) rfl) (fun r hr => ?_)
          first | exact absurd h48 h86 | exact absurd h86 h48 | (rw [if_pos h48]; exact hr) | (rw [if_pos h86]; exact hr) | (rw [if_neg h48, if_neg h52, if_neg h64]; exact hr)
      · refine er_loc (pc' := 52) rfl rfl rfl ?_
        refine er_if_ge (pc' := 55) rfl rfl (fun h52 => ?_) (fun h52 => ?_)
        · refine er_loc (pc' := 62) rfl rfl rfl ?_
          refine er_k (pc' := 64) (nI 40) rfl rfl rfl ?_
          refine er_cm_le (pc' := 67) rfl rfl (fun h64 => ?_) (fun h64 => ?_)
          · refine er_loc (pc' := 74) rfl rfl rfl ?_
            refine er_gf (pc' := 77) (_) rfl rfl rfl rfl rfl ?_
            refine er_loc (pc' := 78) rfl rfl rfl ?_
            refine er_loc (pc' := 79) rfl rfl rfl ?_
            refine er_isX (pc' := 80) (a) rfl rfl (fun _ => rfl) rfl ha rfl rfl ?_
            refine er_loc (pc' := 81) rfl rfl rfl ?_
            refine er_gf (pc' := 84) (_) rfl rfl rfl rfl rfl ?_
            refine er_loc (pc' := 85) rfl rfl rfl ?_
            refine er_loc (pc' := 86) rfl rfl rfl ?_
            refine er_if_ne (pc' := 89) rfl rfl (fun h86 => ?_) (fun h86 => ?_)
            · refine er_loc (pc' := 94) rfl rfl rfl ?_
              refine er_isX (pc' := 95) (a) rfl rfl (fun _ => rfl) rfl ha rfl rfl ?_
              refine er_k (pc' := 96) (nI 0) rfl rfl rfl ?_
              refine er_loc (pc' := 98) (L' := [(5, _), (4, _), (0, _), (1, _), (2, _), (3, _)]) rfl rfl rfl ?_
              refine ER_loc [(0, _), (1, _), (5, _)] rfl (List.forall_mem_cons.mpr ⟨rfl, List.forall_mem_cons.mpr ⟨rfl, List.forall_mem_cons.mpr ⟨rfl, fun _ h => absurd h List.not_mem_nil⟩⟩⟩) rfl rfl ?_
              rw [← xSheet_0 ha]
              refine ER.mono (l_sheet_loop d X Z ha b _ 40 0 _ (by omega) rfl) (fun r hr => ?_)
              first | exact absurd h48 h86 | exact absurd h86 h48 | (rw [if_pos h48]; exact hr) | (rw [if_pos h86]; exact hr) | (rw [if_neg h48, if_neg h52, if_neg h64]; exact hr)
            · refine er_k (pc' := 90) (nI 0) rfl rfl rfl ?_
              refine er_goto rfl ?_
              refine er_isX (pc' := 95) (a) rfl rfl (fun _ => rfl) rfl ha rfl rfl ?_
              refine er_k (pc' := 96) (nI 0) rfl rfl rfl ?_
              refine er_loc (pc' := 98) (L' := [(5, _), (4, _), (0, _), (1, _), (2, _), (3, _)]) rfl rfl rfl ?_
              refine ER_loc [(0, _), (1, _), (5, _)] rfl (List.forall_mem_cons.mpr ⟨rfl, List.forall_mem_cons.mpr ⟨rfl, List.forall_mem_cons.mpr ⟨rfl, fun _ h => absurd h List.not_mem_nil⟩⟩⟩) rfl rfl ?_
              rw [← xSheet_0 ha]
              refine ER.mono (l_sheet_loop d X Z ha b _ 40 0 _ (by omega) rfl) (fun r hr => ?_)
              first | exact absurd h48 h86 | exact absurd h86 h48 | (rw [if_pos h48]; exact hr) | (rw [if_pos h86]; exact hr) | (rw [if_neg h48, if_neg h52, if_neg h64]; exact hr)
          · refine er_loc (pc' := 68) rfl rfl rfl ?_
            refine er_k (pc' := 69) (nI 1) rfl rfl rfl ?_
            refine er_cIz (pc' := 72) (rest := []) 11 rfl rfl rfl rfl rfl rfl (l_error _ _ _ 1 (by decide)) ?_
            intro Z9
            refine er_iret rfl rfl ?_
            rw [if_neg h48, if_neg h52, if_pos h64]
            exact RI_of rfl rfl
        · refine er_loc (pc' := 56) rfl rfl rfl ?_
          refine er_k (pc' := 57) (nI 3) rfl rfl rfl ?_
          refine er_cIz (pc' := 60) (rest := []) 11 rfl rfl rfl rfl rfl rfl (l_error _ _ _ 3 (by decide)) ?_
          intro Z9
          refine er_iret rfl rfl ?_
          rw [if_neg h48, if_pos h52]
          exact RI_of rfl rfl
    · refine er_loc (pc' := 11) rfl rfl rfl ?_
      refine er_k (pc' := 13) (nI 16) rfl rfl rfl ?_
      refine er_cm_eq (pc' := 16) rfl rfl (fun h13 => ?_) (fun h13 => ?_)
      · refine er_k (pc' := 23) (nI 1) rfl rfl rfl ?_
        refine er_goto rfl ?_
        refine er_loc (pc' := 29) (L' := [(4, _), (0, _), (1, _), (2, _), (3, _)]) rfl rfl rfl ?_
        refine er_loc (pc' := 30) rfl rfl rfl ?_
        refine er_cSi (pc' := 33) (rest := []) rfl rfl rfl (l_xSheet _ _ _) ?_
        rw [show sIn (nI a) (nI 0) (nI 3) = true from sIn_t (by omega) (by omega) (by omega)]
        refine er_if_eqF (pc' := 36) rfl (by decide +kernel) rfl ?_
        refine er_loc (pc' := 38) rfl rfl rfl ?_
        refine er_if_neT rfl (by decide +kernel) ?_
        refine er_loc (pc' := 48) rfl rfl rfl ?_
        refine er_if_eq (pc' := 51) rfl rfl (fun h48 => ?_) (fun h48 => ?_)
        · refine er_loc (pc' := 74) rfl rfl rfl ?_
          refine er_gf (pc' := 77) (_) rfl rfl rfl rfl rfl ?_
          refine er_loc (pc' := 78) rfl rfl rfl ?_
          refine er_loc (pc' := 79) rfl rfl rfl ?_
          refine er_isX (pc' := 80) (a) rfl rfl (fun _ => rfl) rfl ha rfl rfl ?_
          refine er_loc (pc' := 81) rfl rfl rfl ?_
          refine er_gf (pc' := 84) (_) rfl rfl rfl rfl rfl ?_
          refine er_loc (pc' := 85) rfl rfl rfl ?_
          refine er_loc (pc' := 86) rfl rfl rfl ?_
          refine er_if_ne (pc' := 89) rfl rfl (fun h86 => ?_) (fun h86 => ?_)
          · refine er_loc (pc' := 94) rfl rfl rfl ?_
            refine er_isX (pc' := 95) (a) rfl rfl (fun _ => rfl) rfl ha rfl rfl ?_
            refine er_k (pc' := 96) (nI 0) rfl rfl rfl ?_
            refine er_loc (pc' := 98) (L' := [(5, _), (4, _), (0, _), (1, _), (2, _), (3, _)]) rfl rfl rfl ?_
            refine ER_loc [(0, _), (1, _), (5, _)] rfl (List.forall_mem_cons.mpr ⟨rfl, List.forall_mem_cons.mpr ⟨rfl, List.forall_mem_cons.mpr ⟨rfl, fun _ h => absurd h List.not_mem_nil⟩⟩⟩) rfl rfl ?_
            rw [← xSheet_0 ha]
            refine ER.mono (l_sheet_loop d X Z ha b _ 40 0 _ (by omega) rfl) (fun r hr => ?_)
            first | exact absurd h48 h86 | exact absurd h86 h48 | (rw [if_pos h48]; exact hr) | (rw [if_pos h86]; exact hr) | (rw [if_neg h48, if_neg h52, if_neg h64]; exact hr)
          · refine er_k (pc' := 90) (nI 0) rfl rfl rfl ?_
            refine er_goto rfl ?_
            refine er_isX (pc' := 95) (a) rfl rfl (fun _ => rfl) rfl ha rfl rfl ?_
            refine er_k (pc' := 96) (nI 0) rfl rfl rfl ?_
            refine er_loc (pc' := 98) (L' := [(5, _), (4, _), (0, _), (1, _), (2, _), (3, _)]) rfl rfl rfl ?_
            refine ER_loc [(0, _), (1, _), (5, _)] rfl (List.forall_mem_cons.mpr ⟨rfl, List.forall_mem_cons.mpr ⟨rfl, List.forall_mem_cons.mpr ⟨rfl, fun _ h => absurd h List.not_mem_nil⟩⟩⟩) rfl rfl ?_
            rw [← xSheet_0 ha]
            refine ER.mono (l_sheet_loop d X Z ha b _ 40 0 _ (by omega) rfl) (fun r hr => ?_)
            first | exact absurd h48 h86 | exact absurd h86 h48 | (rw [if_pos h48]; exact hr) | (rw [if_pos h86]; exact hr) | (rw [if_neg h48, if_neg h52, if_neg h64]; exact hr)
        · refine er_loc (pc' := 52) rfl rfl rfl ?_
          refine er_if_ge (pc' := 55) rfl rfl (fun h52 => ?_) (fun h52 => ?_)
          · refine er_loc (pc' := 62) rfl rfl rfl ?_
            refine er_k (pc' := 64) (nI 40) rfl rfl rfl ?_
            refine er_cm_le (pc' := 67) rfl rfl (fun h64 => ?_) (fun h64 => ?_)
            · refine er_loc (pc' := 74) rfl rfl rfl ?_
              refine er_gf (pc' := 77) (_) rfl rfl rfl rfl rfl ?_
              refine er_loc (pc' := 78) rfl rfl rfl ?_
              refine er_loc (pc' := 79) rfl rfl rfl ?_
              refine er_isX (pc' := 80) (a) rfl rfl (fun _ => rfl) rfl ha rfl rfl ?_
              refine er_loc (pc' := 81) rfl rfl rfl ?_
              refine er_gf (pc' := 84) (_) rfl rfl rfl rfl rfl ?_
              refine er_loc (pc' := 85) rfl rfl rfl ?_
              refine er_loc (pc' := 86) rfl rfl rfl ?_
              refine er_if_ne (pc' := 89) rfl rfl (fun h86 => ?_) (fun h86 => ?_)
              · refine er_loc (pc' := 94) rfl rfl rfl ?_
                refine er_isX (pc' := 95) (a) rfl rfl (fun _ => rfl) rfl ha rfl rfl ?_
                refine er_k (pc' := 96) (nI 0) rfl rfl rfl ?_
                refine er_loc (pc' := 98) (L' := [(5, _), (4, _), (0, _), (1, _), (2, _), (3, _)]) rfl rfl rfl ?_
                refine ER_loc [(0, _), (1, _), (5, _)] rfl (List.forall_mem_cons.mpr ⟨rfl, List.forall_mem_cons.mpr ⟨rfl, List.forall_mem_cons.mpr ⟨rfl, fun _ h => absurd h List.not_mem_nil⟩⟩⟩) rfl rfl ?_
                rw [← xSheet_0 ha]
                refine ER.mono (l_sheet_loop d X Z ha b _ 40 0 _ (by omega) rfl) (fun r hr => ?_)
                first | exact absurd h48 h86 | exact absurd h86 h48 | (rw [if_pos h48]; exact hr) | (rw [if_pos h86]; exact hr) | (rw [if_neg h48, if_neg h52, if_neg h64]; exact hr)
              · refine er_k (pc' := 90) (nI 0) rfl rfl rfl ?_
                refine er_goto rfl ?_
                refine er_isX (pc' := 95) (a) rfl rfl (fun _ => rfl) rfl ha rfl rfl ?_
                refine er_k (pc' := 96) (nI 0) rfl rfl rfl ?_
                refine er_loc (pc' := 98) (L' := [(5, _), (4, _), (0, _), (1, _), (2, _), (3, _)]) rfl rfl rfl ?_
                refine ER_loc [(0, _), (1, _), (5, _)] rfl (List.forall_mem_cons.mpr ⟨rfl, List.forall_mem_cons.mpr ⟨rfl, List.forall_mem_cons.mpr ⟨rfl, fun _ h => absurd h List.not_mem_nil⟩⟩⟩) rfl rfl ?_
                rw [← xSheet_0 ha]
                refine ER.mono (l_sheet_loop d X Z ha b _ 40 0 _ (by omega) rfl) (fun r hr => ?_)
                first | exact absurd h48 h86 | exact absurd h86 h48 | (rw [if_pos h48]; exact hr) | (rw [if_pos h86]; exact hr) | (rw [if_neg h48, if_neg h52, if_neg h64]; exact hr)
            · refine er_loc (pc' := 68) rfl rfl rfl ?_
              refine er_k (pc' := 69) (nI 1) rfl rfl rfl ?_
              refine er_cIz (pc' := 72) (rest := []) 11 rfl rfl rfl rfl rfl rfl (l_error _ _ _ 1 (by decide)) ?_
              intro Z9
              refine er_iret rfl rfl ?_
              rw [if_neg h48, if_neg h52, if_pos h64]
              exact RI_of rfl rfl
          · refine er_loc (pc' := 56) rfl rfl rfl ?_
            refine er_k (pc' := 57) (nI 3) rfl rfl rfl ?_
            refine er_cIz (pc' := 60) (rest := []) 11 rfl rfl rfl rfl rfl rfl (l_error _ _ _ 3 (by decide)) ?_
            intro Z9
            refine er_iret rfl rfl ?_
            rw [if_neg h48, if_pos h52]
            exact RI_of rfl rfl
      · refine er_loc (pc' := 17) rfl rfl rfl ?_
        refine er_k (pc' := 19) (nI 32) rfl rfl rfl ?_
        refine er_cm_ne (pc' := 22) rfl rfl (fun h19 => ?_) (fun h19 => ?_)
        · refine er_k (pc' := 27) (nI 0) rfl rfl rfl ?_
          refine er_loc (pc' := 29) (L' := [(4, _), (0, _), (1, _), (2, _), (3, _)]) rfl rfl rfl ?_
          refine er_loc (pc' := 30) rfl rfl rfl ?_
          refine er_cSi (pc' := 33) (rest := []) rfl rfl rfl (l_xSheet _ _ _) ?_
          rw [show sIn (nI a) (nI 0) (nI 3) = true from sIn_t (by omega) (by omega) (by omega)]
          refine er_if_eqF (pc' := 36) rfl (by decide +kernel) rfl ?_
          refine er_loc (pc' := 38) rfl rfl rfl ?_
          refine er_if_neF (pc' := 41) rfl (by decide +kernel) rfl ?_
          exfalso
          unfold sBits at hb
          simp only [Bool.or_eq_true, decide_eq_true_eq] at hb
          rcases hb with c | c | c | c
          · exact h1 c
          · exact h7 c
          · exact h13 c
          · exact h19 c
        · refine er_k (pc' := 23) (nI 1) rfl rfl rfl ?_
          refine er_goto rfl ?_
          refine er_loc (pc' := 29) (L' := [(4, _), (0, _), (1, _), (2, _), (3, _)]) rfl rfl rfl ?_
          refine er_loc (pc' := 30) rfl rfl rfl ?_
          refine er_cSi (pc' := 33) (rest := []) rfl rfl rfl (l_xSheet _ _ _) ?_
          rw [show sIn (nI a) (nI 0) (nI 3) = true from sIn_t (by omega) (by omega) (by omega)]
          refine er_if_eqF (pc' := 36) rfl (by decide +kernel) rfl ?_
          refine er_loc (pc' := 38) rfl rfl rfl ?_
          refine er_if_neT rfl (by decide +kernel) ?_
          refine er_loc (pc' := 48) rfl rfl rfl ?_
          refine er_if_eq (pc' := 51) rfl rfl (fun h48 => ?_) (fun h48 => ?_)
          · refine er_loc (pc' := 74) rfl rfl rfl ?_
            refine er_gf (pc' := 77) (_) rfl rfl rfl rfl rfl ?_
            refine er_loc (pc' := 78) rfl rfl rfl ?_
            refine er_loc (pc' := 79) rfl rfl rfl ?_
            refine er_isX (pc' := 80) (a) rfl rfl (fun _ => rfl) rfl ha rfl rfl ?_
            refine er_loc (pc' := 81) rfl rfl rfl ?_
            refine er_gf (pc' := 84) (_) rfl rfl rfl rfl rfl ?_
            refine er_loc (pc' := 85) rfl rfl rfl ?_
            refine er_loc (pc' := 86) rfl rfl rfl ?_
            refine er_if_ne (pc' := 89) rfl rfl (fun h86 => ?_) (fun h86 => ?_)
            · refine er_loc (pc' := 94) rfl rfl rfl ?_
              refine er_isX (pc' := 95) (a) rfl rfl (fun _ => rfl) rfl ha rfl rfl ?_
              refine er_k (pc' := 96) (nI 0) rfl rfl rfl ?_
              refine er_loc (pc' := 98) (L' := [(5, _), (4, _), (0, _), (1, _), (2, _), (3, _)]) rfl rfl rfl ?_
              refine ER_loc [(0, _), (1, _), (5, _)] rfl (List.forall_mem_cons.mpr ⟨rfl, List.forall_mem_cons.mpr ⟨rfl, List.forall_mem_cons.mpr ⟨rfl, fun _ h => absurd h List.not_mem_nil⟩⟩⟩) rfl rfl ?_
              rw [← xSheet_0 ha]
              refine ER.mono (l_sheet_loop d X Z ha b _ 40 0 _ (by omega) rfl) (fun r hr => ?_)
              first | exact absurd h48 h86 | exact absurd h86 h48 | (rw [if_pos h48]; exact hr) | (rw [if_pos h86]; exact hr) | (rw [if_neg h48, if_neg h52, if_neg h64]; exact hr)
            · refine er_k (pc' := 90) (nI 0) rfl rfl rfl ?_
              refine er_goto rfl ?_
              refine er_isX (pc' := 95) (a) rfl rfl (fun _ => rfl) rfl ha rfl rfl ?_
              refine er_k (pc' := 96) (nI 0) rfl rfl rfl ?_
              refine er_loc (pc' := 98) (L' := [(5, _), (4, _), (0, _), (1, _), (2, _), (3, _)]) rfl rfl rfl ?_
              refine ER_loc [(0, _), (1, _), (5, _)] rfl (List.forall_mem_cons.mpr ⟨rfl, List.forall_mem_cons.mpr ⟨rfl, List.forall_mem_cons.mpr ⟨rfl, fun _ h => absurd h List.not_mem_nil⟩⟩⟩) rfl rfl ?_
              rw [← xSheet_0 ha]
              refine ER.mono (l_sheet_loop d X Z ha b _ 40 0 _ (by omega) rfl) (fun r hr => ?_)
              first | exact absurd h48 h86 | exact absurd h86 h48 | (rw [if_pos h48]; exact hr) | (rw [if_pos h86]; exact hr) | (rw [if_neg h48, if_neg h52, if_neg h64]; exact hr)
          · refine er_loc (pc' := 52) rfl rfl rfl ?_
            refine er_if_ge (pc' := 55) rfl rfl (fun h52 => ?_) (fun h52 => ?_)
            · refine er_loc (pc' := 62) rfl rfl rfl ?_
              refine er_k (pc' := 64) (nI 40) rfl rfl rfl ?_
              refine er_cm_le (pc' := 67) rfl rfl (fun h64 => ?_) (fun h64 => ?_)
              · refine er_loc (pc' := 74) rfl rfl rfl ?_
                refine er_gf (pc' := 77) (_) rfl rfl rfl rfl rfl ?_
                refine er_loc (pc' := 78) rfl rfl rfl ?_
                refine er_loc (pc' := 79) rfl rfl rfl ?_
                refine er_isX (pc' := 80) (a) rfl rfl (fun _ => rfl) rfl ha rfl rfl ?_
                refine er_loc (pc' := 81) rfl rfl rfl ?_
                refine er_gf (pc' := 84) (_) rfl rfl rfl rfl rfl ?_
                refine er_loc (pc' := 85) rfl rfl rfl ?_
                refine er_loc (pc' := 86) rfl rfl rfl ?_
                refine er_if_ne (pc' := 89) rfl rfl (fun h86 => ?_) (fun h86 => ?_)
                · refine er_loc (pc' := 94) rfl rfl rfl ?_
                  refine er_isX (pc' := 95) (a) rfl rfl (fun _ => rfl) rfl ha rfl rfl ?_
                  refine er_k (pc' := 96) (nI 0) rfl rfl rfl ?_
                  refine er_loc (pc' := 98) (L' := [(5, _), (4, _), (0, _), (1, _), (2, _), (3, _)]) rfl rfl rfl ?_
                  refine ER_loc [(0, _), (1, _), (5, _)] rfl (List.forall_mem_cons.mpr ⟨rfl, List.forall_mem_cons.mpr ⟨rfl, List.forall_mem_cons.mpr ⟨rfl, fun _ h => absurd h List.not_mem_nil⟩⟩⟩) rfl rfl ?_
                  rw [← xSheet_0 ha]
                  refine ER.mono (l_sheet_loop d X Z ha b _ 40 0 _ (by omega) rfl) (fun r hr => ?_)
                  first | exact absurd h48 h86 | exact absurd h86 h48 | (rw [if_pos h48]; exact hr) | (rw [if_pos h86]; exact hr) | (rw [if_neg h48, if_neg h52, if_neg h64]; exact hr)
                · refine er_k (pc' := 90) (nI 0) rfl rfl rfl ?_
                  refine er_goto rfl ?_
                  refine er_isX (pc' := 95) (a) rfl rfl (fun _ => rfl) rfl ha rfl rfl ?_
                  refine er_k (pc' := 96) (nI 0) rfl rfl rfl ?_
                  refine er_loc (pc' := 98) (L' := [(5, _), (4, _), (0, _), (1, _), (2, _), (3, _)]) rfl rfl rfl ?_
                  refine ER_loc [(0, _), (1, _), (5, _)] rfl (List.forall_mem_cons.mpr ⟨rfl, List.forall_mem_cons.mpr ⟨rfl, List.forall_mem_cons.mpr ⟨rfl, fun _ h => absurd h List.not_mem_nil⟩⟩⟩) rfl rfl ?_
                  rw [← xSheet_0 ha]
                  refine ER.mono (l_sheet_loop d X Z ha b _ 40 0 _ (by omega) rfl) (fun r hr => ?_)
                  first | exact absurd h48 h86 | exact absurd h86 h48 | (rw [if_pos h48]; exact hr) | (rw [if_pos h86]; exact hr) | (rw [if_neg h48, if_neg h52, if_neg h64]; exact hr)
              · refine er_loc (pc' := 68) rfl rfl rfl ?_
                refine er_k (pc' := 69) (nI 1) rfl rfl rfl ?_
                refine er_cIz (pc' := 72) (rest := []) 11 rfl rfl rfl rfl rfl rfl (l_error _ _ _ 1 (by decide)) ?_
                intro Z9
                refine er_iret rfl rfl ?_
                rw [if_neg h48, if_neg h52, if_pos h64]
                exact RI_of rfl rfl
            · refine er_loc (pc' := 56) rfl rfl rfl ?_
              refine er_k (pc' := 57) (nI 3) rfl rfl rfl ?_
              refine er_cIz (pc' := 60) (rest := []) 11 rfl rfl rfl rfl rfl rfl (l_error _ _ _ 3 (by decide)) ?_
              intro Z9
              refine er_iret rfl rfl ?_
              rw [if_neg h48, if_pos h52]
              exact RI_of rfl rfl
def jSc (f : Nat → Int32) : Nat → Nat → (Nat → Nat → Int32) → (Nat → Nat → Int32) × Nat
  | 0, i, J => (J, i)
  | m + 1, i, J => if sIn (f i) (nI 0) (nI 9) = true then jSc f m (i + 1) (ud J 3 i (f i)) else (J, i)
theorem min_nI {g n : Nat} (hg : g < 2 ^ 31) (hn : n < 2 ^ 31) : (if nI n < nI g then nI n else nI g) = nI (min g n) := by
  by_cases h : n < g
  · rw [if_pos (nI_lt h hg), show min g n = n by omega]
  · rw [if_neg (nI_nlt (by omega) hn), show min g n = g by omega]
set_option maxRecDepth 100000 in
set_option maxHeartbeats 4000000 in
theorem l_screws_loop (d : Nat) {X : Nat → Nat → Int32} {a : Nat} (ha : a < 4) (P : ab_R → Prop) (e : Nat) (he8 : e ≤ 8) : ∀ (m i : Nat) (X1 Z : Nat → Nat → Int32) (x : Int32), i + m = e → x = nI i → O9 X X1 → (∀ r, RJ (nI (jSc (X (55 + a)) m i (jx X1 9)).2) (jSc (X (55 + a)) m i (jx X1 9)).1 X r → P r) → ER (d + 2) tb_m117 47 [(0, .ref 0), (1, .int (nI a)), (2, .int (nI e)), (3, .int x)] [] (Wd X1 Z) P
  | 0, i, X1, Z, x, hi, hx, ho, hP => by
    have hi0 : i = e := by omega
    subst hx
    subst hi0
    refine er_loc (pc' := 48) rfl rfl rfl ?_
    refine er_loc (pc' := 49) rfl rfl rfl ?_
    refine er_cm_geT rfl (nI_nlt (by omega) (by omega)) ?_
    refine er_loc (pc' := 95) rfl rfl rfl ?_
    refine er_iret rfl rfl ?_
    exact hP _ ⟨X1, Z, rfl, rfl, ho⟩
  | m + 1, i, X1, Z, x, hi, hx, ho, hP => by
    subst hx
    refine er_loc (pc' := 48) rfl rfl rfl ?_
    refine er_loc (pc' := 49) rfl rfl rfl ?_
    refine er_cm_geF (pc' := 52) rfl (nI_lt (by omega) (by omega)) rfl ?_
    refine er_loc (pc' := 53) rfl rfl rfl ?_
    refine er_gf (pc' := 56) (_) rfl rfl rfl rfl rfl ?_
    refine er_loc (pc' := 57) rfl rfl rfl ?_
    refine er_aa (pc' := 58) (a) rfl rfl rfl rfl rfl ha rfl rfl ?_
    refine er_loc (pc' := 59) rfl rfl rfl ?_
    refine er_ia (pc' := 60) (i) rfl (blt_R ha) (cO_R ha _ _) rfl (by omega) rfl rfl ?_
    rw [ho (55 + a) (by omega)]
    refine er_k (pc' := 61) (nI 0) rfl rfl rfl ?_
    refine er_k (pc' := 63) (nI 9) rfl rfl rfl ?_
    refine er_cSi (pc' := 66) (rest := []) rfl rfl rfl (l_within _ _ _ _ _) ?_
    refine er_if_neb (pc' := 69) rfl rfl (fun h66 => ?_) (fun h66 => ?_)
    · refine er_loc (pc' := 72) rfl rfl rfl ?_
      refine er_gf (pc' := 75) (_) rfl rfl rfl rfl rfl ?_
      refine er_gf (pc' := 78) (_) rfl rfl rfl rfl rfl ?_
      refine er_loc (pc' := 79) rfl rfl rfl ?_
      refine er_loc (pc' := 80) rfl rfl rfl ?_
      refine er_gf (pc' := 83) (_) rfl rfl rfl rfl rfl ?_
      refine er_loc (pc' := 84) rfl rfl rfl ?_
      refine er_aa (pc' := 85) (a) rfl rfl rfl rfl rfl ha rfl rfl ?_
      refine er_loc (pc' := 86) rfl rfl rfl ?_
      refine er_ia (pc' := 87) (i) rfl (blt_R ha) (cO_R ha _ _) rfl (by omega) rfl rfl ?_
      rw [ho (55 + a) (by omega)]
      refine er_isX (pc' := 88) (i) rfl rfl (fun _ => rfl) rfl (by omega) rfl rfl ?_
      refine er_loc (L' := [(3, .int (_ + nI 1)), (0, _), (1, _), (2, _)]) rfl rfl rfl ?_
      refine er_goto rfl ?_
      refine ER_loc [(0, _), (1, _), (2, _), (3, _)] rfl (List.forall_mem_cons.mpr ⟨rfl, List.forall_mem_cons.mpr ⟨rfl, List.forall_mem_cons.mpr ⟨rfl, List.forall_mem_cons.mpr ⟨rfl, fun _ h => absurd h List.not_mem_nil⟩⟩⟩⟩) rfl rfl ?_
      have e2 : jSc (X (55 + a)) (m + 1) i (jx X1 9) = jSc (X (55 + a)) m (i + 1) (ud (jx X1 9) 3 i (X (55 + a) i)) := by
        show (if _ then _ else _) = _
        rw [if_pos h66]
      refine l_screws_loop d ha P e he8 m (i + 1) _ _ _ (by omega) (nI_add i 1) (ho.ud (by omega)) (fun r hr => hP r ?_)
      rw [e2, ← jx_ud3 (by omega)]
      exact hr
    · refine er_loc (pc' := 70) rfl rfl rfl ?_
      refine er_iret rfl rfl ?_
      have e2 : jSc (X (55 + a)) (m + 1) i (jx X1 9) = (jx X1 9, i) := by
        show (if _ then _ else _) = _
        rw [if_neg (by rw [h66]; decide)]
      apply hP
      rw [e2]
      exact ⟨X1, Z, rfl, rfl, ho⟩
set_option maxRecDepth 100000 in
set_option maxHeartbeats 4000000 in
theorem l_screws (d : Nat) (X Z : Nat → Nat → Int32) {T : Nat} (hI : IJ T (jx X 9)) {a : Nat} (ha : a < 4) {g : Nat} (hg : X 59 a = nI g) (h40 : g ≤ 40) : EC (d + 3) 117 [.ref 0, .int (nI a)] (Wd X Z) (fun r => if X 60 a = 0 then RI (sErr 2) (xErr X 2) r else RJ (nI (jSc (X (55 + a)) (min g (jn (jx X 9))) 0 (jx X 9)).2) (jSc (X (55 + a)) (min g (jn (jx X 9))) 0 (jx X 9)).1 X r) := by
  refine er_enter (L := [(0, _), (1, _)]) rfl rfl rfl ?_
  have h8 := jn8 hI
  refine er_loc (pc' := 1) rfl rfl rfl ?_
  refine er_cSi (pc' := 4) (rest := []) rfl rfl rfl (l_xSheet _ _ _) ?_
  rw [show sIn (nI a) (nI 0) (nI 3) = true from sIn_t (by omega) (by omega) (by omega)]
  refine er_if_neT rfl (by decide +kernel) ?_
  refine er_loc (pc' := 14) rfl rfl rfl ?_
  refine er_gf (pc' := 17) (_) rfl rfl rfl rfl rfl ?_
  refine er_loc (pc' := 18) rfl rfl rfl ?_
  refine er_ia (pc' := 19) (a) rfl rfl rfl rfl ha rfl rfl ?_
  refine er_if_ne (pc' := 22) rfl rfl (fun h19 => ?_) (fun h19 => ?_)
  · refine er_loc (pc' := 29) rfl rfl rfl ?_
    refine er_gf (pc' := 32) (_) rfl rfl rfl rfl rfl ?_
    refine er_loc (pc' := 33) rfl rfl rfl ?_
    refine er_ia (pc' := 34) (a) rfl rfl rfl rfl ha rfl rfl ?_
    rw [hg]
    refine er_loc (pc' := 35) rfl rfl rfl ?_
    refine er_gf (pc' := 38) (_) rfl rfl rfl rfl rfl ?_
    refine er_gf (pc' := 41) (.int (X 9 1)) rfl rfl rfl rfl rfl ?_
    rw [show X 9 1 = nI (jn (jx X 9)) from hI.n.1]
    refine er_min (pc' := 44) rfl rfl rfl rfl ?_
    rw [min_nI (by omega) (by omega)]
    refine er_loc (pc' := 45) (L' := [(2, _), (0, _), (1, _)]) rfl rfl rfl ?_
    refine er_k (pc' := 46) (nI 0) rfl rfl rfl ?_
    refine er_loc (pc' := 47) (L' := [(3, _), (2, _), (0, _), (1, _)]) rfl rfl rfl ?_
    refine ER_loc [(0, _), (1, _), (2, _), (3, _)] rfl (List.forall_mem_cons.mpr ⟨rfl, List.forall_mem_cons.mpr ⟨rfl, List.forall_mem_cons.mpr ⟨rfl, List.forall_mem_cons.mpr ⟨rfl, fun _ h => absurd h List.not_mem_nil⟩⟩⟩⟩) rfl rfl ?_
    refine l_screws_loop d ha _ (min g (jn (jx X 9))) (by omega) (min g (jn (jx X 9))) 0 X Z _ (by omega) rfl (O9.rf X) (fun r hr => ?_)
    rw [if_neg h19]
    exact hr
  · refine er_loc (pc' := 23) rfl rfl rfl ?_
    refine er_k (pc' := 24) (nI 2) rfl rfl rfl ?_
    refine er_cIz (pc' := 27) (rest := []) 11 rfl rfl rfl rfl rfl rfl (l_error _ _ _ 2 (by decide)) ?_
    intro Z9
    refine er_iret rfl rfl ?_
    rw [if_pos h19]
    exact RI_of rfl rfl
def jdg (J : Nat → Nat → Int32) (f : Nat → Int32) : Nat → Nat → Int32 → Int32
  | 0, _, v => v
  | m + 1, i, v => if f i = sLasts J i then jdg J f m (i + 1) v else nI i
set_option maxRecDepth 100000 in
set_option maxHeartbeats 4000000 in
theorem l_judge_loop (d : Nat) {X : Nat → Nat → Int32} {T : Nat} (hI : IJ T (jx X 9)) {a : Nat} (ha : a < 4) (P : ab_R → Prop) {g : Nat} (hg : X 59 a = nI g) (h40 : g ≤ 40) : ∀ (m i : Nat) (Z : Nat → Nat → Int32) (x : Int32), i + m = min g (jn (jx X 9)) → x = nI i → (∀ r, RI (jdg (jx X 9) (X (55 + a)) m i (if nI g = nI (jn (jx X 9)) then -1 else nI (min g (jn (jx X 9))))) X r → P r) → ER (d + 4) tb_m118 47 [(0, .ref 0), (1, .int (nI a)), (2, .int (nI (min g (jn (jx X 9))))), (3, .int x)] [] (Wd X Z) P
  | 0, i, Z, x, hi, hx, hP => by
    have h8 := jn8 hI
    have hi0 : i = min g (jn (jx X 9)) := by omega
    subst hx
    subst hi0
    refine er_loc (pc' := 48) rfl rfl rfl ?_
    refine er_loc (pc' := 49) rfl rfl rfl ?_
    refine er_cm_geT rfl (nI_nlt (by omega) (by omega)) ?_
    refine er_loc (pc' := 80) rfl rfl rfl ?_
    refine er_gf (pc' := 83) (_) rfl rfl rfl rfl rfl ?_
    refine er_loc (pc' := 84) rfl rfl rfl ?_
    refine er_ia (pc' := 85) (a) rfl rfl rfl rfl ha rfl rfl ?_
    rw [hg]
    refine er_loc (pc' := 86) rfl rfl rfl ?_
    refine er_gf (pc' := 89) (_) rfl rfl rfl rfl rfl ?_
    refine er_gf (pc' := 92) (.int (X 9 1)) rfl rfl rfl rfl rfl ?_
    rw [show X 9 1 = nI (jn (jx X 9)) from hI.n.1]
    refine er_cm_ne (pc' := 95) rfl rfl (fun h92 => ?_) (fun h92 => ?_)
    · refine er_loc (pc' := 100) rfl rfl rfl ?_
      refine er_iret rfl rfl ?_
      apply hP
      show RI (jdg (jx X 9) (X (55 + a)) 0 _ _) X _
      unfold jdg
      first | rw [if_pos h92] | rw [if_neg h92]
      exact ⟨_, rfl⟩
    · refine er_k (pc' := 96) (-1) rfl rfl rfl ?_
      refine er_goto rfl ?_
      refine er_iret rfl rfl ?_
      apply hP
      show RI (jdg (jx X 9) (X (55 + a)) 0 _ _) X _
      unfold jdg
      first | rw [if_pos h92] | rw [if_neg h92]
      exact ⟨_, rfl⟩
  | m + 1, i, Z, x, hi, hx, hP => by
    have h8 := jn8 hI
    subst hx
    refine er_loc (pc' := 48) rfl rfl rfl ?_
    refine er_loc (pc' := 49) rfl rfl rfl ?_
    refine er_cm_geF (pc' := 52) rfl (nI_lt (by omega) (by omega)) rfl ?_
    refine er_loc (pc' := 53) rfl rfl rfl ?_
    refine er_gf (pc' := 56) (_) rfl rfl rfl rfl rfl ?_
    refine er_loc (pc' := 57) rfl rfl rfl ?_
    refine er_aa (pc' := 58) (a) rfl rfl rfl rfl rfl ha rfl rfl ?_
    refine er_loc (pc' := 59) rfl rfl rfl ?_
    refine er_ia (pc' := 60) (i) rfl (blt_R ha) (cO_R ha _ _) rfl (by omega) rfl rfl ?_
    refine er_loc (pc' := 61) rfl rfl rfl ?_
    refine er_gf (pc' := 64) (_) rfl rfl rfl rfl rfl ?_
    refine er_loc (pc' := 65) rfl rfl rfl ?_
    refine er_cIz (pc' := 68) (rest := [_]) 7 rfl rfl rfl rfl rfl rfl (l_lasts _ j9 _ _ hI (k := i) (by omega)) ?_
    intro Z2
    refine er_cm_eq (pc' := 71) rfl rfl (fun h68 => ?_) (fun h68 => ?_)
    · refine er_loc (L' := [(3, .int (_ + nI 1)), (0, _), (1, _), (2, _)]) rfl rfl rfl ?_
      refine er_goto rfl ?_
      refine ER_loc [(0, _), (1, _), (2, _), (3, _)] rfl (List.forall_mem_cons.mpr ⟨rfl, List.forall_mem_cons.mpr ⟨rfl, List.forall_mem_cons.mpr ⟨rfl, List.forall_mem_cons.mpr ⟨rfl, fun _ h => absurd h List.not_mem_nil⟩⟩⟩⟩) rfl rfl ?_
      refine l_judge_loop d hI ha P hg h40 m (i + 1) _ _ (by omega) (nI_add i 1) (fun r hr => hP r ?_)
      have e2 : jdg (jx X 9) (X (55 + a)) (m + 1) i (if nI g = nI (jn (jx X 9)) then -1 else nI (min g (jn (jx X 9)))) = jdg (jx X 9) (X (55 + a)) m (i + 1) (if nI g = nI (jn (jx X 9)) then -1 else nI (min g (jn (jx X 9)))) := by
        show (if _ then _ else _) = _
        rw [if_pos h68]
      rw [e2]
      exact hr
    · refine er_loc (pc' := 72) rfl rfl rfl ?_
      refine er_iret rfl rfl ?_
      apply hP
      have e2 : jdg (jx X 9) (X (55 + a)) (m + 1) i (if nI g = nI (jn (jx X 9)) then -1 else nI (min g (jn (jx X 9)))) = nI i := by
        show (if _ then _ else _) = _
        rw [if_neg h68]
      rw [e2]
      exact ⟨_, rfl⟩
set_option maxRecDepth 100000 in
set_option maxHeartbeats 4000000 in
theorem l_judge (d : Nat) (X Z : Nat → Nat → Int32) {T : Nat} (hI : IJ T (jx X 9)) {a : Nat} (ha : a < 4) {g : Nat} (hg : X 59 a = nI g) (h40 : g ≤ 40) : EC (d + 5) 118 [.ref 0, .int (nI a)] (Wd X Z) (fun r => if X 60 a = 0 then RI (sErr 2) (xErr X 2) r else RI (jdg (jx X 9) (X (55 + a)) (min g (jn (jx X 9))) 0 (if nI g = nI (jn (jx X 9)) then -1 else nI (min g (jn (jx X 9))))) X r) := by
  refine er_enter (L := [(0, _), (1, _)]) rfl rfl rfl ?_
  have h8 := jn8 hI
  refine er_loc (pc' := 1) rfl rfl rfl ?_
  refine er_cSi (pc' := 4) (rest := []) rfl rfl rfl (l_xSheet _ _ _) ?_
  rw [show sIn (nI a) (nI 0) (nI 3) = true from sIn_t (by omega) (by omega) (by omega)]
  refine er_if_neT rfl (by decide +kernel) ?_
  refine er_loc (pc' := 14) rfl rfl rfl ?_
  refine er_gf (pc' := 17) (_) rfl rfl rfl rfl rfl ?_
  refine er_loc (pc' := 18) rfl rfl rfl ?_
  refine er_ia (pc' := 19) (a) rfl rfl rfl rfl ha rfl rfl ?_
  refine er_if_ne (pc' := 22) rfl rfl (fun h19 => ?_) (fun h19 => ?_)
  · refine er_loc (pc' := 29) rfl rfl rfl ?_
    refine er_gf (pc' := 32) (_) rfl rfl rfl rfl rfl ?_
    refine er_loc (pc' := 33) rfl rfl rfl ?_
    refine er_ia (pc' := 34) (a) rfl rfl rfl rfl ha rfl rfl ?_
    rw [hg]
    refine er_loc (pc' := 35) rfl rfl rfl ?_
    refine er_gf (pc' := 38) (_) rfl rfl rfl rfl rfl ?_
    refine er_gf (pc' := 41) (.int (X 9 1)) rfl rfl rfl rfl rfl ?_
    rw [show X 9 1 = nI (jn (jx X 9)) from hI.n.1]
    refine er_min (pc' := 44) rfl rfl rfl rfl ?_
    rw [min_nI (by omega) (by omega)]
    refine er_loc (pc' := 45) (L' := [(2, _), (0, _), (1, _)]) rfl rfl rfl ?_
    refine er_k (pc' := 46) (nI 0) rfl rfl rfl ?_
    refine er_loc (pc' := 47) (L' := [(3, _), (2, _), (0, _), (1, _)]) rfl rfl rfl ?_
    refine ER_loc [(0, _), (1, _), (2, _), (3, _)] rfl (List.forall_mem_cons.mpr ⟨rfl, List.forall_mem_cons.mpr ⟨rfl, List.forall_mem_cons.mpr ⟨rfl, List.forall_mem_cons.mpr ⟨rfl, fun _ h => absurd h List.not_mem_nil⟩⟩⟩⟩) rfl rfl ?_
    refine l_judge_loop d hI ha _ hg h40 (min g (jn (jx X 9))) 0 Z _ (by omega) rfl (fun r hr => ?_)
    rw [if_neg h19]
    exact hr
  · refine er_loc (pc' := 23) rfl rfl rfl ?_
    refine er_k (pc' := 24) (nI 2) rfl rfl rfl ?_
    refine er_cIz (pc' := 27) (rest := []) 11 rfl rfl rfl rfl rfl rfl (l_error _ _ _ 2 (by decide)) ?_
    intro Z9
    refine er_iret rfl rfl ?_
    rw [if_pos h19]
    exact RI_of rfl rfl
end
section
/-! THE FACE: the best order -/
abbrev skT : Type := Int32 × (Nat → Int32) × (Nat → Int32)
def skLoop (J : Nat → Nat → Int32) (dep : Nat) (f : Nat → skT → skT) : Nat → Nat → skT → skT
  | 0, _, s => s
  | m + 1, i, s => skLoop J dep f m (i + 1) (if sMayDo J i = true then f i (s.1, s.2.1, u1 s.2.2 dep (nI i)) else s)
def sk : Nat → Nat → (Nat → Nat → Int32) → skT → skT
  | 0, _, _, s => s
  | F + 1, dep, J, s => if sOpen J = 0 then (if s.1 < 0 ∨ J 0 10 < s.1 then (J 0 10, cpf s.2.2 s.2.1 0 0 5, s.2.2) else s) else if 5 ≤ dep then s else skLoop J dep (fun i t => sk F (dep + 1) (jPass J i) t) (jn J) 0 s
theorem skLoop_succ {J : Nat → Nat → Int32} {dep m i : Nat} {f : Nat → skT → skT} {s : skT} : skLoop J dep f (m + 1) i s = skLoop J dep f m (i + 1) (if sMayDo J i = true then f i (s.1, s.2.1, u1 s.2.2 dep (nI i)) else s) := rfl
theorem with_back {x : Int32} {k : Nat} (hk : k < 8) (h : bt x k = false) : sWith (sWith x (nI k) true) (nI k) false = x := by
  apply bt_ext
  intro i hi
  rw [bt_with (by omega), bt_with (by omega)]
  by_cases hik : i = k
  · subst hik; rw [if_pos rfl, h]
  · rw [if_neg hik, if_neg hik]
theorem xUnpass_pass {X : Nat → Nat → Int32} {b k : Nat} (hk : k < 8) (h : sBit (X b 6) (nI k) = false) : xUnpass (xPass X b k) b k (X b 9) (X b 10) = X := by
  rw [sBit_bt (by omega)] at h
  funext i j
  unfold xUnpass xPass
  simp only [ud_at]
  by_cases hi : i = b
  · subst hi
    simp only [if_true]
    by_cases h10 : j = 10
    · subst h10; simp
    · by_cases h9 : j = 9
      · subst h9; simp
      · by_cases h6 : j = 6
        · subst h6; simp [with_back hk h]
        · simp [h10, h9, h6]
  · simp [hi]
def PB (X : Nat → Nat → Int32) (s : skT) : Nat → Nat → Int32 := uc (uc X 61 s.2.2) 62 s.2.1
theorem PB_j {X : Nat → Nat → Int32} {s : skT} : jx (PB X s) 35 = jx X 35 := jx_off (fun c _ hc => by unfold PB; rw [uc_ne (by omega), uc_ne (by omega)])
theorem PB_35 {X : Nat → Nat → Int32} {s : skT} : PB X s 35 = X 35 := by unfold PB; rw [uc_ne (by omega), uc_ne (by omega)]
theorem PB_61 {X : Nat → Nat → Int32} {s : skT} : PB X s 61 = s.2.2 := by unfold PB; rw [uc_ne (by omega), uc_same]
theorem PB_62 {X : Nat → Nat → Int32} {s : skT} : PB X s 62 = s.2.1 := by unfold PB; rw [uc_same]
theorem uc_comm {X : Nat → Nat → Int32} {a b : Nat} {f g : Nat → Int32} (h : a ≠ b) : uc (uc X a f) b g = uc (uc X b g) a f := by
  funext i
  unfold uc
  by_cases h1 : i = a
  · subst h1; rw [if_neg h, if_pos rfl, if_pos rfl]
  · rw [if_neg h1, if_neg h1]
theorem PB_path {X : Nat → Nat → Int32} {l : Int32} {p q : Nat → Int32} {dep : Nat} {v : Int32} : ud (PB X (l, p, q)) 61 dep v = PB X (l, p, u1 q dep v) := by
  unfold ud
  rw [PB_61]
  unfold PB
  rw [uc_comm (show 62 ≠ 61 by omega), uc_uc]
theorem PB_best {X : Nat → Nat → Int32} {l l' : Int32} {p p' q : Nat → Int32} : uc (PB X (l, p, q)) 62 p' = PB X (l', p', q) := by
  unfold PB
  rw [uc_uc]
theorem PB_ud {X : Nat → Nat → Int32} {s : skT} {k : Nat} {v : Int32} : ud (PB X s) 35 k v = PB (ud X 35 k v) s := by
  unfold ud
  rw [PB_35]
  unfold PB
  rw [uc_comm (show 62 ≠ 35 by omega), uc_comm (show 61 ≠ 35 by omega)]
theorem PB_pass {X : Nat → Nat → Int32} {s : skT} {k : Nat} : xPass (PB X s) 35 k = PB (xPass X 35 k) s := by
  unfold xPass
  rw [PB_j, PB_35, show PB X s (35 + 3) = X (35 + 3) from by unfold PB; rw [uc_ne (by omega), uc_ne (by omega)], PB_ud, PB_ud, PB_ud]
theorem PB_unpass {X : Nat → Nat → Int32} {s : skT} {k : Nat} {g t : Int32} : xUnpass (PB X s) 35 k g t = PB (xUnpass X 35 k g t) s := by
  unfold xUnpass
  rw [PB_35, PB_ud, PB_ud, PB_ud]
set_option maxRecDepth 100000 in
set_option maxHeartbeats 4000000 in
theorem l_seek_loop (d F : Nat) (X : Nat → Nat → Int32) (dep : Nat) (hd : dep < 5) {T : Nat} (hI : IJ T (jx X 35)) (hT : T < 1000000000) (hrec : ∀ (X1 Z : Nat → Nat → Int32) (l : Int32) (p q : Nat → Int32) (i : Nat), sMayDo (jx X 35) i = true → jx X1 35 = jPass (jx X 35) i → EC (d + 6 + F) 97 [.ref 35, .ref 61, .ref 62, .int (nI (dep + 1)), .int l] (Wd (PB X1 (l, p, q)) Z) (RI (sk F (dep + 1) (jPass (jx X 35) i) (l, p, q)).1 (PB X1 (sk F (dep + 1) (jPass (jx X 35) i) (l, p, q))))) : ∀ (m i : Nat) (x : Int32) (Z : Nat → Nat → Int32) (l : Int32) (p q : Nat → Int32), i + m = jn (jx X 35) → x = nI i → ER (d + 6 + F) tb_m97 70 [(0, .ref 35), (1, .ref 61), (2, .ref 62), (3, .int (nI dep)), (5, .int (X 35 9)), (6, .int (X 35 10)), (7, .int l), (8, .int x)] [] (Wd (PB X (l, p, q)) Z) (RI (skLoop (jx X 35) dep (fun i t => sk F (dep + 1) (jPass (jx X 35) i) t) m i (l, p, q)).1 (PB X (skLoop (jx X 35) dep (fun i t => sk F (dep + 1) (jPass (jx X 35) i) t) m i (l, p, q))))
  | 0, i, x, Z, l, p, q, hi, hx => by
    have hI1 : IJ T (jx (PB X (l, p, q)) 35) := by rw [PB_j]; exact hI
    have h8 := jn8 hI
    subst hx
    refine er_loc (pc' := 72) rfl rfl rfl ?_
    refine er_loc (pc' := 73) rfl rfl rfl ?_
    refine er_gf (pc' := 76) (.int (X 35 1)) rfl rfl rfl rfl rfl ?_
    rw [show X 35 1 = nI (jn (jx X 35)) from hI.n.1]
    have hi0 : i = jn (jx X 35) := by omega
    refine er_cm_geT rfl (nI_nlt (by omega) (by omega)) ?_
    refine er_loc (pc' := 130) rfl rfl rfl ?_
    refine er_iret rfl rfl ?_
    exact ⟨_, rfl⟩
  | m + 1, i, x, Z, l, p, q, hi, hx => by
    have hI1 : IJ T (jx (PB X (l, p, q)) 35) := by rw [PB_j]; exact hI
    have h8 := jn8 hI
    subst hx
    refine er_loc (pc' := 72) rfl rfl rfl ?_
    refine er_loc (pc' := 73) rfl rfl rfl ?_
    refine er_gf (pc' := 76) (.int (X 35 1)) rfl rfl rfl rfl rfl ?_
    rw [show X 35 1 = nI (jn (jx X 35)) from hI.n.1]
    refine er_cm_geF (pc' := 79) rfl (nI_lt (by omega) (by omega)) rfl ?_
    refine er_loc (pc' := 80) rfl rfl rfl ?_
    refine er_loc (pc' := 82) rfl rfl rfl ?_
    refine er_cIi (pc' := 85) (rest := []) 7 rfl rfl rfl rfl rfl rfl (EC.up (l_mayBeDone d j35 _ _ hI1 (k := i) (by rw [PB_j]; omega)) (by omega)) ?_
    rw [PB_j]
    refine er_if_eqb (pc' := 88) rfl rfl (fun h85 => ?_) (fun h85 => ?_)
    · refine er_loc (L' := [(8, .int (_ + nI 1)), (0, _), (1, _), (2, _), (3, _), (5, _), (6, _), (7, _)]) (pc' := 125) rfl rfl rfl ?_
      refine er_goto rfl ?_
      refine ER_loc [(0, _), (1, _), (2, _), (3, _), (5, _), (6, _), (7, _), (8, _)] rfl (List.forall_mem_cons.mpr ⟨rfl, List.forall_mem_cons.mpr ⟨rfl, List.forall_mem_cons.mpr ⟨rfl, List.forall_mem_cons.mpr ⟨rfl, List.forall_mem_cons.mpr ⟨rfl, List.forall_mem_cons.mpr ⟨rfl, List.forall_mem_cons.mpr ⟨rfl, List.forall_mem_cons.mpr ⟨rfl, fun _ h => absurd h List.not_mem_nil⟩⟩⟩⟩⟩⟩⟩⟩) rfl rfl ?_
      rw [skLoop_succ, if_neg (by rw [h85]; decide)]
      exact l_seek_loop d F X dep hd hI hT hrec m (i + 1) _ Z _ _ _ (by omega) (nI_add i 1)
    · have hm := mayDo_k h85
      refine er_loc (pc' := 89) rfl rfl rfl ?_
      refine er_loc (pc' := 90) rfl rfl rfl ?_
      refine er_loc (pc' := 92) rfl rfl rfl ?_
      refine er_isX (pc' := 93) (dep) rfl rfl (fun _ => rfl) rfl (by omega) rfl rfl ?_
      rw [PB_path]
      have hI2 : IJ T (jx (PB X (l, p, u1 q dep (nI i))) 35) := by rw [PB_j]; exact hI
      refine er_loc (pc' := 94) rfl rfl rfl ?_
      refine er_loc (pc' := 96) rfl rfl rfl ?_
      refine er_cIv (pc' := 99) (rest := []) 7 rfl rfl rfl rfl rfl rfl (EC.up (l_pass d j35 _ _ hI2 (k := i) (by rw [PB_j]; omega)) (by omega)) ?_
      intro Z7
      rw [PB_pass]
      have hjP : jx (xPass X 35 i) 35 = jPass (jx X 35) i := jx_xPass (by omega)
      refine er_loc (pc' := 100) rfl rfl rfl ?_
      refine er_loc (pc' := 101) rfl rfl rfl ?_
      refine er_loc (pc' := 102) rfl rfl rfl ?_
      refine er_loc (pc' := 103) rfl rfl rfl ?_
      refine er_k (pc' := 104) (nI 1) rfl rfl rfl ?_
      refine er_iadd (pc' := 105) rfl rfl ?_
      rw [nI_add]
      refine er_loc (pc' := 107) rfl rfl rfl ?_
      refine er_cSz (pc' := 110) (rest := []) rfl rfl rfl (hrec (xPass X 35 i) Z7 l p (u1 q dep (nI i)) i h85 hjP) ?_
      intro Z8
      refine er_loc (L' := [(7, _), (0, _), (1, _), (2, _), (3, _), (5, _), (6, _), (8, _)]) (pc' := 112) rfl rfl rfl ?_
      refine er_loc (pc' := 113) rfl rfl rfl ?_
      refine er_loc (pc' := 115) rfl rfl rfl ?_
      refine er_loc (pc' := 117) rfl rfl rfl ?_
      refine er_loc (pc' := 119) rfl rfl rfl ?_
      refine er_cIv (pc' := 122) (rest := []) 7 rfl rfl rfl rfl rfl rfl (EC.up (l_unpass d j35 _ _ _ _ _) (by omega)) ?_
      intro Z9
      rw [PB_unpass, xUnpass_pass (by omega) (by have := hm.2.1; unfold sDone at this; rw [jx06] at this; exact this)]
      refine er_loc (L' := [(8, .int (_ + nI 1)), (7, _), (0, _), (1, _), (2, _), (3, _), (5, _), (6, _)]) (pc' := 125) rfl rfl rfl ?_
      refine er_goto rfl ?_
      refine ER_loc [(0, _), (1, _), (2, _), (3, _), (5, _), (6, _), (7, _), (8, _)] rfl (List.forall_mem_cons.mpr ⟨rfl, List.forall_mem_cons.mpr ⟨rfl, List.forall_mem_cons.mpr ⟨rfl, List.forall_mem_cons.mpr ⟨rfl, List.forall_mem_cons.mpr ⟨rfl, List.forall_mem_cons.mpr ⟨rfl, List.forall_mem_cons.mpr ⟨rfl, List.forall_mem_cons.mpr ⟨rfl, fun _ h => absurd h List.not_mem_nil⟩⟩⟩⟩⟩⟩⟩⟩) rfl rfl ?_
      rw [skLoop_succ, if_pos h85]
      generalize sk F (dep + 1) (jPass (jx X 35) i) (l, p, u1 q dep (nI i)) = t
      obtain ⟨l', p', q'⟩ := t
      exact l_seek_loop d F X dep hd hI hT hrec m (i + 1) _ _ _ _ _ (by omega) (nI_add i 1)
set_option maxRecDepth 100000 in
set_option maxHeartbeats 4000000 in
theorem l_seekBest (d : Nat) : ∀ (F dep : Nat) (X Z : Nat → Nat → Int32) (l : Int32) (p q : Nat → Int32) (T : Nat), dep + F = 5 → IJ T (jx X 35) → T + 300 * F < 1000000000 → EC (d + 6 + F + 1) 97 [.ref 35, .ref 61, .ref 62, .int (nI dep), .int l] (Wd (PB X (l, p, q)) Z) (RI (sk (F + 1) dep (jx X 35) (l, p, q)).1 (PB X (sk (F + 1) dep (jx X 35) (l, p, q)))) := by
  intro F
  induction F with
  | zero =>
    intro dep X Z l p q T hd hI hT
    have hO : (sk (0 + 1) dep (jx X 35) (l, p, q)) = if sOpen (jx X 35) = 0 then (if l < 0 ∨ jx X 35 0 10 < l then (jx X 35 0 10, cpf q p 0 0 5, q) else (l, p, q)) else if 5 ≤ dep then (l, p, q) else skLoop (jx X 35) dep (fun i t => sk 0 (dep + 1) (jPass (jx X 35) i) t) (jn (jx X 35)) 0 (l, p, q) := rfl
    rw [hO]
    refine er_enter (L := [(0, _), (1, _), (2, _), (3, _), (4, _)]) rfl rfl rfl ?_
    refine er_loc (pc' := 1) rfl rfl rfl ?_
    refine er_cIi (pc' := 4) (rest := []) 7 rfl rfl rfl rfl rfl rfl (EC.up (l_howManyOpen d j35 _ _) (by omega)) ?_
    rw [PB_j]
    refine er_if_ne (pc' := 7) rfl rfl (fun h4 => ?_) (fun h4 => ?_)
    rotate_left
    · rw [if_pos h4, jx010]
      refine er_loc (pc' := 9) rfl rfl rfl ?_
      refine er_if_lt (pc' := 12) rfl rfl (fun h9 => ?_) (fun h9 => ?_)
      · rw [if_pos (Or.inl h9)]
        refine er_loc (pc' := 25) rfl rfl rfl ?_
        refine er_k (pc' := 26) (nI 0) rfl rfl rfl ?_
        refine er_loc (pc' := 27) rfl rfl rfl ?_
        refine er_k (pc' := 28) (nI 0) rfl rfl rfl ?_
        refine er_loc (pc' := 29) rfl rfl rfl ?_
        refine er_al (pc' := 30) rfl rfl rfl rfl ?_
        refine er_cpX (pc' := 33) (0) (0) (5) rfl rfl rfl rfl rfl rfl (fun _ => rfl) rfl rfl rfl (by omega) (by omega) rfl rfl ?_
        refine er_loc (pc' := 34) rfl rfl rfl ?_
        refine er_gf (pc' := 37) (.int (X 35 10)) rfl rfl rfl rfl rfl ?_
        refine er_iret rfl rfl ?_
        exact RI_of rfl (by rw [PB_61, PB_62]; exact PB_best)
      · refine er_loc (pc' := 13) rfl rfl rfl ?_
        refine er_gf (pc' := 16) (.int (X 35 10)) rfl rfl rfl rfl rfl ?_
        refine er_loc (pc' := 18) rfl rfl rfl ?_
        refine er_cm_lt (pc' := 21) rfl rfl (fun h18 => ?_) (fun h18 => ?_)
        · rw [if_pos (Or.inr h18)]
          refine er_loc (pc' := 25) rfl rfl rfl ?_
          refine er_k (pc' := 26) (nI 0) rfl rfl rfl ?_
          refine er_loc (pc' := 27) rfl rfl rfl ?_
          refine er_k (pc' := 28) (nI 0) rfl rfl rfl ?_
          refine er_loc (pc' := 29) rfl rfl rfl ?_
          refine er_al (pc' := 30) rfl rfl rfl rfl ?_
          refine er_cpX (pc' := 33) (0) (0) (5) rfl rfl rfl rfl rfl rfl (fun _ => rfl) rfl rfl rfl (by omega) (by omega) rfl rfl ?_
          refine er_loc (pc' := 34) rfl rfl rfl ?_
          refine er_gf (pc' := 37) (.int (X 35 10)) rfl rfl rfl rfl rfl ?_
          refine er_iret rfl rfl ?_
          exact RI_of rfl (by rw [PB_61, PB_62]; exact PB_best)
        · rw [if_neg (fun c => c.elim h9 h18)]
          refine er_loc (pc' := 23) rfl rfl rfl ?_
          refine er_iret rfl rfl ?_
          exact RI_of rfl rfl
    · rw [if_neg h4]
      refine er_loc (pc' := 39) rfl rfl rfl ?_
      refine er_if_ltF (pc' := 42) rfl (nI_pos (by omega)) rfl ?_
      refine er_loc (pc' := 43) rfl rfl rfl ?_
      refine er_loc (pc' := 44) rfl rfl rfl ?_
      refine er_al (pc' := 45) rfl rfl rfl rfl ?_
      refine er_cm_ltF (pc' := 48) rfl (nI_nlt (by omega) (by omega)) rfl ?_
      refine er_loc (pc' := 50) rfl rfl rfl ?_
      refine er_iret rfl rfl ?_
      rw [if_pos (by omega)]
      exact RI_of rfl rfl
  | succ F ih =>
    intro dep X Z l p q T hd hI hT
    have hO : (sk ((F + 1) + 1) dep (jx X 35) (l, p, q)) = if sOpen (jx X 35) = 0 then (if l < 0 ∨ jx X 35 0 10 < l then (jx X 35 0 10, cpf q p 0 0 5, q) else (l, p, q)) else if 5 ≤ dep then (l, p, q) else skLoop (jx X 35) dep (fun i t => sk (F + 1) (dep + 1) (jPass (jx X 35) i) t) (jn (jx X 35)) 0 (l, p, q) := rfl
    rw [hO]
    refine er_enter (L := [(0, _), (1, _), (2, _), (3, _), (4, _)]) rfl rfl rfl ?_
    refine er_loc (pc' := 1) rfl rfl rfl ?_
    refine er_cIi (pc' := 4) (rest := []) 7 rfl rfl rfl rfl rfl rfl (EC.up (l_howManyOpen d j35 _ _) (by omega)) ?_
    rw [PB_j]
    refine er_if_ne (pc' := 7) rfl rfl (fun h4 => ?_) (fun h4 => ?_)
    rotate_left
    · rw [if_pos h4, jx010]
      refine er_loc (pc' := 9) rfl rfl rfl ?_
      refine er_if_lt (pc' := 12) rfl rfl (fun h9 => ?_) (fun h9 => ?_)
      · rw [if_pos (Or.inl h9)]
        refine er_loc (pc' := 25) rfl rfl rfl ?_
        refine er_k (pc' := 26) (nI 0) rfl rfl rfl ?_
        refine er_loc (pc' := 27) rfl rfl rfl ?_
        refine er_k (pc' := 28) (nI 0) rfl rfl rfl ?_
        refine er_loc (pc' := 29) rfl rfl rfl ?_
        refine er_al (pc' := 30) rfl rfl rfl rfl ?_
        refine er_cpX (pc' := 33) (0) (0) (5) rfl rfl rfl rfl rfl rfl (fun _ => rfl) rfl rfl rfl (by omega) (by omega) rfl rfl ?_
        refine er_loc (pc' := 34) rfl rfl rfl ?_
        refine er_gf (pc' := 37) (.int (X 35 10)) rfl rfl rfl rfl rfl ?_
        refine er_iret rfl rfl ?_
        exact RI_of rfl (by rw [PB_61, PB_62]; exact PB_best)
      · refine er_loc (pc' := 13) rfl rfl rfl ?_
        refine er_gf (pc' := 16) (.int (X 35 10)) rfl rfl rfl rfl rfl ?_
        refine er_loc (pc' := 18) rfl rfl rfl ?_
        refine er_cm_lt (pc' := 21) rfl rfl (fun h18 => ?_) (fun h18 => ?_)
        · rw [if_pos (Or.inr h18)]
          refine er_loc (pc' := 25) rfl rfl rfl ?_
          refine er_k (pc' := 26) (nI 0) rfl rfl rfl ?_
          refine er_loc (pc' := 27) rfl rfl rfl ?_
          refine er_k (pc' := 28) (nI 0) rfl rfl rfl ?_
          refine er_loc (pc' := 29) rfl rfl rfl ?_
          refine er_al (pc' := 30) rfl rfl rfl rfl ?_
          refine er_cpX (pc' := 33) (0) (0) (5) rfl rfl rfl rfl rfl rfl (fun _ => rfl) rfl rfl rfl (by omega) (by omega) rfl rfl ?_
          refine er_loc (pc' := 34) rfl rfl rfl ?_
          refine er_gf (pc' := 37) (.int (X 35 10)) rfl rfl rfl rfl rfl ?_
          refine er_iret rfl rfl ?_
          exact RI_of rfl (by rw [PB_61, PB_62]; exact PB_best)
        · rw [if_neg (fun c => c.elim h9 h18)]
          refine er_loc (pc' := 23) rfl rfl rfl ?_
          refine er_iret rfl rfl ?_
          exact RI_of rfl rfl
    · rw [if_neg h4]
      refine er_loc (pc' := 39) rfl rfl rfl ?_
      refine er_if_ltF (pc' := 42) rfl (nI_pos (by omega)) rfl ?_
      refine er_loc (pc' := 43) rfl rfl rfl ?_
      refine er_loc (pc' := 44) rfl rfl rfl ?_
      refine er_al (pc' := 45) rfl rfl rfl rfl ?_
      refine er_cm_ltT rfl (nI_lt (by omega) (by omega)) ?_
      refine er_loc (pc' := 52) rfl rfl rfl ?_
      refine er_gf (pc' := 55) (.int (X 35 9)) rfl rfl rfl rfl rfl ?_
      refine er_loc (L' := [(5, _), (0, _), (1, _), (2, _), (3, _), (4, _)]) (pc' := 57) rfl rfl rfl ?_
      refine er_loc (pc' := 58) rfl rfl rfl ?_
      refine er_gf (pc' := 61) (.int (X 35 10)) rfl rfl rfl rfl rfl ?_
      refine er_loc (L' := [(6, _), (5, _), (0, _), (1, _), (2, _), (3, _), (4, _)]) (pc' := 63) rfl rfl rfl ?_
      refine er_loc (pc' := 65) rfl rfl rfl ?_
      refine er_loc (L' := [(7, _), (6, _), (5, _), (0, _), (1, _), (2, _), (3, _), (4, _)]) (pc' := 67) rfl rfl rfl ?_
      refine er_k (pc' := 68) (nI 0) rfl rfl rfl ?_
      refine er_loc (L' := [(8, _), (7, _), (6, _), (5, _), (0, _), (1, _), (2, _), (3, _), (4, _)]) (pc' := 70) rfl rfl rfl ?_
      rw [if_neg (by omega)]
      refine ER_loc [(0, _), (1, _), (2, _), (3, _), (5, _), (6, _), (7, _), (8, _)] rfl (List.forall_mem_cons.mpr ⟨rfl, List.forall_mem_cons.mpr ⟨rfl, List.forall_mem_cons.mpr ⟨rfl, List.forall_mem_cons.mpr ⟨rfl, List.forall_mem_cons.mpr ⟨rfl, List.forall_mem_cons.mpr ⟨rfl, List.forall_mem_cons.mpr ⟨rfl, List.forall_mem_cons.mpr ⟨rfl, fun _ h => absurd h List.not_mem_nil⟩⟩⟩⟩⟩⟩⟩⟩) rfl rfl ?_
      refine l_seek_loop d (F + 1) X dep (by omega) hI (by omega) ?_ (jn (jx X 35)) 0 _ Z l p q (by omega) rfl
      intro X1 Z1 l1 p1 q1 i hm hj
      have h := ih (dep + 1) X1 Z1 l1 p1 q1 (T + 300) (by omega) (by rw [hj]; exact hI.pass (by omega) hm) (by omega)
      rw [hj] at h
      exact EC.up h (by omega)
end
section
/-! THE FACE: order, orders -/
def OP (X X' : Nat → Nat → Int32) : Prop := ∀ c, (c < 35 ∨ 35 + 12 < c) → c ≠ 61 → c ≠ 62 → X' c = X c
def sOrd (X : Nat → Nat → Int32) : skT := sk 6 0 (jx X 9) (-1, X 62, X 61)
theorem PB_id {X : Nat → Nat → Int32} {l : Int32} : PB X (l, X 62, X 61) = X := by
  unfold PB
  rw [uc_id]
  exact uc_id X 62
theorem OP.pb {X X1 : Nat → Nat → Int32} (h : OT X X1) {s : skT} : OP X (PB X1 s) := fun c hc h1 h2 => by
  unfold PB
  rw [uc_ne h2, uc_ne h1]
  exact h c hc
def OrP (X : Nat → Nat → Int32) (w : Int32) : ab_R → Prop := fun r => if nI 5 < sOpen (jx X 9) then RI (sErr 3) (xErr X 3) r else if (sOrd X).1 < 0 ∨ ¬ w < sOpen (jx X 9) then (∃ X1, OP X X1 ∧ RI (sErr 2) (xErr X1 2) r) else (∃ X1, OP X X1 ∧ RI (if w < 0 then (sOrd X).1 - jx X 9 0 10 else (sOrd X).2.1 (nN w)) X1 r)
set_option maxRecDepth 100000 in
set_option maxHeartbeats 4000000 in
theorem l_order (d : Nat) (X Z : Nat → Nat → Int32) {T : Nat} (hI : IJ T (jx X 9)) (hT9 : T < 1000000) (w : Int32) : EC (d + 13) 96 [.ref 0, .int w] (Wd X Z) (fun r => if sIn w (-1) (nI 4) = true then OrP X w r else RI (sErr 1) (xErr X 1) r) := by
  refine er_enter (L := [(0, _), (1, _)]) rfl rfl rfl ?_
  refine er_loc (pc' := 1) rfl rfl rfl ?_
  refine er_k (pc' := 2) (-1) rfl rfl rfl ?_
  refine er_k (pc' := 3) (nI 4) rfl rfl rfl ?_
  refine er_cSi (pc' := 6) (rest := []) rfl rfl rfl (l_within _ _ _ _ _) ?_
  refine er_if_neb (pc' := 9) rfl rfl (fun h6 => ?_) (fun h6 => ?_)
  · refine er_loc (pc' := 16) rfl rfl rfl ?_
    refine er_gf (pc' := 19) (_) rfl rfl rfl rfl rfl ?_
    refine er_cIi (pc' := 22) (rest := []) 7 rfl rfl rfl rfl rfl rfl (l_howManyOpen _ j9 _ _) ?_
    refine er_loc (pc' := 23) (L' := [(2, _), (0, _), (1, _)]) rfl rfl rfl ?_
    refine er_loc (pc' := 24) rfl rfl rfl ?_
    refine er_k (pc' := 25) (nI 5) rfl rfl rfl ?_
    refine er_cm_le (pc' := 28) rfl rfl (fun h25 => ?_) (fun h25 => ?_)
    · refine er_loc (pc' := 35) rfl rfl rfl ?_
      refine er_gf (pc' := 38) (_) rfl rfl rfl rfl rfl ?_
      refine er_loc (pc' := 39) rfl rfl rfl ?_
      refine er_gf (pc' := 42) (_) rfl rfl rfl rfl rfl ?_
      refine er_cIt (pc' := 45) (rest := []) 7 rfl rfl rfl rfl rfl rfl (l_take_35_9 _ _ _ hI) ?_
      intro X1 Z1 hj1 ho1
      refine er_loc (pc' := 46) rfl rfl rfl ?_
      refine er_gf (pc' := 49) (_) rfl rfl rfl rfl rfl ?_
      refine er_loc (pc' := 50) rfl rfl rfl ?_
      refine er_gf (pc' := 53) (_) rfl rfl rfl rfl rfl ?_
      refine er_loc (pc' := 54) rfl rfl rfl ?_
      refine er_gf (pc' := 57) (_) rfl rfl rfl rfl rfl ?_
      refine er_k (pc' := 58) (nI 0) rfl rfl rfl ?_
      refine er_k (pc' := 59) (-1) rfl rfl rfl ?_
      have hj9 : jx X1 35 = jx X 9 := hj1
      have hs : sk 6 0 (jx X1 35) (-1, X1 62, X1 61) = sOrd X := by rw [hj9, ho1 61 (by omega), ho1 62 (by omega)]; rfl
      have hS := l_seekBest d 5 0 X1 Z1 (-1) (X1 62) (X1 61) T (by omega) (by rw [hj9]; exact hI) (by omega)
      rw [show 5 + 1 = 6 from rfl, hs, PB_id] at hS
      have hoP : OP X (PB X1 (sOrd X)) := OP.pb ho1
      refine er_cSz (pc' := 62) (rest := []) rfl rfl rfl hS ?_
      intro Z3
      refine er_loc (L' := [(3, _), (2, _), (0, _), (1, _)]) (pc' := 63) rfl rfl rfl ?_
      refine er_loc (pc' := 64) rfl rfl rfl ?_
      refine er_if_lt (pc' := 67) rfl rfl (fun h64 => ?_) (fun h64 => ?_)
      · refine er_loc (pc' := 73) rfl rfl rfl ?_
        refine er_k (pc' := 74) (nI 2) rfl rfl rfl ?_
        refine er_cIz (pc' := 77) (rest := []) 11 rfl rfl rfl rfl rfl rfl (l_error _ _ _ 2 (by decide)) ?_
        intro Z9
        refine er_iret rfl rfl ?_
        show (if _ then OrP X w _ else _)
        unfold OrP
        rw [if_pos h6, if_neg h25, if_pos (Or.inl h64)]
        exact ⟨_, hoP, RI_of rfl rfl⟩
      · refine er_loc (pc' := 68) rfl rfl rfl ?_
        refine er_loc (pc' := 69) rfl rfl rfl ?_
        refine er_cm_lt (pc' := 72) rfl rfl (fun h69 => ?_) (fun h69 => ?_)
        · refine er_loc (pc' := 79) rfl rfl rfl ?_
          refine er_if_ge (pc' := 82) rfl rfl (fun h79 => ?_) (fun h79 => ?_)
          · refine er_loc (pc' := 95) rfl rfl rfl ?_
            refine er_gf (pc' := 98) (_) rfl rfl rfl rfl rfl ?_
            refine er_loc (pc' := 99) rfl rfl rfl ?_
            have hw4 : ∃ j, j ≤ 4 ∧ w = nI j := by
              have h6' : sIn w (nI 0) (nI 4) = true := by
                unfold sIn at h6 ⊢
                simp only [Bool.and_eq_true, Bool.not_eq_true', decide_eq_false_iff_not] at h6 ⊢
                exact ⟨h79, h6.2⟩
              obtain ⟨j, _, h2, h3⟩ := sIn_ex (by omega) (by omega) h6'
              exact ⟨j, h2, h3⟩
            obtain ⟨j, hj4, hjw⟩ := hw4
            have hnw : nN w = j := by rw [hjw]; exact nN_nI (by omega)
            refine er_ia (pc' := 100) (nN w) rfl rfl rfl (by rw [hnw]; exact hjw) (by omega) rfl rfl ?_
            refine er_iret rfl rfl ?_
            show (if _ then OrP X w _ else _)
            unfold OrP
            rw [if_pos h6, if_neg h25, if_neg (fun c => c.elim h64 (fun q => q h69))]
            exact ⟨_, hoP, RI_of (by rw [if_neg h79, PB_62]) rfl⟩
          · refine er_loc (pc' := 83) rfl rfl rfl ?_
            refine er_loc (pc' := 84) rfl rfl rfl ?_
            refine er_gf (pc' := 87) (_) rfl rfl rfl rfl rfl ?_
            refine er_gf (pc' := 90) (.int (PB X1 (sOrd X) 9 10)) rfl rfl rfl rfl rfl ?_
            refine er_isub (pc' := 91) rfl rfl ?_
            refine er_goto rfl ?_
            refine er_iret rfl rfl ?_
            show (if _ then OrP X w _ else _)
            unfold OrP
            rw [if_pos h6, if_neg h25, if_neg (fun c => c.elim h64 (fun q => q h69))]
            exact ⟨_, hoP, RI_of (by rw [if_pos (by first | exact h79 | exact Int32.not_le.mp h79), hoP 9 (by omega) (by omega) (by omega), jx010]) rfl⟩
        · refine er_loc (pc' := 73) rfl rfl rfl ?_
          refine er_k (pc' := 74) (nI 2) rfl rfl rfl ?_
          refine er_cIz (pc' := 77) (rest := []) 11 rfl rfl rfl rfl rfl rfl (l_error _ _ _ 2 (by decide)) ?_
          intro Z9
          refine er_iret rfl rfl ?_
          show (if _ then OrP X w _ else _)
          unfold OrP
          rw [if_pos h6, if_neg h25, if_pos (Or.inr h69)]
          exact ⟨_, hoP, RI_of rfl rfl⟩
    · refine er_loc (pc' := 29) rfl rfl rfl ?_
      refine er_k (pc' := 30) (nI 3) rfl rfl rfl ?_
      refine er_cIz (pc' := 33) (rest := []) 11 rfl rfl rfl rfl rfl rfl (l_error _ _ _ 3 (by decide)) ?_
      intro Z9
      refine er_iret rfl rfl ?_
      rw [if_pos h6]
      unfold OrP
      rw [if_pos h25]
      exact RI_of rfl rfl
  · refine er_loc (pc' := 10) rfl rfl rfl ?_
    refine er_k (pc' := 11) (nI 1) rfl rfl rfl ?_
    refine er_cIz (pc' := 14) (rest := []) 11 rfl rfl rfl rfl rfl rfl (l_error _ _ _ 1 (by decide)) ?_
    intro Z9
    refine er_iret rfl rfl ?_
    rw [if_neg (by rw [h6]; decide)]
    exact RI_of rfl rfl
end
