/-! THE FACE, first: errors, steps, the bag -/
theorem j9 : jb 9 := Or.inl rfl
theorem j22 : jb 22 := Or.inr (Or.inl rfl)
theorem j35 : jb 35 := Or.inr (Or.inr rfl)
def xErr (X : Nat → Nat → Int32) (k : Nat) : Nat → Nat → Int32 := ud X 53 k (X 53 k + nI 1)
theorem sIn_ex {w : Int32} {a c : Nat} (hc : c < 2 ^ 31) (ha : a < 2 ^ 31) (h : sIn w (nI a) (nI c) = true) : ∃ j, a ≤ j ∧ j ≤ c ∧ w = nI j := by
  unfold sIn at h
  simp only [Bool.and_eq_true, Bool.not_eq_true', decide_eq_false_iff_not] at h
  have h0 : ¬ w < 0 := by
    intro hw
    apply h.1
    have e := nI_toInt ha
    rw [Int32.lt_iff_toInt_lt] at hw ⊢
    rw [e]
    have : (0 : Int32).toInt = 0 := rfl
    omega
  obtain ⟨j, hj, rfl⟩ := nI_of h0
  refine ⟨j, ?_, ?_, rfl⟩
  · have := h.1
    rw [nI_ltI hj ha] at this
    omega
  · have := h.2
    rw [nI_ltI hc hj] at this
    omega
theorem sIn_no {w : Int32} {a c : Nat} (hc : c < 2 ^ 31) (ha : a < 2 ^ 31) (h : ∀ j, a ≤ j → j ≤ c → w ≠ nI j) : sIn w (nI a) (nI c) = false := by
  cases hb : sIn w (nI a) (nI c) with
  | false => rfl
  | true =>
    obtain ⟨j, h1, h2, h3⟩ := sIn_ex hc ha hb
    exact absurd h3 (h j h1 h2)
theorem sIn_t {j a c : Nat} (h1 : a ≤ j) (h2 : j ≤ c) (hc : c < 2 ^ 31) : sIn (nI j) (nI a) (nI c) = true := by
  rw [sIn_nI (by omega) (by omega) hc, decide_eq_true h1, decide_eq_true h2]
  rfl
set_option maxRecDepth 100000 in
set_option maxHeartbeats 4000000 in
theorem l_error (d : Nat) (X Z : Nat → Nat → Int32) (k : Nat) (hk : 1 ≤ k ∧ k ≤ 5) : EC (d + 2) 77 [.ref 0, .int (nI k)] (Wd X Z) (RI (sErr k) (xErr X k)) := by
  refine er_enter (L := [(0, _), (1, _)]) rfl rfl rfl ?_
  obtain ⟨hk1, hk5⟩ := hk
  refine er_loc (pc' := 1) rfl rfl rfl ?_
  refine er_k (pc' := 2) (nI 1) rfl rfl rfl ?_
  refine er_k (pc' := 3) (nI 5) rfl rfl rfl ?_
  refine er_cSi (pc' := 6) (rest := []) rfl rfl rfl (l_within _ _ _ _ _) ?_
  rw [sIn_t hk1 hk5 (by omega)]
  refine er_if_eqF (pc' := 9) rfl (by decide +kernel) rfl ?_
  refine er_loc (pc' := 10) rfl rfl rfl ?_
  refine er_gf (pc' := 13) (_) rfl rfl rfl rfl rfl ?_
  refine er_loc (pc' := 14) rfl rfl rfl ?_
  refine er_pure (pc' := 15) rfl rfl rfl ?_
  refine er_ia (pc' := 16) (k) rfl rfl rfl rfl (by omega) rfl rfl ?_
  refine er_k (pc' := 17) (nI 1) rfl rfl rfl ?_
  refine er_iadd (pc' := 18) rfl rfl ?_
  refine er_isX (pc' := 19) (k) rfl rfl (fun _ => rfl) rfl (by omega) rfl rfl ?_
  refine er_ldc (pc' := 22) (-1000000000) rfl rfl rfl rfl rfl ?_
  refine er_loc (pc' := 23) rfl rfl rfl ?_
  refine er_isub (pc' := 24) rfl rfl ?_
  refine er_iret rfl rfl ?_
  exact RI_of rfl rfl
theorem l_has_no (d : Nat) (X Z : Nat → Nat → Int32) {b : Nat} (hb : jb b) (s : Int32) (h : (!decide (s < 0) && decide (s < X b 1)) = false) : EC (d + 1) 33 [.ref b, .int s] (Wd X Z) (PI (bI false) (Wd X Z)) := by
  have h1 := l_has d hb X Z s
  rw [h] at h1
  exact h1
def xHas (X : Nat → Nat → Int32) (s : Int32) : Bool := !decide (s < 0) && decide (s < X 9 1)
theorem xHas_k {T : Nat} {X : Nat → Nat → Int32} {s : Int32} (hI : IJ T (jx X 9)) (h : xHas X s = true) : ∃ k, k < jn (jx X 9) ∧ s = nI k := by
  unfold xHas at h
  simp only [Bool.and_eq_true, Bool.not_eq_true', decide_eq_false_iff_not, decide_eq_true_eq] at h
  obtain ⟨k, hk, rfl⟩ := nI_of h.1
  refine ⟨k, ?_, rfl⟩
  have h2 := h.2
  have h8 := jn8 hI
  rw [show X 9 1 = nI (jn (jx X 9)) from hI.n.1, nI_ltI hk (by omega)] at h2
  exact h2
def sStepOk (n km s nd : Int32) : Bool := sIn km (nI 0) (nI 69) && sIn s (nI 0) (nI 9) && sIn nd (nI 0) (nI 1 <<< (n &&& 31) - nI 1)
set_option maxRecDepth 100000 in
set_option maxHeartbeats 4000000 in
theorem l_step (d : Nat) (X Z : Nat → Nat → Int32) {T : Nat} (hI : IJ T (jx X 9)) (km s nd : Int32) : EC (d + 3) 75 [.ref 0, .int km, .int s, .int nd] (Wd X Z) (fun r => if sStepOk (jx X 9 0 1) km s nd = true then (if jn (jx X 9) < 8 then RI (nI (jn (jx X 9))) (xAdd X 9 (jn (jx X 9)) km s nd) r else RI (sErr 4) (xErr X 4) r) else RI (sErr 1) (xErr X 1) r) := by
  refine er_enter (L := [(0, _), (1, _), (2, _), (3, _)]) rfl rfl rfl ?_
  have h8 := jn8 hI
  have hn : X 9 1 = nI (jn (jx X 9)) := hI.n.1
  refine er_loc (pc' := 1) rfl rfl rfl ?_
  refine er_k (pc' := 2) (nI 0) rfl rfl rfl ?_
  refine er_k (pc' := 4) (nI 69) rfl rfl rfl ?_
  refine er_cSi (pc' := 7) (rest := []) rfl rfl rfl (l_within _ _ _ _ _) ?_
  refine er_if_eqb (pc' := 10) rfl rfl (fun h7 => ?_) (fun h7 => ?_)
  · refine er_k (pc' := 25) (nI 0) rfl rfl rfl ?_
    refine er_loc (pc' := 27) (L' := [(4, _), (0, _), (1, _), (2, _), (3, _)]) rfl rfl rfl ?_
    refine er_loc (pc' := 29) rfl rfl rfl ?_
    refine er_if_eqT rfl (by decide +kernel) ?_
    refine er_loc (pc' := 52) rfl rfl rfl ?_
    refine er_k (pc' := 53) (nI 1) rfl rfl rfl ?_
    refine er_cIz (pc' := 56) (rest := []) 11 rfl rfl rfl rfl rfl rfl (l_error _ _ _ 1 (by decide)) ?_
    intro Z9
    refine er_iret rfl rfl ?_
    rw [show jx X 9 0 1 = X 9 1 from rfl]
    have e : sStepOk (X 9 1) km s nd = false := by simp_all [sStepOk]
    rw [e]
    exact RI_of rfl rfl
  · refine er_loc (pc' := 11) rfl rfl rfl ?_
    refine er_k (pc' := 12) (nI 0) rfl rfl rfl ?_
    refine er_k (pc' := 14) (nI 9) rfl rfl rfl ?_
    refine er_cSi (pc' := 17) (rest := []) rfl rfl rfl (l_within _ _ _ _ _) ?_
    refine er_if_eqb (pc' := 20) rfl rfl (fun h17 => ?_) (fun h17 => ?_)
    · refine er_k (pc' := 25) (nI 0) rfl rfl rfl ?_
      refine er_loc (pc' := 27) (L' := [(4, _), (0, _), (1, _), (2, _), (3, _)]) rfl rfl rfl ?_
      refine er_loc (pc' := 29) rfl rfl rfl ?_
      refine er_if_eqT rfl (by decide +kernel) ?_
      refine er_loc (pc' := 52) rfl rfl rfl ?_
      refine er_k (pc' := 53) (nI 1) rfl rfl rfl ?_
      refine er_cIz (pc' := 56) (rest := []) 11 rfl rfl rfl rfl rfl rfl (l_error _ _ _ 1 (by decide)) ?_
      intro Z9
      refine er_iret rfl rfl ?_
      rw [show jx X 9 0 1 = X 9 1 from rfl]
      have e : sStepOk (X 9 1) km s nd = false := by simp_all [sStepOk]
      rw [e]
      exact RI_of rfl rfl
    · refine er_k (pc' := 21) (nI 1) rfl rfl rfl ?_
      refine er_goto rfl ?_
      refine er_loc (pc' := 27) (L' := [(4, _), (0, _), (1, _), (2, _), (3, _)]) rfl rfl rfl ?_
      refine er_loc (pc' := 29) rfl rfl rfl ?_
      refine er_if_eqF (pc' := 32) rfl (by decide +kernel) rfl ?_
      refine er_loc (pc' := 33) rfl rfl rfl ?_
      refine er_k (pc' := 34) (nI 0) rfl rfl rfl ?_
      refine er_k (pc' := 35) (nI 1) rfl rfl rfl ?_
      refine er_loc (pc' := 36) rfl rfl rfl ?_
      refine er_gf (pc' := 39) (_) rfl rfl rfl rfl rfl ?_
      refine er_gf (pc' := 42) (.int (X 9 1)) rfl rfl rfl rfl rfl ?_
      refine er_ishl (pc' := 43) rfl rfl ?_
      refine er_k (pc' := 44) (nI 1) rfl rfl rfl ?_
      refine er_isub (pc' := 45) rfl rfl ?_
      refine er_cSi (pc' := 48) (rest := []) rfl rfl rfl (l_within _ _ _ _ _) ?_
      refine er_if_neb (pc' := 51) rfl rfl (fun h48 => ?_) (fun h48 => ?_)
      · refine er_loc (pc' := 58) rfl rfl rfl ?_
        refine er_gf (pc' := 61) (_) rfl rfl rfl rfl rfl ?_
        refine er_gf (pc' := 64) (.int (X 9 1)) rfl rfl rfl rfl rfl ?_
        rw [hn]
        refine er_k (pc' := 66) (nI 8) rfl rfl rfl ?_
        refine er_cm_lt (pc' := 69) rfl rfl (fun h66 => ?_) (fun h66 => ?_)
        · have hlt : jn (jx X 9) < 8 := by
            rw [nI_ltI (by omega) (by omega)] at h66; exact h66
          refine er_loc (pc' := 76) rfl rfl rfl ?_
          refine er_gf (pc' := 79) (_) rfl rfl rfl rfl rfl ?_
          refine er_loc (pc' := 80) rfl rfl rfl ?_
          refine er_loc (pc' := 81) rfl rfl rfl ?_
          refine er_loc (pc' := 82) rfl rfl rfl ?_
          refine er_cIz (pc' := 85) (rest := []) 7 rfl rfl rfl rfl rfl rfl (l_add _ j9 _ _ _ _ _ _ hn hlt) ?_
          intro Z8
          refine er_iret rfl rfl ?_
          rw [show jx X 9 0 1 = X 9 1 from rfl]
          have e : sStepOk (X 9 1) km s nd = true := by simp_all [sStepOk]
          rw [e]
          rw [if_pos rfl, if_pos hlt]; exact RI_of rfl rfl
        · have hlt : ¬ jn (jx X 9) < 8 := by
            rw [nI_ltI (by omega) (by omega)] at h66; exact h66
          refine er_loc (pc' := 70) rfl rfl rfl ?_
          refine er_k (pc' := 71) (nI 4) rfl rfl rfl ?_
          refine er_cIz (pc' := 74) (rest := []) 11 rfl rfl rfl rfl rfl rfl (l_error _ _ _ 4 (by decide)) ?_
          intro Z9
          refine er_iret rfl rfl ?_
          rw [show jx X 9 0 1 = X 9 1 from rfl]
          have e : sStepOk (X 9 1) km s nd = true := by simp_all [sStepOk]
          rw [e]
          rw [if_pos rfl, if_neg hlt]; exact RI_of rfl rfl
      · refine er_loc (pc' := 52) rfl rfl rfl ?_
        refine er_k (pc' := 53) (nI 1) rfl rfl rfl ?_
        refine er_cIz (pc' := 56) (rest := []) 11 rfl rfl rfl rfl rfl rfl (l_error _ _ _ 1 (by decide)) ?_
        intro Z9
        refine er_iret rfl rfl ?_
        rw [show jx X 9 0 1 = X 9 1 from rfl]
        have e : sStepOk (X 9 1) km s nd = false := by simp_all [sStepOk]
        rw [e]
        exact RI_of rfl rfl
def sOf (J : Nat → Nat → Int32) (k : Nat) (w : Int32) : Int32 :=
  if w = 0 then J 1 k else if w = 1 then J 2 k else if w = 2 then J 3 k else if w = 3 then J 4 k else if w = 4 then bI (sDone J k) else if w = 5 then bI (sBit (J 0 7) (nI k)) else if w = 6 then sLasts J k else if w = 7 then sBack J k else if w = 8 then bI (sMayDo J k) else bI (sMayUn J k)
set_option maxRecDepth 100000 in
set_option maxHeartbeats 4000000 in
theorem l_ofStep_no (d : Nat) (X Z : Nat → Nat → Int32) (s w : Int32) (hs : xHas X s = false) : EC (d + 3) 78 [.ref 0, .int s, .int w] (Wd X Z) (RI (sErr 1) (xErr X 1)) := by
  refine er_enter (L := [(0, _), (1, _), (2, _)]) rfl rfl rfl ?_
  refine er_loc (pc' := 1) rfl rfl rfl ?_
  refine er_gf (pc' := 4) (_) rfl rfl rfl rfl rfl ?_
  refine er_loc (pc' := 5) rfl rfl rfl ?_
  refine er_cIi (pc' := 8) (rest := []) 7 rfl rfl rfl rfl rfl rfl (l_has_no _ _ _ j9 _ hs) ?_
  refine er_if_neF (pc' := 11) rfl (by decide +kernel) rfl ?_
  refine er_loc (pc' := 12) rfl rfl rfl ?_
  refine er_k (pc' := 13) (nI 1) rfl rfl rfl ?_
  refine er_cIz (pc' := 16) (rest := []) 11 rfl rfl rfl rfl rfl rfl (l_error _ _ _ 1 (by decide)) ?_
  intro Z9
  refine er_iret rfl rfl ?_
  exact RI_of rfl rfl
set_option maxRecDepth 100000 in
set_option maxHeartbeats 4000000 in
theorem l_ofStep (d : Nat) (X Z : Nat → Nat → Int32) {T : Nat} (hI : IJ T (jx X 9)) {k : Nat} (hk : k < jn (jx X 9)) (w : Int32) : EC (d + 6) 78 [.ref 0, .int (nI k), .int w] (Wd X Z) (fun r => if sIn w (nI 0) (nI 9) = true then RI (sOf (jx X 9) k w) X r else RI (sErr 1) (xErr X 1) r) := by
  refine er_enter (L := [(0, _), (1, _), (2, _)]) rfl rfl rfl ?_
  have h8 := jn8 hI
  have hk8 : k < 8 := by omega
  refine er_loc (pc' := 1) rfl rfl rfl ?_
  refine er_gf (pc' := 4) (_) rfl rfl rfl rfl rfl ?_
  refine er_loc (pc' := 5) rfl rfl rfl ?_
  refine er_cIi (pc' := 8) (rest := []) 7 rfl rfl rfl rfl rfl rfl (l_has_t _ j9 _ _ hI hk) ?_
  refine er_if_neT rfl (by decide +kernel) ?_
  refine er_loc (pc' := 18) rfl rfl rfl ?_
  refine er_sw (0) rfl rfl (fun s18_0 => ?_) (fun s18_0 => ?_)
  · refine er_loc (pc' := 73) rfl rfl rfl ?_
    refine er_gf (pc' := 76) (_) rfl rfl rfl rfl rfl ?_
    refine er_gf (pc' := 79) (_) rfl rfl rfl rfl rfl ?_
    refine er_loc (pc' := 80) rfl rfl rfl ?_
    refine er_ia (pc' := 81) (k) rfl rfl rfl rfl (by omega) rfl rfl ?_
    refine er_iret rfl rfl ?_
    subst w
    rw [if_pos (by decide +kernel)]
    refine RI_of ?_ rfl
    unfold sOf
    simp [jx1 hk8, jx2 hk8, jx3 hk8, jx4 hk8, sDone, jx06, jx07, bI, *]
  refine er_sw (1) rfl rfl (fun s18_1 => ?_) (fun s18_1 => ?_)
  · refine er_loc (pc' := 83) rfl rfl rfl ?_
    refine er_gf (pc' := 86) (_) rfl rfl rfl rfl rfl ?_
    refine er_gf (pc' := 89) (_) rfl rfl rfl rfl rfl ?_
    refine er_loc (pc' := 90) rfl rfl rfl ?_
    refine er_ia (pc' := 91) (k) rfl rfl rfl rfl (by omega) rfl rfl ?_
    refine er_iret rfl rfl ?_
    subst w
    rw [if_pos (by decide +kernel)]
    refine RI_of ?_ rfl
    unfold sOf
    simp [jx1 hk8, jx2 hk8, jx3 hk8, jx4 hk8, sDone, jx06, jx07, bI, *]
  refine er_sw (2) rfl rfl (fun s18_2 => ?_) (fun s18_2 => ?_)
  · refine er_loc (pc' := 93) rfl rfl rfl ?_
    refine er_gf (pc' := 96) (_) rfl rfl rfl rfl rfl ?_
    refine er_gf (pc' := 99) (_) rfl rfl rfl rfl rfl ?_
    refine er_loc (pc' := 100) rfl rfl rfl ?_
    refine er_ia (pc' := 101) (k) rfl rfl rfl rfl (by omega) rfl rfl ?_
    refine er_iret rfl rfl ?_
    subst w
    rw [if_pos (by decide +kernel)]
    refine RI_of ?_ rfl
    unfold sOf
    simp [jx1 hk8, jx2 hk8, jx3 hk8, jx4 hk8, sDone, jx06, jx07, bI, *]
  refine er_sw (3) rfl rfl (fun s18_3 => ?_) (fun s18_3 => ?_)
  · refine er_loc (pc' := 103) rfl rfl rfl ?_
    refine er_gf (pc' := 106) (_) rfl rfl rfl rfl rfl ?_
    refine er_gf (pc' := 109) (_) rfl rfl rfl rfl rfl ?_
    refine er_loc (pc' := 110) rfl rfl rfl ?_
    refine er_ia (pc' := 111) (k) rfl rfl rfl rfl (by omega) rfl rfl ?_
    refine er_iret rfl rfl ?_
    subst w
    rw [if_pos (by decide +kernel)]
    refine RI_of ?_ rfl
    unfold sOf
    simp [jx1 hk8, jx2 hk8, jx3 hk8, jx4 hk8, sDone, jx06, jx07, bI, *]
  refine er_sw (4) rfl rfl (fun s18_4 => ?_) (fun s18_4 => ?_)
  · refine er_loc (pc' := 113) rfl rfl rfl ?_
    refine er_gf (pc' := 116) (_) rfl rfl rfl rfl rfl ?_
    refine er_loc (pc' := 117) rfl rfl rfl ?_
    refine er_cIi (pc' := 120) (rest := []) 7 rfl rfl rfl rfl rfl rfl (l_isDone _ j9 _ _ _) ?_
    refine er_if_eqb (pc' := 123) rfl rfl (fun h120 => ?_) (fun h120 => ?_)
    · refine er_k (pc' := 128) (nI 0) rfl rfl rfl ?_
      refine er_iret rfl rfl ?_
      subst w
      rw [if_pos (by decide +kernel)]
      refine RI_of ?_ rfl
      unfold sOf
      simp [jx1 hk8, jx2 hk8, jx3 hk8, jx4 hk8, sDone, jx06, jx07, bI, *]
    · refine er_k (pc' := 124) (nI 1) rfl rfl rfl ?_
      refine er_goto rfl ?_
      refine er_iret rfl rfl ?_
      subst w
      rw [if_pos (by decide +kernel)]
      refine RI_of ?_ rfl
      unfold sOf
      simp [jx1 hk8, jx2 hk8, jx3 hk8, jx4 hk8, sDone, jx06, jx07, bI, *]
  refine er_sw (5) rfl rfl (fun s18_5 => ?_) (fun s18_5 => ?_)
  · refine er_loc (pc' := 130) rfl rfl rfl ?_
    refine er_gf (pc' := 133) (_) rfl rfl rfl rfl rfl ?_
    refine er_loc (pc' := 134) rfl rfl rfl ?_
    refine er_cIi (pc' := 137) (rest := []) 7 rfl rfl rfl rfl rfl rfl (l_isWrong _ j9 _ _ _) ?_
    refine er_if_eqb (pc' := 140) rfl rfl (fun h137 => ?_) (fun h137 => ?_)
    · refine er_k (pc' := 145) (nI 0) rfl rfl rfl ?_
      refine er_iret rfl rfl ?_
      subst w
      rw [if_pos (by decide +kernel)]
      refine RI_of ?_ rfl
      unfold sOf
      simp [jx1 hk8, jx2 hk8, jx3 hk8, jx4 hk8, sDone, jx06, jx07, bI, *]
    · refine er_k (pc' := 141) (nI 1) rfl rfl rfl ?_
      refine er_goto rfl ?_
      refine er_iret rfl rfl ?_
      subst w
      rw [if_pos (by decide +kernel)]
      refine RI_of ?_ rfl
      unfold sOf
      simp [jx1 hk8, jx2 hk8, jx3 hk8, jx4 hk8, sDone, jx06, jx07, bI, *]
  refine er_sw (6) rfl rfl (fun s18_6 => ?_) (fun s18_6 => ?_)
  · refine er_loc (pc' := 147) rfl rfl rfl ?_
    refine er_gf (pc' := 150) (_) rfl rfl rfl rfl rfl ?_
    refine er_loc (pc' := 151) rfl rfl rfl ?_
    refine er_cIz (pc' := 154) (rest := []) 7 rfl rfl rfl rfl rfl rfl (l_lasts _ j9 _ _ hI hk) ?_
    intro Z2
    refine er_iret rfl rfl ?_
    subst w
    rw [if_pos (by decide +kernel)]
    refine RI_of ?_ rfl
    unfold sOf
    simp [jx1 hk8, jx2 hk8, jx3 hk8, jx4 hk8, sDone, jx06, jx07, bI, *]
  refine er_sw (7) rfl rfl (fun s18_7 => ?_) (fun s18_7 => ?_)
  · refine er_loc (pc' := 156) rfl rfl rfl ?_
    refine er_gf (pc' := 159) (_) rfl rfl rfl rfl rfl ?_
    refine er_loc (pc' := 160) rfl rfl rfl ?_
    refine er_cIz (pc' := 163) (rest := []) 7 rfl rfl rfl rfl rfl rfl (l_takesBack _ j9 _ _ hI hk) ?_
    intro Z2
    refine er_iret rfl rfl ?_
    subst w
    rw [if_pos (by decide +kernel)]
    refine RI_of ?_ rfl
    unfold sOf
    simp [jx1 hk8, jx2 hk8, jx3 hk8, jx4 hk8, sDone, jx06, jx07, bI, *]
  refine er_sw (8) rfl rfl (fun s18_8 => ?_) (fun s18_8 => ?_)
  · refine er_loc (pc' := 165) rfl rfl rfl ?_
    refine er_gf (pc' := 168) (_) rfl rfl rfl rfl rfl ?_
    refine er_loc (pc' := 169) rfl rfl rfl ?_
    refine er_cIi (pc' := 172) (rest := []) 7 rfl rfl rfl rfl rfl rfl (l_mayBeDone _ j9 _ _ hI hk) ?_
    refine er_if_eqb (pc' := 175) rfl rfl (fun h172 => ?_) (fun h172 => ?_)
    · refine er_k (pc' := 180) (nI 0) rfl rfl rfl ?_
      refine er_iret rfl rfl ?_
      subst w
      rw [if_pos (by decide +kernel)]
      refine RI_of ?_ rfl
      unfold sOf
      simp [jx1 hk8, jx2 hk8, jx3 hk8, jx4 hk8, sDone, jx06, jx07, bI, *]
    · refine er_k (pc' := 176) (nI 1) rfl rfl rfl ?_
      refine er_goto rfl ?_
      refine er_iret rfl rfl ?_
      subst w
      rw [if_pos (by decide +kernel)]
      refine RI_of ?_ rfl
      unfold sOf
      simp [jx1 hk8, jx2 hk8, jx3 hk8, jx4 hk8, sDone, jx06, jx07, bI, *]
  refine er_sw (9) rfl rfl (fun s18_9 => ?_) (fun s18_9 => ?_)
  · refine er_loc (pc' := 182) rfl rfl rfl ?_
    refine er_gf (pc' := 185) (_) rfl rfl rfl rfl rfl ?_
    refine er_loc (pc' := 186) rfl rfl rfl ?_
    refine er_cIi (pc' := 189) (rest := []) 7 rfl rfl rfl rfl rfl rfl (l_mayBeUndone _ j9 _ _ hI hk) ?_
    refine er_if_eqb (pc' := 192) rfl rfl (fun h189 => ?_) (fun h189 => ?_)
    · refine er_k (pc' := 197) (nI 0) rfl rfl rfl ?_
      refine er_iret rfl rfl ?_
      subst w
      rw [if_pos (by decide +kernel)]
      refine RI_of ?_ rfl
      unfold sOf
      simp [jx1 hk8, jx2 hk8, jx3 hk8, jx4 hk8, sDone, jx06, jx07, bI, *]
    · refine er_k (pc' := 193) (nI 1) rfl rfl rfl ?_
      refine er_goto rfl ?_
      refine er_iret rfl rfl ?_
      subst w
      rw [if_pos (by decide +kernel)]
      refine RI_of ?_ rfl
      unfold sOf
      simp [jx1 hk8, jx2 hk8, jx3 hk8, jx4 hk8, sDone, jx06, jx07, bI, *]
  refine er_tsD [0, 1, 2, 3, 4, 5, 6, 7, 8, 9] rfl rfl rfl rfl (List.forall_mem_cons.mpr ⟨ne_toInt s18_0 rfl, List.forall_mem_cons.mpr ⟨ne_toInt s18_1 rfl, List.forall_mem_cons.mpr ⟨ne_toInt s18_2 rfl, List.forall_mem_cons.mpr ⟨ne_toInt s18_3 rfl, List.forall_mem_cons.mpr ⟨ne_toInt s18_4 rfl, List.forall_mem_cons.mpr ⟨ne_toInt s18_5 rfl, List.forall_mem_cons.mpr ⟨ne_toInt s18_6 rfl, List.forall_mem_cons.mpr ⟨ne_toInt s18_7 rfl, List.forall_mem_cons.mpr ⟨ne_toInt s18_8 rfl, List.forall_mem_cons.mpr ⟨ne_toInt s18_9 rfl, fun _ h => absurd h List.not_mem_nil⟩⟩⟩⟩⟩⟩⟩⟩⟩⟩) ?_
  refine er_loc (pc' := 199) rfl rfl rfl ?_
  refine er_k (pc' := 200) (nI 1) rfl rfl rfl ?_
  refine er_cIz (pc' := 203) (rest := []) 11 rfl rfl rfl rfl rfl rfl (l_error _ _ _ 1 (by decide)) ?_
  intro Z9
  refine er_iret rfl rfl ?_
  rw [sIn_no (by omega) (by omega) (by
    intro j _ hj e
    have : j = 0 ∨ j = 1 ∨ j = 2 ∨ j = 3 ∨ j = 4 ∨ j = 5 ∨ j = 6 ∨ j = 7 ∨ j = 8 ∨ j = 9 := by omega
    rcases this with rfl | rfl | rfl | rfl | rfl | rfl | rfl | rfl | rfl | rfl
    · exact s18_0 e
    · exact s18_1 e
    · exact s18_2 e
    · exact s18_3 e
    · exact s18_4 e
    · exact s18_5 e
    · exact s18_6 e
    · exact s18_7 e
    · exact s18_8 e
    · exact s18_9 e
  )]
  exact RI_of rfl rfl
def sMost (k : Nat) (w : Int32) : Int32 := if w = 0 then nI 9 else if w = 1 then nI 1 <<< (nI k &&& 31) - nI 1 else if w = 2 then nI 1 else -1
set_option maxRecDepth 100000 in
set_option maxHeartbeats 4000000 in
theorem l_mostToChange (d : Nat) (k : Nat) (w : Int32) (W : ab_W) : EC (d + 1) 81 [.int (nI k), .int w] W (PI (sMost k w) W) := by
  refine er_enter (L := [(0, _), (1, _)]) rfl rfl rfl ?_
  refine er_loc (pc' := 1) rfl rfl rfl ?_
  refine er_sw (0) rfl rfl (fun s1_0 => ?_) (fun s1_0 => ?_)
  · refine er_k (pc' := 30) (nI 9) rfl rfl rfl ?_
    refine er_iret rfl rfl ?_
    exact PI_of (by simp [sMost, *])
  refine er_sw (1) rfl rfl (fun s1_1 => ?_) (fun s1_1 => ?_)
  · refine er_k (pc' := 32) (nI 1) rfl rfl rfl ?_
    refine er_loc (pc' := 33) rfl rfl rfl ?_
    refine er_ishl (pc' := 34) rfl rfl ?_
    refine er_k (pc' := 35) (nI 1) rfl rfl rfl ?_
    refine er_isub (pc' := 36) rfl rfl ?_
    refine er_iret rfl rfl ?_
    exact PI_of (by simp [sMost, *])
  refine er_sw (2) rfl rfl (fun s1_2 => ?_) (fun s1_2 => ?_)
  · refine er_k (pc' := 38) (nI 1) rfl rfl rfl ?_
    refine er_iret rfl rfl ?_
    exact PI_of (by simp [sMost, *])
  refine er_tsD [0, 1, 2] rfl rfl rfl rfl (List.forall_mem_cons.mpr ⟨ne_toInt s1_0 rfl, List.forall_mem_cons.mpr ⟨ne_toInt s1_1 rfl, List.forall_mem_cons.mpr ⟨ne_toInt s1_2 rfl, fun _ h => absurd h List.not_mem_nil⟩⟩⟩) ?_
  refine er_k (pc' := 40) (-1) rfl rfl rfl ?_
  refine er_iret rfl rfl ?_
  exact PI_of (by simp [sMost, *])
set_option maxRecDepth 100000 in
set_option maxHeartbeats 4000000 in
theorem l_change_no (d : Nat) (X Z : Nat → Nat → Int32) (s w v : Int32) (hs : xHas X s = false) : EC (d + 3) 80 [.ref 0, .int s, .int w, .int v] (Wd X Z) (RI (sErr 1) (xErr X 1)) := by
  refine er_enter (L := [(0, _), (1, _), (2, _), (3, _)]) rfl rfl rfl ?_
  refine er_loc (pc' := 1) rfl rfl rfl ?_
  refine er_gf (pc' := 4) (_) rfl rfl rfl rfl rfl ?_
  refine er_loc (pc' := 5) rfl rfl rfl ?_
  refine er_cIi (pc' := 8) (rest := []) 7 rfl rfl rfl rfl rfl rfl (l_has_no _ _ _ j9 _ hs) ?_
  refine er_if_eqT rfl (by decide +kernel) ?_
  refine er_loc (pc' := 25) rfl rfl rfl ?_
  refine er_k (pc' := 26) (nI 1) rfl rfl rfl ?_
  refine er_cIz (pc' := 29) (rest := []) 11 rfl rfl rfl rfl rfl rfl (l_error _ _ _ 1 (by decide)) ?_
  intro Z9
  refine er_iret rfl rfl ?_
  exact RI_of rfl rfl
set_option maxRecDepth 100000 in
set_option maxHeartbeats 4000000 in
theorem l_change (d : Nat) (X Z : Nat → Nat → Int32) {T : Nat} (hI : IJ T (jx X 9)) {k : Nat} (hk : k < jn (jx X 9)) (w v : Int32) : EC (d + 3) 80 [.ref 0, .int (nI k), .int w, .int v] (Wd X Z) (fun r => if sIn v (nI 0) (sMost k w) = true then (if w = 0 then RI (jx X 9 3 k) (ud X (9 + 3) k v) r else if w = nI 1 then RI (jx X 9 4 k) (ud X (9 + 4) k v) r else if sBit (jx X 9 0 6) (nI k) = true then RI (bI (sBit (jx X 9 0 7) (nI k))) (ud X 9 7 (sWith (X 9 7) (nI k) (decide (v = nI 1)))) r else RI (sErr 3) (xErr X 3) r) else RI (sErr 1) (xErr X 1) r) := by
  refine er_enter (L := [(0, _), (1, _), (2, _), (3, _)]) rfl rfl rfl ?_
  have h8 := jn8 hI
  have hk8 : k < 8 := by omega
  refine er_loc (pc' := 1) rfl rfl rfl ?_
  refine er_gf (pc' := 4) (_) rfl rfl rfl rfl rfl ?_
  refine er_loc (pc' := 5) rfl rfl rfl ?_
  refine er_cIi (pc' := 8) (rest := []) 7 rfl rfl rfl rfl rfl rfl (l_has_t _ j9 _ _ hI hk) ?_
  refine er_if_eqF (pc' := 11) rfl (by decide +kernel) rfl ?_
  refine er_loc (pc' := 12) rfl rfl rfl ?_
  refine er_k (pc' := 13) (nI 0) rfl rfl rfl ?_
  refine er_loc (pc' := 14) rfl rfl rfl ?_
  refine er_loc (pc' := 15) rfl rfl rfl ?_
  refine er_cSi (pc' := 18) (rest := [_, _]) rfl rfl rfl (l_mostToChange _ _ _ _) ?_
  refine er_cSi (pc' := 21) (rest := []) rfl rfl rfl (l_within _ _ _ _ _) ?_
  refine er_if_neb (pc' := 24) rfl rfl (fun h21 => ?_) (fun h21 => ?_)
  · refine er_loc (pc' := 31) rfl rfl rfl ?_
    refine er_if_ne (pc' := 34) rfl rfl (fun h31 => ?_) (fun h31 => ?_)
    · refine er_loc (pc' := 59) rfl rfl rfl ?_
      refine er_k (pc' := 60) (nI 1) rfl rfl rfl ?_
      refine er_cm_ne (pc' := 63) rfl rfl (fun h60 => ?_) (fun h60 => ?_)
      · refine er_loc (pc' := 88) rfl rfl rfl ?_
        refine er_gf (pc' := 91) (_) rfl rfl rfl rfl rfl ?_
        refine er_loc (pc' := 92) rfl rfl rfl ?_
        refine er_cIi (pc' := 95) (rest := []) 7 rfl rfl rfl rfl rfl rfl (l_isDone _ j9 _ _ _) ?_
        refine er_if_neb (pc' := 98) rfl rfl (fun h95 => ?_) (fun h95 => ?_)
        · refine er_loc (pc' := 105) rfl rfl rfl ?_
          refine er_gf (pc' := 108) (_) rfl rfl rfl rfl rfl ?_
          refine er_loc (pc' := 109) rfl rfl rfl ?_
          refine er_cIi (pc' := 112) (rest := []) 7 rfl rfl rfl rfl rfl rfl (l_isWrong _ j9 _ _ _) ?_
          refine er_if_eqb (pc' := 115) rfl rfl (fun h112 => ?_) (fun h112 => ?_)
          · refine er_k (pc' := 120) (nI 0) rfl rfl rfl ?_
            refine er_loc (pc' := 122) (L' := [(4, _), (0, _), (1, _), (2, _), (3, _)]) rfl rfl rfl ?_
            refine er_loc (pc' := 123) rfl rfl rfl ?_
            refine er_gf (pc' := 126) (_) rfl rfl rfl rfl rfl ?_
            refine er_loc (pc' := 127) rfl rfl rfl ?_
            refine er_gf (pc' := 130) (_) rfl rfl rfl rfl rfl ?_
            refine er_gf (pc' := 133) (_) rfl rfl rfl rfl rfl ?_
            refine er_loc (pc' := 134) rfl rfl rfl ?_
            refine er_loc (pc' := 135) rfl rfl rfl ?_
            refine er_k (pc' := 136) (nI 1) rfl rfl rfl ?_
            refine er_cm_ne (pc' := 139) rfl rfl (fun h136 => ?_) (fun h136 => ?_)
            · refine er_k (pc' := 144) (nI 0) rfl rfl rfl ?_
              refine er_cSi (pc' := 147) (rest := [_]) rfl rfl rfl (l_with _ _ _ false _) ?_
              refine er_pfIX (pc' := 150) 7 rfl rfl rfl rfl rfl rfl ?_
              refine er_loc (pc' := 152) rfl rfl rfl ?_
              refine er_iret rfl rfl ?_
              rw [if_pos h21]
              first | rw [if_pos h31] | (rw [if_neg h31]; first | rw [if_pos h60] | rw [if_neg h60, if_pos (by rw [jx06]; exact h95)])
              refine RI_of ?_ ?_
              · first | rw [jx3 hk8] | rw [jx4 hk8] | (rw [jx07]; first | exact bI_eq1 h112 | exact bI_eq0 h112)
              · first | rfl | simp [*]
            · refine er_k (pc' := 140) (nI 1) rfl rfl rfl ?_
              refine er_goto rfl ?_
              refine er_cSi (pc' := 147) (rest := [_]) rfl rfl rfl (l_with _ _ _ true _) ?_
              refine er_pfIX (pc' := 150) 7 rfl rfl rfl rfl rfl rfl ?_
              refine er_loc (pc' := 152) rfl rfl rfl ?_
              refine er_iret rfl rfl ?_
              rw [if_pos h21]
              first | rw [if_pos h31] | (rw [if_neg h31]; first | rw [if_pos h60] | rw [if_neg h60, if_pos (by rw [jx06]; exact h95)])
              refine RI_of ?_ ?_
              · first | rw [jx3 hk8] | rw [jx4 hk8] | (rw [jx07]; first | exact bI_eq1 h112 | exact bI_eq0 h112)
              · first | rfl | simp [*]
          · refine er_k (pc' := 116) (nI 1) rfl rfl rfl ?_
            refine er_goto rfl ?_
            refine er_loc (pc' := 122) (L' := [(4, _), (0, _), (1, _), (2, _), (3, _)]) rfl rfl rfl ?_
            refine er_loc (pc' := 123) rfl rfl rfl ?_
            refine er_gf (pc' := 126) (_) rfl rfl rfl rfl rfl ?_
            refine er_loc (pc' := 127) rfl rfl rfl ?_
            refine er_gf (pc' := 130) (_) rfl rfl rfl rfl rfl ?_
            refine er_gf (pc' := 133) (_) rfl rfl rfl rfl rfl ?_
            refine er_loc (pc' := 134) rfl rfl rfl ?_
            refine er_loc (pc' := 135) rfl rfl rfl ?_
            refine er_k (pc' := 136) (nI 1) rfl rfl rfl ?_
            refine er_cm_ne (pc' := 139) rfl rfl (fun h136 => ?_) (fun h136 => ?_)
            · refine er_k (pc' := 144) (nI 0) rfl rfl rfl ?_
              refine er_cSi (pc' := 147) (rest := [_]) rfl rfl rfl (l_with _ _ _ false _) ?_
              refine er_pfIX (pc' := 150) 7 rfl rfl rfl rfl rfl rfl ?_
              refine er_loc (pc' := 152) rfl rfl rfl ?_
              refine er_iret rfl rfl ?_
              rw [if_pos h21]
              first | rw [if_pos h31] | (rw [if_neg h31]; first | rw [if_pos h60] | rw [if_neg h60, if_pos (by rw [jx06]; exact h95)])
              refine RI_of ?_ ?_
              · first | rw [jx3 hk8] | rw [jx4 hk8] | (rw [jx07]; first | exact bI_eq1 h112 | exact bI_eq0 h112)
              · first | rfl | simp [*]
            · refine er_k (pc' := 140) (nI 1) rfl rfl rfl ?_
              refine er_goto rfl ?_
              refine er_cSi (pc' := 147) (rest := [_]) rfl rfl rfl (l_with _ _ _ true _) ?_
              refine er_pfIX (pc' := 150) 7 rfl rfl rfl rfl rfl rfl ?_
              refine er_loc (pc' := 152) rfl rfl rfl ?_
              refine er_iret rfl rfl ?_
              rw [if_pos h21]
              first | rw [if_pos h31] | (rw [if_neg h31]; first | rw [if_pos h60] | rw [if_neg h60, if_pos (by rw [jx06]; exact h95)])
              refine RI_of ?_ ?_
              · first | rw [jx3 hk8] | rw [jx4 hk8] | (rw [jx07]; first | exact bI_eq1 h112 | exact bI_eq0 h112)
              · first | rfl | simp [*]
        · refine er_loc (pc' := 99) rfl rfl rfl ?_
          refine er_k (pc' := 100) (nI 3) rfl rfl rfl ?_
          refine er_cIz (pc' := 103) (rest := []) 11 rfl rfl rfl rfl rfl rfl (l_error _ _ _ 3 (by decide)) ?_
          intro Z9
          refine er_iret rfl rfl ?_
          rw [if_pos h21, if_neg h31, if_neg h60, if_neg (by rw [jx06]; rw [h95]; decide)]
          exact RI_of rfl rfl
      · refine er_loc (pc' := 64) rfl rfl rfl ?_
        refine er_gf (pc' := 67) (_) rfl rfl rfl rfl rfl ?_
        refine er_gf (pc' := 70) (_) rfl rfl rfl rfl rfl ?_
        refine er_loc (pc' := 71) rfl rfl rfl ?_
        refine er_ia (pc' := 72) (k) rfl rfl rfl rfl (by omega) rfl rfl ?_
        refine er_loc (pc' := 74) (L' := [(4, _), (0, _), (1, _), (2, _), (3, _)]) rfl rfl rfl ?_
        refine er_loc (pc' := 75) rfl rfl rfl ?_
        refine er_gf (pc' := 78) (_) rfl rfl rfl rfl rfl ?_
        refine er_gf (pc' := 81) (_) rfl rfl rfl rfl rfl ?_
        refine er_loc (pc' := 82) rfl rfl rfl ?_
        refine er_loc (pc' := 83) rfl rfl rfl ?_
        refine er_isX (pc' := 84) (k) rfl rfl (fun _ => rfl) rfl hk8 rfl rfl ?_
        refine er_goto rfl ?_
        refine er_loc (pc' := 152) rfl rfl rfl ?_
        refine er_iret rfl rfl ?_
        rw [if_pos h21]
        first | rw [if_pos h31] | (rw [if_neg h31]; first | rw [if_pos h60] | rw [if_neg h60, if_pos (by rw [jx06]; exact h95)])
        refine RI_of ?_ ?_
        · first | rw [jx3 hk8] | rw [jx4 hk8] | (rw [jx07]; first | exact bI_eq1 h112 | exact bI_eq0 h112)
        · first | rfl | simp [*]
    · refine er_loc (pc' := 35) rfl rfl rfl ?_
      refine er_gf (pc' := 38) (_) rfl rfl rfl rfl rfl ?_
      refine er_gf (pc' := 41) (_) rfl rfl rfl rfl rfl ?_
      refine er_loc (pc' := 42) rfl rfl rfl ?_
      refine er_ia (pc' := 43) (k) rfl rfl rfl rfl (by omega) rfl rfl ?_
      refine er_loc (pc' := 45) (L' := [(4, _), (0, _), (1, _), (2, _), (3, _)]) rfl rfl rfl ?_
      refine er_loc (pc' := 46) rfl rfl rfl ?_
      refine er_gf (pc' := 49) (_) rfl rfl rfl rfl rfl ?_
      refine er_gf (pc' := 52) (_) rfl rfl rfl rfl rfl ?_
      refine er_loc (pc' := 53) rfl rfl rfl ?_
      refine er_loc (pc' := 54) rfl rfl rfl ?_
      refine er_isX (pc' := 55) (k) rfl rfl (fun _ => rfl) rfl hk8 rfl rfl ?_
      refine er_goto rfl ?_
      refine er_loc (pc' := 152) rfl rfl rfl ?_
      refine er_iret rfl rfl ?_
      rw [if_pos h21]
      first | rw [if_pos h31] | (rw [if_neg h31]; first | rw [if_pos h60] | rw [if_neg h60, if_pos (by rw [jx06]; exact h95)])
      refine RI_of ?_ ?_
      · first | rw [jx3 hk8] | rw [jx4 hk8] | (rw [jx07]; first | exact bI_eq1 h112 | exact bI_eq0 h112)
      · first | rfl | simp [*]
  · refine er_loc (pc' := 25) rfl rfl rfl ?_
    refine er_k (pc' := 26) (nI 1) rfl rfl rfl ?_
    refine er_cIz (pc' := 29) (rest := []) 11 rfl rfl rfl rfl rfl rfl (l_error _ _ _ 1 (by decide)) ?_
    intro Z9
    refine er_iret rfl rfl ?_
    rw [if_neg (by rw [h21]; decide)]
    exact RI_of rfl rfl
set_option maxRecDepth 100000 in
set_option maxHeartbeats 4000000 in
theorem l_set (d : Nat) (X Z : Nat → Nat → Int32) {T : Nat} (hI : IJ T (jx X 9)) (w v : Int32) : EC (d + 3) 83 [.ref 0, .int w, .int v] (Wd X Z) (fun r => if w = 0 ∧ sIn v (nI 1) (nI 2) = true then RI (X 9 8) (ud X 9 8 v) r else if w = nI 1 ∧ sIn v (nI 0) (nI 999) = true then RI (X 9 9) (ud X 9 9 v) r else if w = nI 2 ∧ sIn v (nI 0) 99999 = true then RI (X 9 10) (ud X 9 10 v) r else RI (sErr 1) (xErr X 1) r) := by
  refine er_enter (L := [(0, _), (1, _), (2, _)]) rfl rfl rfl ?_
  refine er_loc (pc' := 1) rfl rfl rfl ?_
  refine er_if_ne (pc' := 4) rfl rfl (fun h1 => ?_) (fun h1 => ?_)
  · refine er_loc (pc' := 33) rfl rfl rfl ?_
    refine er_k (pc' := 34) (nI 1) rfl rfl rfl ?_
    refine er_cm_ne (pc' := 37) rfl rfl (fun h34 => ?_) (fun h34 => ?_)
    · refine er_loc (pc' := 68) rfl rfl rfl ?_
      refine er_k (pc' := 69) (nI 2) rfl rfl rfl ?_
      refine er_cm_ne (pc' := 72) rfl rfl (fun h69 => ?_) (fun h69 => ?_)
      · refine er_loc (pc' := 102) rfl rfl rfl ?_
        refine er_k (pc' := 103) (nI 1) rfl rfl rfl ?_
        refine er_cIz (pc' := 106) (rest := []) 11 rfl rfl rfl rfl rfl rfl (l_error _ _ _ 1 (by decide)) ?_
        intro Z9
        refine er_iret rfl rfl ?_
        (repeat' split) <;> first | exact RI_of rfl rfl | (exfalso; simp_all; done)
      · refine er_loc (pc' := 73) rfl rfl rfl ?_
        refine er_k (pc' := 74) (nI 0) rfl rfl rfl ?_
        refine er_ldc (pc' := 76) (99999) rfl rfl rfl rfl rfl ?_
        refine er_cSi (pc' := 79) (rest := []) rfl rfl rfl (l_within _ _ _ _ _) ?_
        refine er_if_eqb (pc' := 82) rfl rfl (fun h79 => ?_) (fun h79 => ?_)
        · refine er_loc (pc' := 102) rfl rfl rfl ?_
          refine er_k (pc' := 103) (nI 1) rfl rfl rfl ?_
          refine er_cIz (pc' := 106) (rest := []) 11 rfl rfl rfl rfl rfl rfl (l_error _ _ _ 1 (by decide)) ?_
          intro Z9
          refine er_iret rfl rfl ?_
          (repeat' split) <;> first | exact RI_of rfl rfl | (exfalso; simp_all; done)
        · refine er_loc (pc' := 83) rfl rfl rfl ?_
          refine er_gf (pc' := 86) (_) rfl rfl rfl rfl rfl ?_
          refine er_gf (pc' := 89) (_) rfl rfl rfl rfl rfl ?_
          refine er_loc (pc' := 90) (L' := [(3, _), (0, _), (1, _), (2, _)]) rfl rfl rfl ?_
          refine er_loc (pc' := 91) rfl rfl rfl ?_
          refine er_gf (pc' := 94) (_) rfl rfl rfl rfl rfl ?_
          refine er_loc (pc' := 95) rfl rfl rfl ?_
          refine er_pfIX (pc' := 98) 10 rfl rfl rfl rfl rfl rfl ?_
          refine er_goto rfl ?_
          refine er_loc (pc' := 108) rfl rfl rfl ?_
          refine er_iret rfl rfl ?_
          (repeat' split) <;> first | exact RI_of rfl rfl | (exfalso; simp_all; done)
    · refine er_loc (pc' := 38) rfl rfl rfl ?_
      refine er_k (pc' := 39) (nI 0) rfl rfl rfl ?_
      refine er_k (pc' := 42) (nI 999) rfl rfl rfl ?_
      refine er_cSi (pc' := 45) (rest := []) rfl rfl rfl (l_within _ _ _ _ _) ?_
      refine er_if_eqb (pc' := 48) rfl rfl (fun h45 => ?_) (fun h45 => ?_)
      · refine er_loc (pc' := 68) rfl rfl rfl ?_
        refine er_k (pc' := 69) (nI 2) rfl rfl rfl ?_
        refine er_cm_ne (pc' := 72) rfl rfl (fun h69 => ?_) (fun h69 => ?_)
        · refine er_loc (pc' := 102) rfl rfl rfl ?_
          refine er_k (pc' := 103) (nI 1) rfl rfl rfl ?_
          refine er_cIz (pc' := 106) (rest := []) 11 rfl rfl rfl rfl rfl rfl (l_error _ _ _ 1 (by decide)) ?_
          intro Z9
          refine er_iret rfl rfl ?_
          (repeat' split) <;> first | exact RI_of rfl rfl | (exfalso; simp_all; done)
        · refine er_loc (pc' := 73) rfl rfl rfl ?_
          refine er_k (pc' := 74) (nI 0) rfl rfl rfl ?_
          refine er_ldc (pc' := 76) (99999) rfl rfl rfl rfl rfl ?_
          refine er_cSi (pc' := 79) (rest := []) rfl rfl rfl (l_within _ _ _ _ _) ?_
          refine er_if_eqb (pc' := 82) rfl rfl (fun h79 => ?_) (fun h79 => ?_)
          · refine er_loc (pc' := 102) rfl rfl rfl ?_
            refine er_k (pc' := 103) (nI 1) rfl rfl rfl ?_
            refine er_cIz (pc' := 106) (rest := []) 11 rfl rfl rfl rfl rfl rfl (l_error _ _ _ 1 (by decide)) ?_
            intro Z9
            refine er_iret rfl rfl ?_
            (repeat' split) <;> first | exact RI_of rfl rfl | (exfalso; simp_all; done)
          · refine er_loc (pc' := 83) rfl rfl rfl ?_
            refine er_gf (pc' := 86) (_) rfl rfl rfl rfl rfl ?_
            refine er_gf (pc' := 89) (_) rfl rfl rfl rfl rfl ?_
            refine er_loc (pc' := 90) (L' := [(3, _), (0, _), (1, _), (2, _)]) rfl rfl rfl ?_
            refine er_loc (pc' := 91) rfl rfl rfl ?_
            refine er_gf (pc' := 94) (_) rfl rfl rfl rfl rfl ?_
            refine er_loc (pc' := 95) rfl rfl rfl ?_
            refine er_pfIX (pc' := 98) 10 rfl rfl rfl rfl rfl rfl ?_
            refine er_goto rfl ?_
            refine er_loc (pc' := 108) rfl rfl rfl ?_
            refine er_iret rfl rfl ?_
            (repeat' split) <;> first | exact RI_of rfl rfl | (exfalso; simp_all; done)
      · refine er_loc (pc' := 49) rfl rfl rfl ?_
        refine er_gf (pc' := 52) (_) rfl rfl rfl rfl rfl ?_
        refine er_gf (pc' := 55) (_) rfl rfl rfl rfl rfl ?_
        refine er_loc (pc' := 56) (L' := [(3, _), (0, _), (1, _), (2, _)]) rfl rfl rfl ?_
        refine er_loc (pc' := 57) rfl rfl rfl ?_
        refine er_gf (pc' := 60) (_) rfl rfl rfl rfl rfl ?_
        refine er_loc (pc' := 61) rfl rfl rfl ?_
        refine er_pfIX (pc' := 64) 9 rfl rfl rfl rfl rfl rfl ?_
        refine er_goto rfl ?_
        refine er_loc (pc' := 108) rfl rfl rfl ?_
        refine er_iret rfl rfl ?_
        (repeat' split) <;> first | exact RI_of rfl rfl | (exfalso; simp_all; done)
  · refine er_loc (pc' := 5) rfl rfl rfl ?_
    refine er_k (pc' := 6) (nI 1) rfl rfl rfl ?_
    refine er_k (pc' := 7) (nI 2) rfl rfl rfl ?_
    refine er_cSi (pc' := 10) (rest := []) rfl rfl rfl (l_within _ _ _ _ _) ?_
    refine er_if_eqb (pc' := 13) rfl rfl (fun h10 => ?_) (fun h10 => ?_)
    · refine er_loc (pc' := 33) rfl rfl rfl ?_
      refine er_k (pc' := 34) (nI 1) rfl rfl rfl ?_
      refine er_cm_ne (pc' := 37) rfl rfl (fun h34 => ?_) (fun h34 => ?_)
      · refine er_loc (pc' := 68) rfl rfl rfl ?_
        refine er_k (pc' := 69) (nI 2) rfl rfl rfl ?_
        refine er_cm_ne (pc' := 72) rfl rfl (fun h69 => ?_) (fun h69 => ?_)
        · refine er_loc (pc' := 102) rfl rfl rfl ?_
          refine er_k (pc' := 103) (nI 1) rfl rfl rfl ?_
          refine er_cIz (pc' := 106) (rest := []) 11 rfl rfl rfl rfl rfl rfl (l_error _ _ _ 1 (by decide)) ?_
          intro Z9
          refine er_iret rfl rfl ?_
          (repeat' split) <;> first | exact RI_of rfl rfl | (exfalso; simp_all; done)
        · refine er_loc (pc' := 73) rfl rfl rfl ?_
          refine er_k (pc' := 74) (nI 0) rfl rfl rfl ?_
          refine er_ldc (pc' := 76) (99999) rfl rfl rfl rfl rfl ?_
          refine er_cSi (pc' := 79) (rest := []) rfl rfl rfl (l_within _ _ _ _ _) ?_
          refine er_if_eqb (pc' := 82) rfl rfl (fun h79 => ?_) (fun h79 => ?_)
          · refine er_loc (pc' := 102) rfl rfl rfl ?_
            refine er_k (pc' := 103) (nI 1) rfl rfl rfl ?_
            refine er_cIz (pc' := 106) (rest := []) 11 rfl rfl rfl rfl rfl rfl (l_error _ _ _ 1 (by decide)) ?_
            intro Z9
            refine er_iret rfl rfl ?_
            (repeat' split) <;> first | exact RI_of rfl rfl | (exfalso; simp_all; done)
          · refine er_loc (pc' := 83) rfl rfl rfl ?_
            refine er_gf (pc' := 86) (_) rfl rfl rfl rfl rfl ?_
            refine er_gf (pc' := 89) (_) rfl rfl rfl rfl rfl ?_
            refine er_loc (pc' := 90) (L' := [(3, _), (0, _), (1, _), (2, _)]) rfl rfl rfl ?_
            refine er_loc (pc' := 91) rfl rfl rfl ?_
            refine er_gf (pc' := 94) (_) rfl rfl rfl rfl rfl ?_
            refine er_loc (pc' := 95) rfl rfl rfl ?_
            refine er_pfIX (pc' := 98) 10 rfl rfl rfl rfl rfl rfl ?_
            refine er_goto rfl ?_
            refine er_loc (pc' := 108) rfl rfl rfl ?_
            refine er_iret rfl rfl ?_
            (repeat' split) <;> first | exact RI_of rfl rfl | (exfalso; simp_all; done)
      · refine er_loc (pc' := 38) rfl rfl rfl ?_
        refine er_k (pc' := 39) (nI 0) rfl rfl rfl ?_
        refine er_k (pc' := 42) (nI 999) rfl rfl rfl ?_
        refine er_cSi (pc' := 45) (rest := []) rfl rfl rfl (l_within _ _ _ _ _) ?_
        refine er_if_eqb (pc' := 48) rfl rfl (fun h45 => ?_) (fun h45 => ?_)
        · refine er_loc (pc' := 68) rfl rfl rfl ?_
          refine er_k (pc' := 69) (nI 2) rfl rfl rfl ?_
          refine er_cm_ne (pc' := 72) rfl rfl (fun h69 => ?_) (fun h69 => ?_)
          · refine er_loc (pc' := 102) rfl rfl rfl ?_
            refine er_k (pc' := 103) (nI 1) rfl rfl rfl ?_
            refine er_cIz (pc' := 106) (rest := []) 11 rfl rfl rfl rfl rfl rfl (l_error _ _ _ 1 (by decide)) ?_
            intro Z9
            refine er_iret rfl rfl ?_
            (repeat' split) <;> first | exact RI_of rfl rfl | (exfalso; simp_all; done)
          · refine er_loc (pc' := 73) rfl rfl rfl ?_
            refine er_k (pc' := 74) (nI 0) rfl rfl rfl ?_
            refine er_ldc (pc' := 76) (99999) rfl rfl rfl rfl rfl ?_
            refine er_cSi (pc' := 79) (rest := []) rfl rfl rfl (l_within _ _ _ _ _) ?_
            refine er_if_eqb (pc' := 82) rfl rfl (fun h79 => ?_) (fun h79 => ?_)
            · refine er_loc (pc' := 102) rfl rfl rfl ?_
              refine er_k (pc' := 103) (nI 1) rfl rfl rfl ?_
              refine er_cIz (pc' := 106) (rest := []) 11 rfl rfl rfl rfl rfl rfl (l_error _ _ _ 1 (by decide)) ?_
              intro Z9
              refine er_iret rfl rfl ?_
              (repeat' split) <;> first | exact RI_of rfl rfl | (exfalso; simp_all; done)
            · refine er_loc (pc' := 83) rfl rfl rfl ?_
              refine er_gf (pc' := 86) (_) rfl rfl rfl rfl rfl ?_
              refine er_gf (pc' := 89) (_) rfl rfl rfl rfl rfl ?_
              refine er_loc (pc' := 90) (L' := [(3, _), (0, _), (1, _), (2, _)]) rfl rfl rfl ?_
              refine er_loc (pc' := 91) rfl rfl rfl ?_
              refine er_gf (pc' := 94) (_) rfl rfl rfl rfl rfl ?_
              refine er_loc (pc' := 95) rfl rfl rfl ?_
              refine er_pfIX (pc' := 98) 10 rfl rfl rfl rfl rfl rfl ?_
              refine er_goto rfl ?_
              refine er_loc (pc' := 108) rfl rfl rfl ?_
              refine er_iret rfl rfl ?_
              (repeat' split) <;> first | exact RI_of rfl rfl | (exfalso; simp_all; done)
        · refine er_loc (pc' := 49) rfl rfl rfl ?_
          refine er_gf (pc' := 52) (_) rfl rfl rfl rfl rfl ?_
          refine er_gf (pc' := 55) (_) rfl rfl rfl rfl rfl ?_
          refine er_loc (pc' := 56) (L' := [(3, _), (0, _), (1, _), (2, _)]) rfl rfl rfl ?_
          refine er_loc (pc' := 57) rfl rfl rfl ?_
          refine er_gf (pc' := 60) (_) rfl rfl rfl rfl rfl ?_
          refine er_loc (pc' := 61) rfl rfl rfl ?_
          refine er_pfIX (pc' := 64) 9 rfl rfl rfl rfl rfl rfl ?_
          refine er_goto rfl ?_
          refine er_loc (pc' := 108) rfl rfl rfl ?_
          refine er_iret rfl rfl ?_
          (repeat' split) <;> first | exact RI_of rfl rfl | (exfalso; simp_all; done)
    · refine er_loc (pc' := 14) rfl rfl rfl ?_
      refine er_gf (pc' := 17) (_) rfl rfl rfl rfl rfl ?_
      refine er_gf (pc' := 20) (_) rfl rfl rfl rfl rfl ?_
      refine er_loc (pc' := 21) (L' := [(3, _), (0, _), (1, _), (2, _)]) rfl rfl rfl ?_
      refine er_loc (pc' := 22) rfl rfl rfl ?_
      refine er_gf (pc' := 25) (_) rfl rfl rfl rfl rfl ?_
      refine er_loc (pc' := 26) rfl rfl rfl ?_
      refine er_pfIX (pc' := 29) 8 rfl rfl rfl rfl rfl rfl ?_
      refine er_goto rfl ?_
      refine er_loc (pc' := 108) rfl rfl rfl ?_
      refine er_iret rfl rfl ?_
      (repeat' split) <;> first | exact RI_of rfl rfl | (exfalso; simp_all; done)
set_option maxRecDepth 100000 in
set_option maxHeartbeats 4000000 in
theorem l_become_no (d : Nat) (X Z : Nat → Nat → Int32) (s km : Int32) (hs : xHas X s = false) : EC (d + 3) 84 [.ref 0, .int s, .int km] (Wd X Z) (RI (sErr 1) (xErr X 1)) := by
  refine er_enter (L := [(0, _), (1, _), (2, _)]) rfl rfl rfl ?_
  refine er_loc (pc' := 1) rfl rfl rfl ?_
  refine er_gf (pc' := 4) (_) rfl rfl rfl rfl rfl ?_
  refine er_loc (pc' := 5) rfl rfl rfl ?_
  refine er_cIi (pc' := 8) (rest := []) 7 rfl rfl rfl rfl rfl rfl (l_has_no _ _ _ j9 _ hs) ?_
  refine er_if_eqT rfl (by decide +kernel) ?_
  refine er_loc (pc' := 22) rfl rfl rfl ?_
  refine er_k (pc' := 23) (nI 1) rfl rfl rfl ?_
  refine er_cIz (pc' := 26) (rest := []) 11 rfl rfl rfl rfl rfl rfl (l_error _ _ _ 1 (by decide)) ?_
  intro Z9
  refine er_iret rfl rfl ?_
  exact RI_of rfl rfl
set_option maxRecDepth 100000 in
set_option maxHeartbeats 4000000 in
theorem l_become (d : Nat) (X Z : Nat → Nat → Int32) {T : Nat} (hI : IJ T (jx X 9)) {k : Nat} (hk : k < jn (jx X 9)) (km : Int32) : EC (d + 3) 84 [.ref 0, .int (nI k), .int km] (Wd X Z) (fun r => if sIn km (nI 0) (nI 69) = true then RI (jx X 9 1 k) (ud (ud X (9 + 1) k (km / nI 10)) (9 + 2) k (km - km / nI 10 * nI 10)) r else RI (sErr 1) (xErr X 1) r) := by
  refine er_enter (L := [(0, _), (1, _), (2, _)]) rfl rfl rfl ?_
  have h8 := jn8 hI
  have hk8 : k < 8 := by omega
  refine er_loc (pc' := 1) rfl rfl rfl ?_
  refine er_gf (pc' := 4) (_) rfl rfl rfl rfl rfl ?_
  refine er_loc (pc' := 5) rfl rfl rfl ?_
  refine er_cIi (pc' := 8) (rest := []) 7 rfl rfl rfl rfl rfl rfl (l_has_t _ j9 _ _ hI hk) ?_
  refine er_if_eqF (pc' := 11) rfl (by decide +kernel) rfl ?_
  refine er_loc (pc' := 12) rfl rfl rfl ?_
  refine er_k (pc' := 13) (nI 0) rfl rfl rfl ?_
  refine er_k (pc' := 15) (nI 69) rfl rfl rfl ?_
  refine er_cSi (pc' := 18) (rest := []) rfl rfl rfl (l_within _ _ _ _ _) ?_
  refine er_if_neb (pc' := 21) rfl rfl (fun h18 => ?_) (fun h18 => ?_)
  · refine er_loc (pc' := 28) rfl rfl rfl ?_
    refine er_gf (pc' := 31) (_) rfl rfl rfl rfl rfl ?_
    refine er_gf (pc' := 34) (_) rfl rfl rfl rfl rfl ?_
    refine er_loc (pc' := 35) rfl rfl rfl ?_
    refine er_ia (pc' := 36) (k) rfl rfl rfl rfl (by omega) rfl rfl ?_
    refine er_loc (pc' := 37) (L' := [(3, _), (0, _), (1, _), (2, _)]) rfl rfl rfl ?_
    refine er_loc (pc' := 38) rfl rfl rfl ?_
    refine er_gf (pc' := 41) (_) rfl rfl rfl rfl rfl ?_
    refine er_gf (pc' := 44) (_) rfl rfl rfl rfl rfl ?_
    refine er_loc (pc' := 45) rfl rfl rfl ?_
    refine er_loc (pc' := 46) rfl rfl rfl ?_
    refine er_k (pc' := 48) (nI 10) rfl rfl rfl ?_
    refine er_idiv (pc' := 49) rfl rfl (by decide) ?_
    refine er_isX (pc' := 50) (k) rfl rfl (fun _ => rfl) rfl hk8 rfl rfl ?_
    refine er_loc (pc' := 51) rfl rfl rfl ?_
    refine er_gf (pc' := 54) (_) rfl rfl rfl rfl rfl ?_
    refine er_gf (pc' := 57) (_) rfl rfl rfl rfl rfl ?_
    refine er_loc (pc' := 58) rfl rfl rfl ?_
    refine er_loc (pc' := 59) rfl rfl rfl ?_
    refine er_k (pc' := 61) (nI 10) rfl rfl rfl ?_
    refine er_irem (pc' := 62) rfl rfl (by decide) ?_
    refine er_isX (pc' := 63) (k) rfl rfl (fun _ => rfl) rfl hk8 rfl rfl ?_
    refine er_loc (pc' := 64) rfl rfl rfl ?_
    refine er_iret rfl rfl ?_
    rw [if_pos h18]
    exact RI_of (jx1 hk8).symm rfl
  · refine er_loc (pc' := 22) rfl rfl rfl ?_
    refine er_k (pc' := 23) (nI 1) rfl rfl rfl ?_
    refine er_cIz (pc' := 26) (rest := []) 11 rfl rfl rfl rfl rfl rfl (l_error _ _ _ 1 (by decide)) ?_
    intro Z9
    refine er_iret rfl rfl ?_
    rw [if_neg (by rw [h18]; decide)]
    exact RI_of rfl rfl
def abv (q : Nat) : Int32 := if q = 4 then 1 else if q = 5 then 2 else if q = 6 then 3 else 0
def sIsOf (q : Nat) (w : Int32) : Bool := decide (nI q = w) || (decide (abv q = w) || decide (w = 0))
set_option maxRecDepth 100000 in
set_option maxHeartbeats 4000000 in
theorem l_isOf (d : Nat) (q : Nat) (w : Int32) (hq : q < 7) (W : ab_W) : EC (d + 2) 86 [.int (nI q), .int w] W (PI (bI (sIsOf q w)) W) := by
  rcases lt7 hq with rfl | rfl | rfl | rfl | rfl | rfl | rfl
  · refine er_enter (L := [(0, _), (1, _)]) rfl rfl rfl ?_
    refine er_loc (pc' := 1) rfl rfl rfl ?_
    refine er_k (pc' := 2) (nI 0) rfl rfl rfl ?_
    refine er_heap (pc' := 5) (st' := [.ref 1000000, _, _]) rfl rfl rfl ?_
    refine er_heap (pc' := 6) (st' := [.int (nI 7), _, _]) rfl rfl rfl ?_
    refine er_k (pc' := 7) (nI 1) rfl rfl rfl ?_
    refine er_isub (pc' := 8) rfl rfl ?_
    refine er_cSi (pc' := 11) (rest := []) rfl rfl rfl (l_within _ _ _ _ _) ?_
    rw [show nI 7 - nI 1 = nI 6 from by decide +kernel, sIn_t (by omega) (by omega) (by omega)]
    refine er_if_neT rfl (by decide +kernel) ?_
    refine er_loc (pc' := 17) rfl rfl rfl ?_
    refine er_loc (pc' := 18) rfl rfl rfl ?_
    refine er_cm_eq (pc' := 21) rfl rfl (fun h18 => ?_) (fun h18 => ?_)
    · refine er_k (pc' := 35) (nI 1) rfl rfl rfl ?_
      refine er_goto rfl ?_
      refine er_ret _ rfl rfl ?_
      exact PI_of (bI_eq1 (by unfold sIsOf; simp only [*]; simp))
    · refine er_heap (pc' := 24) (st' := [.ref 1000000]) rfl rfl rfl ?_
      refine er_loc (pc' := 25) rfl rfl rfl ?_
      refine er_heap (st' := [.int (abv 0)]) rfl rfl rfl ?_
      refine er_loc (pc' := 27) rfl rfl rfl ?_
      refine er_cm_eq (pc' := 30) rfl rfl (fun h27 => ?_) (fun h27 => ?_)
      · refine er_k (pc' := 35) (nI 1) rfl rfl rfl ?_
        refine er_goto rfl ?_
        refine er_ret _ rfl rfl ?_
        exact PI_of (bI_eq1 (by unfold sIsOf; simp only [*]; simp))
      · refine er_loc (pc' := 31) rfl rfl rfl ?_
        refine er_if_ne (pc' := 34) rfl rfl (fun h31 => ?_) (fun h31 => ?_)
        · refine er_k (pc' := 39) (nI 0) rfl rfl rfl ?_
          refine er_ret _ rfl rfl ?_
          exact PI_of (bI_eq0 (by unfold sIsOf; simp only [*]; simp))
        · refine er_k (pc' := 35) (nI 1) rfl rfl rfl ?_
          refine er_goto rfl ?_
          refine er_ret _ rfl rfl ?_
          exact PI_of (bI_eq1 (by unfold sIsOf; simp only [*]; simp))
  · refine er_enter (L := [(0, _), (1, _)]) rfl rfl rfl ?_
    refine er_loc (pc' := 1) rfl rfl rfl ?_
    refine er_k (pc' := 2) (nI 0) rfl rfl rfl ?_
    refine er_heap (pc' := 5) (st' := [.ref 1000000, _, _]) rfl rfl rfl ?_
    refine er_heap (pc' := 6) (st' := [.int (nI 7), _, _]) rfl rfl rfl ?_
    refine er_k (pc' := 7) (nI 1) rfl rfl rfl ?_
    refine er_isub (pc' := 8) rfl rfl ?_
    refine er_cSi (pc' := 11) (rest := []) rfl rfl rfl (l_within _ _ _ _ _) ?_
    rw [show nI 7 - nI 1 = nI 6 from by decide +kernel, sIn_t (by omega) (by omega) (by omega)]
    refine er_if_neT rfl (by decide +kernel) ?_
    refine er_loc (pc' := 17) rfl rfl rfl ?_
    refine er_loc (pc' := 18) rfl rfl rfl ?_
    refine er_cm_eq (pc' := 21) rfl rfl (fun h18 => ?_) (fun h18 => ?_)
    · refine er_k (pc' := 35) (nI 1) rfl rfl rfl ?_
      refine er_goto rfl ?_
      refine er_ret _ rfl rfl ?_
      exact PI_of (bI_eq1 (by unfold sIsOf; simp only [*]; simp))
    · refine er_heap (pc' := 24) (st' := [.ref 1000000]) rfl rfl rfl ?_
      refine er_loc (pc' := 25) rfl rfl rfl ?_
      refine er_heap (st' := [.int (abv 1)]) rfl rfl rfl ?_
      refine er_loc (pc' := 27) rfl rfl rfl ?_
      refine er_cm_eq (pc' := 30) rfl rfl (fun h27 => ?_) (fun h27 => ?_)
      · refine er_k (pc' := 35) (nI 1) rfl rfl rfl ?_
        refine er_goto rfl ?_
        refine er_ret _ rfl rfl ?_
        exact PI_of (bI_eq1 (by unfold sIsOf; simp only [*]; simp))
      · refine er_loc (pc' := 31) rfl rfl rfl ?_
        refine er_if_ne (pc' := 34) rfl rfl (fun h31 => ?_) (fun h31 => ?_)
        · refine er_k (pc' := 39) (nI 0) rfl rfl rfl ?_
          refine er_ret _ rfl rfl ?_
          exact PI_of (bI_eq0 (by unfold sIsOf; simp only [*]; simp))
        · refine er_k (pc' := 35) (nI 1) rfl rfl rfl ?_
          refine er_goto rfl ?_
          refine er_ret _ rfl rfl ?_
          exact PI_of (bI_eq1 (by unfold sIsOf; simp only [*]; simp))
  · refine er_enter (L := [(0, _), (1, _)]) rfl rfl rfl ?_
    refine er_loc (pc' := 1) rfl rfl rfl ?_
    refine er_k (pc' := 2) (nI 0) rfl rfl rfl ?_
    refine er_heap (pc' := 5) (st' := [.ref 1000000, _, _]) rfl rfl rfl ?_
    refine er_heap (pc' := 6) (st' := [.int (nI 7), _, _]) rfl rfl rfl ?_
    refine er_k (pc' := 7) (nI 1) rfl rfl rfl ?_
    refine er_isub (pc' := 8) rfl rfl ?_
    refine er_cSi (pc' := 11) (rest := []) rfl rfl rfl (l_within _ _ _ _ _) ?_
    rw [show nI 7 - nI 1 = nI 6 from by decide +kernel, sIn_t (by omega) (by omega) (by omega)]
    refine er_if_neT rfl (by decide +kernel) ?_
    refine er_loc (pc' := 17) rfl rfl rfl ?_
    refine er_loc (pc' := 18) rfl rfl rfl ?_
    refine er_cm_eq (pc' := 21) rfl rfl (fun h18 => ?_) (fun h18 => ?_)
    · refine er_k (pc' := 35) (nI 1) rfl rfl rfl ?_
      refine er_goto rfl ?_
      refine er_ret _ rfl rfl ?_
      exact PI_of (bI_eq1 (by unfold sIsOf; simp only [*]; simp))
    · refine er_heap (pc' := 24) (st' := [.ref 1000000]) rfl rfl rfl ?_
      refine er_loc (pc' := 25) rfl rfl rfl ?_
      refine er_heap (st' := [.int (abv 2)]) rfl rfl rfl ?_
      refine er_loc (pc' := 27) rfl rfl rfl ?_
      refine er_cm_eq (pc' := 30) rfl rfl (fun h27 => ?_) (fun h27 => ?_)
      · refine er_k (pc' := 35) (nI 1) rfl rfl rfl ?_
        refine er_goto rfl ?_
        refine er_ret _ rfl rfl ?_
        exact PI_of (bI_eq1 (by unfold sIsOf; simp only [*]; simp))
      · refine er_loc (pc' := 31) rfl rfl rfl ?_
        refine er_if_ne (pc' := 34) rfl rfl (fun h31 => ?_) (fun h31 => ?_)
        · refine er_k (pc' := 39) (nI 0) rfl rfl rfl ?_
          refine er_ret _ rfl rfl ?_
          exact PI_of (bI_eq0 (by unfold sIsOf; simp only [*]; simp))
        · refine er_k (pc' := 35) (nI 1) rfl rfl rfl ?_
          refine er_goto rfl ?_
          refine er_ret _ rfl rfl ?_
          exact PI_of (bI_eq1 (by unfold sIsOf; simp only [*]; simp))
  · refine er_enter (L := [(0, _), (1, _)]) rfl rfl rfl ?_
    refine er_loc (pc' := 1) rfl rfl rfl ?_
    refine er_k (pc' := 2) (nI 0) rfl rfl rfl ?_
    refine er_heap (pc' := 5) (st' := [.ref 1000000, _, _]) rfl rfl rfl ?_
    refine er_heap (pc' := 6) (st' := [.int (nI 7), _, _]) rfl rfl rfl ?_
    refine er_k (pc' := 7) (nI 1) rfl rfl rfl ?_
    refine er_isub (pc' := 8) rfl rfl ?_
    refine er_cSi (pc' := 11) (rest := []) rfl rfl rfl (l_within _ _ _ _ _) ?_
    rw [show nI 7 - nI 1 = nI 6 from by decide +kernel, sIn_t (by omega) (by omega) (by omega)]
    refine er_if_neT rfl (by decide +kernel) ?_
    refine er_loc (pc' := 17) rfl rfl rfl ?_
    refine er_loc (pc' := 18) rfl rfl rfl ?_
    refine er_cm_eq (pc' := 21) rfl rfl (fun h18 => ?_) (fun h18 => ?_)
    · refine er_k (pc' := 35) (nI 1) rfl rfl rfl ?_
      refine er_goto rfl ?_
      refine er_ret _ rfl rfl ?_
      exact PI_of (bI_eq1 (by unfold sIsOf; simp only [*]; simp))
    · refine er_heap (pc' := 24) (st' := [.ref 1000000]) rfl rfl rfl ?_
      refine er_loc (pc' := 25) rfl rfl rfl ?_
      refine er_heap (st' := [.int (abv 3)]) rfl rfl rfl ?_
      refine er_loc (pc' := 27) rfl rfl rfl ?_
      refine er_cm_eq (pc' := 30) rfl rfl (fun h27 => ?_) (fun h27 => ?_)
      · refine er_k (pc' := 35) (nI 1) rfl rfl rfl ?_
        refine er_goto rfl ?_
        refine er_ret _ rfl rfl ?_
        exact PI_of (bI_eq1 (by unfold sIsOf; simp only [*]; simp))
      · refine er_loc (pc' := 31) rfl rfl rfl ?_
        refine er_if_ne (pc' := 34) rfl rfl (fun h31 => ?_) (fun h31 => ?_)
        · refine er_k (pc' := 39) (nI 0) rfl rfl rfl ?_
          refine er_ret _ rfl rfl ?_
          exact PI_of (bI_eq0 (by unfold sIsOf; simp only [*]; simp))
        · refine er_k (pc' := 35) (nI 1) rfl rfl rfl ?_
          refine er_goto rfl ?_
          refine er_ret _ rfl rfl ?_
          exact PI_of (bI_eq1 (by unfold sIsOf; simp only [*]; simp))
  · refine er_enter (L := [(0, _), (1, _)]) rfl rfl rfl ?_
    refine er_loc (pc' := 1) rfl rfl rfl ?_
    refine er_k (pc' := 2) (nI 0) rfl rfl rfl ?_
    refine er_heap (pc' := 5) (st' := [.ref 1000000, _, _]) rfl rfl rfl ?_
    refine er_heap (pc' := 6) (st' := [.int (nI 7), _, _]) rfl rfl rfl ?_
    refine er_k (pc' := 7) (nI 1) rfl rfl rfl ?_
    refine er_isub (pc' := 8) rfl rfl ?_
    refine er_cSi (pc' := 11) (rest := []) rfl rfl rfl (l_within _ _ _ _ _) ?_
    rw [show nI 7 - nI 1 = nI 6 from by decide +kernel, sIn_t (by omega) (by omega) (by omega)]
    refine er_if_neT rfl (by decide +kernel) ?_
    refine er_loc (pc' := 17) rfl rfl rfl ?_
    refine er_loc (pc' := 18) rfl rfl rfl ?_
    refine er_cm_eq (pc' := 21) rfl rfl (fun h18 => ?_) (fun h18 => ?_)
    · refine er_k (pc' := 35) (nI 1) rfl rfl rfl ?_
      refine er_goto rfl ?_
      refine er_ret _ rfl rfl ?_
      exact PI_of (bI_eq1 (by unfold sIsOf; simp only [*]; simp))
    · refine er_heap (pc' := 24) (st' := [.ref 1000000]) rfl rfl rfl ?_
      refine er_loc (pc' := 25) rfl rfl rfl ?_
      refine er_heap (st' := [.int (abv 4)]) rfl rfl rfl ?_
      refine er_loc (pc' := 27) rfl rfl rfl ?_
      refine er_cm_eq (pc' := 30) rfl rfl (fun h27 => ?_) (fun h27 => ?_)
      · refine er_k (pc' := 35) (nI 1) rfl rfl rfl ?_
        refine er_goto rfl ?_
        refine er_ret _ rfl rfl ?_
        exact PI_of (bI_eq1 (by unfold sIsOf; simp only [*]; simp))
      · refine er_loc (pc' := 31) rfl rfl rfl ?_
        refine er_if_ne (pc' := 34) rfl rfl (fun h31 => ?_) (fun h31 => ?_)
        · refine er_k (pc' := 39) (nI 0) rfl rfl rfl ?_
          refine er_ret _ rfl rfl ?_
          exact PI_of (bI_eq0 (by unfold sIsOf; simp only [*]; simp))
        · refine er_k (pc' := 35) (nI 1) rfl rfl rfl ?_
          refine er_goto rfl ?_
          refine er_ret _ rfl rfl ?_
          exact PI_of (bI_eq1 (by unfold sIsOf; simp only [*]; simp))
  · refine er_enter (L := [(0, _), (1, _)]) rfl rfl rfl ?_
    refine er_loc (pc' := 1) rfl rfl rfl ?_
    refine er_k (pc' := 2) (nI 0) rfl rfl rfl ?_
    refine er_heap (pc' := 5) (st' := [.ref 1000000, _, _]) rfl rfl rfl ?_
    refine er_heap (pc' := 6) (st' := [.int (nI 7), _, _]) rfl rfl rfl ?_
    refine er_k (pc' := 7) (nI 1) rfl rfl rfl ?_
    refine er_isub (pc' := 8) rfl rfl ?_
    refine er_cSi (pc' := 11) (rest := []) rfl rfl rfl (l_within _ _ _ _ _) ?_
    rw [show nI 7 - nI 1 = nI 6 from by decide +kernel, sIn_t (by omega) (by omega) (by omega)]
    refine er_if_neT rfl (by decide +kernel) ?_
    refine er_loc (pc' := 17) rfl rfl rfl ?_
    refine er_loc (pc' := 18) rfl rfl rfl ?_
    refine er_cm_eq (pc' := 21) rfl rfl (fun h18 => ?_) (fun h18 => ?_)
    · refine er_k (pc' := 35) (nI 1) rfl rfl rfl ?_
      refine er_goto rfl ?_
      refine er_ret _ rfl rfl ?_
      exact PI_of (bI_eq1 (by unfold sIsOf; simp only [*]; simp))
    · refine er_heap (pc' := 24) (st' := [.ref 1000000]) rfl rfl rfl ?_
      refine er_loc (pc' := 25) rfl rfl rfl ?_
      refine er_heap (st' := [.int (abv 5)]) rfl rfl rfl ?_
      refine er_loc (pc' := 27) rfl rfl rfl ?_
      refine er_cm_eq (pc' := 30) rfl rfl (fun h27 => ?_) (fun h27 => ?_)
      · refine er_k (pc' := 35) (nI 1) rfl rfl rfl ?_
        refine er_goto rfl ?_
        refine er_ret _ rfl rfl ?_
        exact PI_of (bI_eq1 (by unfold sIsOf; simp only [*]; simp))
      · refine er_loc (pc' := 31) rfl rfl rfl ?_
        refine er_if_ne (pc' := 34) rfl rfl (fun h31 => ?_) (fun h31 => ?_)
        · refine er_k (pc' := 39) (nI 0) rfl rfl rfl ?_
          refine er_ret _ rfl rfl ?_
          exact PI_of (bI_eq0 (by unfold sIsOf; simp only [*]; simp))
        · refine er_k (pc' := 35) (nI 1) rfl rfl rfl ?_
          refine er_goto rfl ?_
          refine er_ret _ rfl rfl ?_
          exact PI_of (bI_eq1 (by unfold sIsOf; simp only [*]; simp))
  · refine er_enter (L := [(0, _), (1, _)]) rfl rfl rfl ?_
    refine er_loc (pc' := 1) rfl rfl rfl ?_
    refine er_k (pc' := 2) (nI 0) rfl rfl rfl ?_
    refine er_heap (pc' := 5) (st' := [.ref 1000000, _, _]) rfl rfl rfl ?_
    refine er_heap (pc' := 6) (st' := [.int (nI 7), _, _]) rfl rfl rfl ?_
    refine er_k (pc' := 7) (nI 1) rfl rfl rfl ?_
    refine er_isub (pc' := 8) rfl rfl ?_
    refine er_cSi (pc' := 11) (rest := []) rfl rfl rfl (l_within _ _ _ _ _) ?_
    rw [show nI 7 - nI 1 = nI 6 from by decide +kernel, sIn_t (by omega) (by omega) (by omega)]
    refine er_if_neT rfl (by decide +kernel) ?_
    refine er_loc (pc' := 17) rfl rfl rfl ?_
    refine er_loc (pc' := 18) rfl rfl rfl ?_
    refine er_cm_eq (pc' := 21) rfl rfl (fun h18 => ?_) (fun h18 => ?_)
    · refine er_k (pc' := 35) (nI 1) rfl rfl rfl ?_
      refine er_goto rfl ?_
      refine er_ret _ rfl rfl ?_
      exact PI_of (bI_eq1 (by unfold sIsOf; simp only [*]; simp))
    · refine er_heap (pc' := 24) (st' := [.ref 1000000]) rfl rfl rfl ?_
      refine er_loc (pc' := 25) rfl rfl rfl ?_
      refine er_heap (st' := [.int (abv 6)]) rfl rfl rfl ?_
      refine er_loc (pc' := 27) rfl rfl rfl ?_
      refine er_cm_eq (pc' := 30) rfl rfl (fun h27 => ?_) (fun h27 => ?_)
      · refine er_k (pc' := 35) (nI 1) rfl rfl rfl ?_
        refine er_goto rfl ?_
        refine er_ret _ rfl rfl ?_
        exact PI_of (bI_eq1 (by unfold sIsOf; simp only [*]; simp))
      · refine er_loc (pc' := 31) rfl rfl rfl ?_
        refine er_if_ne (pc' := 34) rfl rfl (fun h31 => ?_) (fun h31 => ?_)
        · refine er_k (pc' := 39) (nI 0) rfl rfl rfl ?_
          refine er_ret _ rfl rfl ?_
          exact PI_of (bI_eq0 (by unfold sIsOf; simp only [*]; simp))
        · refine er_k (pc' := 35) (nI 1) rfl rfl rfl ?_
          refine er_goto rfl ?_
          refine er_ret _ rfl rfl ?_
          exact PI_of (bI_eq1 (by unfold sIsOf; simp only [*]; simp))
set_option maxRecDepth 100000 in
set_option maxHeartbeats 4000000 in
theorem l_as_no (d : Nat) (X Z : Nat → Nat → Int32) (s w : Int32) (hs : xHas X s = false) : EC (d + 4) 85 [.ref 0, .int s, .int w] (Wd X Z) (RI (sErr 1) (xErr X 1)) := by
  refine er_enter (L := [(0, _), (1, _), (2, _)]) rfl rfl rfl ?_
  refine er_loc (pc' := 1) rfl rfl rfl ?_
  refine er_gf (pc' := 4) (_) rfl rfl rfl rfl rfl ?_
  refine er_loc (pc' := 5) rfl rfl rfl ?_
  refine er_cIi (pc' := 8) (rest := []) 7 rfl rfl rfl rfl rfl rfl (l_has_no _ _ _ j9 _ hs) ?_
  refine er_if_eqT rfl (by decide +kernel) ?_
  refine er_loc (pc' := 26) rfl rfl rfl ?_
  refine er_k (pc' := 27) (nI 1) rfl rfl rfl ?_
  refine er_cIz (pc' := 30) (rest := []) 11 rfl rfl rfl rfl rfl rfl (l_error _ _ _ 1 (by decide)) ?_
  intro Z9
  refine er_iret rfl rfl ?_
  exact RI_of rfl rfl
set_option maxRecDepth 100000 in
set_option maxHeartbeats 4000000 in
theorem l_as (d : Nat) (X Z : Nat → Nat → Int32) {T : Nat} (hI : IJ T (jx X 9)) {k : Nat} (hk : k < jn (jx X 9)) (w : Int32) : EC (d + 3) 85 [.ref 0, .int (nI k), .int w] (Wd X Z) (fun r => if sIn w (nI 0) (nI 6) = true then (if sIsOf (sKind (jx X 9) k) w = true then RI (jx X 9 2 k) X r else RI (sErr 5) (xErr X 5) r) else RI (sErr 1) (xErr X 1) r) := by
  refine er_enter (L := [(0, _), (1, _), (2, _)]) rfl rfl rfl ?_
  have h8 := jn8 hI
  have hk8 : k < 8 := by omega
  have hq := kind7 hI k
  refine er_loc (pc' := 1) rfl rfl rfl ?_
  refine er_gf (pc' := 4) (_) rfl rfl rfl rfl rfl ?_
  refine er_loc (pc' := 5) rfl rfl rfl ?_
  refine er_cIi (pc' := 8) (rest := []) 7 rfl rfl rfl rfl rfl rfl (l_has_t _ j9 _ _ hI hk) ?_
  refine er_if_eqF (pc' := 11) rfl (by decide +kernel) rfl ?_
  refine er_loc (pc' := 12) rfl rfl rfl ?_
  refine er_k (pc' := 13) (nI 0) rfl rfl rfl ?_
  refine er_heap (pc' := 16) (st' := [.ref 1000000, _, _]) rfl rfl rfl ?_
  refine er_heap (pc' := 17) (st' := [.int (nI 7), _, _]) rfl rfl rfl ?_
  refine er_k (pc' := 18) (nI 1) rfl rfl rfl ?_
  refine er_isub (pc' := 19) rfl rfl ?_
  refine er_cSi (pc' := 22) (rest := []) rfl rfl rfl (l_within _ _ _ _ _) ?_
  rw [show nI 7 - nI 1 = nI 6 from by decide +kernel]
  refine er_if_neb (pc' := 25) rfl rfl (fun h22 => ?_) (fun h22 => ?_)
  · refine er_loc (pc' := 32) rfl rfl rfl ?_
    refine er_gf (pc' := 35) (_) rfl rfl rfl rfl rfl ?_
    refine er_gf (pc' := 38) (_) rfl rfl rfl rfl rfl ?_
    refine er_loc (pc' := 39) rfl rfl rfl ?_
    refine er_ia (pc' := 40) (k) rfl rfl rfl rfl (by omega) rfl rfl ?_
    rw [show X 10 k = nI (sKind (jx X 9) k) from kindX (b := 9) hI hk8]
    refine er_loc (pc' := 41) rfl rfl rfl ?_
    refine er_cSi (pc' := 44) (rest := []) rfl rfl rfl (l_isOf _ _ _ hq _) ?_
    refine er_if_neb (pc' := 47) rfl rfl (fun h44 => ?_) (fun h44 => ?_)
    · refine er_loc (pc' := 54) rfl rfl rfl ?_
      refine er_gf (pc' := 57) (_) rfl rfl rfl rfl rfl ?_
      refine er_gf (pc' := 60) (_) rfl rfl rfl rfl rfl ?_
      refine er_loc (pc' := 61) rfl rfl rfl ?_
      refine er_ia (pc' := 62) (k) rfl rfl rfl rfl (by omega) rfl rfl ?_
      refine er_iret rfl rfl ?_
      rw [if_pos h22, if_pos h44]
      exact RI_of (jx2 hk8).symm rfl
    · refine er_loc (pc' := 48) rfl rfl rfl ?_
      refine er_k (pc' := 49) (nI 5) rfl rfl rfl ?_
      refine er_cIz (pc' := 52) (rest := []) 11 rfl rfl rfl rfl rfl rfl (l_error _ _ _ 5 (by decide)) ?_
      intro Z9
      refine er_iret rfl rfl ?_
      rw [if_pos h22, if_neg (by rw [h44]; decide)]
      exact RI_of rfl rfl
  · refine er_loc (pc' := 26) rfl rfl rfl ?_
    refine er_k (pc' := 27) (nI 1) rfl rfl rfl ?_
    refine er_cIz (pc' := 30) (rest := []) 11 rfl rfl rfl rfl rfl rfl (l_error _ _ _ 1 (by decide)) ?_
    intro Z9
    refine er_iret rfl rfl ?_
    rw [if_neg (by rw [h22]; decide)]
    exact RI_of rfl rfl
set_option maxRecDepth 100000 in
set_option maxHeartbeats 4000000 in
theorem l_law (d : Nat) (X Z : Nat → Nat → Int32) {T : Nat} (hI : IJ T (jx X 9)) (u p q r0 : Int32) : EC (d + 4) 90 [.ref 0, .int u, .int p, .int q, .int r0] (Wd X Z) (fun r => if sUse u = true then (if u = 0 then RI (sLastsBy (jx X 9) p q r0) X r else RI (sErrsBy (jx X 9) p q r0) X r) else RI (sErr 1) (xErr X 1) r) := by
  refine er_enter (L := [(0, _), (1, _), (2, _), (3, _), (4, _)]) rfl rfl rfl ?_
  refine er_loc (pc' := 1) rfl rfl rfl ?_
  refine er_cSi (pc' := 4) (rest := []) rfl rfl rfl (l_isUse _ _ _) ?_
  refine er_if_neb (pc' := 7) rfl rfl (fun h4 => ?_) (fun h4 => ?_)
  · refine er_loc (pc' := 14) rfl rfl rfl ?_
    refine er_if_ne (pc' := 17) rfl rfl (fun h14 => ?_) (fun h14 => ?_)
    · refine er_loc (pc' := 32) rfl rfl rfl ?_
      refine er_gf (pc' := 35) (_) rfl rfl rfl rfl rfl ?_
      refine er_loc (pc' := 36) rfl rfl rfl ?_
      refine er_loc (pc' := 37) rfl rfl rfl ?_
      refine er_loc (pc' := 39) rfl rfl rfl ?_
      refine er_cIz (pc' := 42) (rest := []) 7 rfl rfl rfl rfl rfl rfl (l_errsBy _ j9 _ _ hI _ _ _) ?_
      intro Z1
      refine er_iret rfl rfl ?_
      rw [if_pos h4]
      first | rw [if_pos h14] | rw [if_neg h14]
      exact RI_of rfl rfl
    · refine er_loc (pc' := 18) rfl rfl rfl ?_
      refine er_gf (pc' := 21) (_) rfl rfl rfl rfl rfl ?_
      refine er_loc (pc' := 22) rfl rfl rfl ?_
      refine er_loc (pc' := 23) rfl rfl rfl ?_
      refine er_loc (pc' := 25) rfl rfl rfl ?_
      refine er_cIz (pc' := 28) (rest := []) 7 rfl rfl rfl rfl rfl rfl (l_lastsBy _ j9 _ _ hI _ _ _) ?_
      intro Z1
      refine er_goto rfl ?_
      refine er_iret rfl rfl ?_
      rw [if_pos h4]
      first | rw [if_pos h14] | rw [if_neg h14]
      exact RI_of rfl rfl
  · refine er_loc (pc' := 8) rfl rfl rfl ?_
    refine er_k (pc' := 9) (nI 1) rfl rfl rfl ?_
    refine er_cIz (pc' := 12) (rest := []) 11 rfl rfl rfl rfl rfl rfl (l_error _ _ _ 1 (by decide)) ?_
    intro Z9
    refine er_iret rfl rfl ?_
    rw [if_neg (by rw [h4]; decide)]
    exact RI_of rfl rfl
set_option maxRecDepth 100000 in
set_option maxHeartbeats 4000000 in
theorem l_does_no (d : Nat) (X Z : Nat → Nat → Int32) (s : Int32) (hs : xHas X s = false) : EC (d + 3) 91 [.ref 0, .int s] (Wd X Z) (RI (sErr 1) (xErr X 1)) := by
  refine er_enter (L := [(0, _), (1, _)]) rfl rfl rfl ?_
  refine er_loc (pc' := 1) rfl rfl rfl ?_
  refine er_gf (pc' := 4) (_) rfl rfl rfl rfl rfl ?_
  refine er_loc (pc' := 5) rfl rfl rfl ?_
  refine er_cIi (pc' := 8) (rest := []) 7 rfl rfl rfl rfl rfl rfl (l_has_no _ _ _ j9 _ hs) ?_
  refine er_if_neF (pc' := 11) rfl (by decide +kernel) rfl ?_
  refine er_loc (pc' := 12) rfl rfl rfl ?_
  refine er_k (pc' := 13) (nI 1) rfl rfl rfl ?_
  refine er_cIz (pc' := 16) (rest := []) 11 rfl rfl rfl rfl rfl rfl (l_error _ _ _ 1 (by decide)) ?_
  intro Z9
  refine er_iret rfl rfl ?_
  exact RI_of rfl rfl
set_option maxRecDepth 100000 in
set_option maxHeartbeats 4000000 in
theorem l_undo_no (d : Nat) (X Z : Nat → Nat → Int32) (s : Int32) (hs : xHas X s = false) : EC (d + 3) 92 [.ref 0, .int s] (Wd X Z) (RI (sErr 1) (xErr X 1)) := by
  refine er_enter (L := [(0, _), (1, _)]) rfl rfl rfl ?_
  refine er_loc (pc' := 1) rfl rfl rfl ?_
  refine er_gf (pc' := 4) (_) rfl rfl rfl rfl rfl ?_
  refine er_loc (pc' := 5) rfl rfl rfl ?_
  refine er_cIi (pc' := 8) (rest := []) 7 rfl rfl rfl rfl rfl rfl (l_has_no _ _ _ j9 _ hs) ?_
  refine er_if_neF (pc' := 11) rfl (by decide +kernel) rfl ?_
  refine er_loc (pc' := 12) rfl rfl rfl ?_
  refine er_k (pc' := 13) (nI 1) rfl rfl rfl ?_
  refine er_cIz (pc' := 16) (rest := []) 11 rfl rfl rfl rfl rfl rfl (l_error _ _ _ 1 (by decide)) ?_
  intro Z9
  refine er_iret rfl rfl ?_
  exact RI_of rfl rfl
def sCan (J : Nat → Nat → Int32) (k : Nat) : Bool := sMayDo J k && !decide (99999 < J 0 10 + sLasts J k)
def sCanU (J : Nat → Nat → Int32) (k : Nat) : Bool := sMayUn J k && !decide (99999 < J 0 10 + sBack J k)
set_option maxRecDepth 100000 in
set_option maxHeartbeats 4000000 in
theorem l_does (d : Nat) (X Z : Nat → Nat → Int32) {T : Nat} (hI : IJ T (jx X 9)) {k : Nat} (hk : k < jn (jx X 9)) : EC (d + 7) 91 [.ref 0, .int (nI k)] (Wd X Z) (fun r => if sCan (jx X 9) k = true then RI (bI (sBit (jFin (jx X 9) k 0 7) (nI k))) (xFin X 9 k) r else RI (sErr 3) (xErr X 3) r) := by
  refine er_enter (L := [(0, _), (1, _)]) rfl rfl rfl ?_
  have h8 := jn8 hI
  have hk8 : k < 8 := by omega
  refine er_loc (pc' := 1) rfl rfl rfl ?_
  refine er_gf (pc' := 4) (_) rfl rfl rfl rfl rfl ?_
  refine er_loc (pc' := 5) rfl rfl rfl ?_
  refine er_cIi (pc' := 8) (rest := []) 7 rfl rfl rfl rfl rfl rfl (l_has_t _ j9 _ _ hI hk) ?_
  refine er_if_neT rfl (by decide +kernel) ?_
  refine er_loc (pc' := 18) rfl rfl rfl ?_
  refine er_gf (pc' := 21) (_) rfl rfl rfl rfl rfl ?_
  refine er_loc (pc' := 22) rfl rfl rfl ?_
  refine er_cIi (pc' := 25) (rest := []) 7 rfl rfl rfl rfl rfl rfl (l_mayBeDone _ j9 _ _ hI hk) ?_
  refine er_if_eqb (pc' := 28) rfl rfl (fun h25 => ?_) (fun h25 => ?_)
  · refine er_loc (pc' := 50) rfl rfl rfl ?_
    refine er_k (pc' := 51) (nI 3) rfl rfl rfl ?_
    refine er_cIz (pc' := 54) (rest := []) 11 rfl rfl rfl rfl rfl rfl (l_error _ _ _ 3 (by decide)) ?_
    intro Z9
    refine er_iret rfl rfl ?_
    have e : sCan (jx X 9) k = false := by
      unfold sCan; rw [show jx X 9 0 10 = X 9 10 from rfl]; simp [*]
    rw [if_neg (by rw [e]; decide)]
    exact RI_of rfl rfl
  · refine er_loc (pc' := 29) rfl rfl rfl ?_
    refine er_gf (pc' := 32) (_) rfl rfl rfl rfl rfl ?_
    refine er_gf (pc' := 35) (.int (X 9 10)) rfl rfl rfl rfl rfl ?_
    refine er_loc (pc' := 36) rfl rfl rfl ?_
    refine er_gf (pc' := 39) (_) rfl rfl rfl rfl rfl ?_
    refine er_loc (pc' := 40) rfl rfl rfl ?_
    refine er_cIz (pc' := 43) (rest := [_]) 7 rfl rfl rfl rfl rfl rfl (l_lasts _ j9 _ _ hI hk) ?_
    intro Z2
    refine er_iadd (pc' := 44) rfl rfl ?_
    refine er_ldc (pc' := 46) (99999) rfl rfl rfl rfl rfl ?_
    refine er_cm_le (pc' := 49) rfl rfl (fun h46 => ?_) (fun h46 => ?_)
    · refine er_loc (pc' := 56) rfl rfl rfl ?_
      refine er_gf (pc' := 59) (_) rfl rfl rfl rfl rfl ?_
      refine er_loc (pc' := 60) rfl rfl rfl ?_
      refine er_cIv (pc' := 63) (rest := []) 7 rfl rfl rfl rfl rfl rfl (l_finish _ j9 _ _ hI hk) ?_
      intro Z7
      refine er_loc (pc' := 64) rfl rfl rfl ?_
      refine er_gf (pc' := 67) (_) rfl rfl rfl rfl rfl ?_
      refine er_loc (pc' := 68) rfl rfl rfl ?_
      refine er_cIi (pc' := 71) (rest := []) 7 rfl rfl rfl rfl rfl rfl (l_isWrong _ j9 _ _ _) ?_
      refine er_if_eqb (pc' := 74) rfl rfl (fun h71 => ?_) (fun h71 => ?_)
      · refine er_k (pc' := 79) (nI 0) rfl rfl rfl ?_
        refine er_iret rfl rfl ?_
        have e : sCan (jx X 9) k = true := by
          unfold sCan; rw [show jx X 9 0 10 = X 9 10 from rfl]; simp [*]
        rw [if_pos e]
        refine RI_of ?_ rfl
        have e2 : jFin (jx X 9) k 0 7 = xFin X 9 k 9 7 := by rw [← jx_xFin hk8]; exact jx07
        rw [e2]
        exact bI_eq0 h71
      · refine er_k (pc' := 75) (nI 1) rfl rfl rfl ?_
        refine er_goto rfl ?_
        refine er_iret rfl rfl ?_
        have e : sCan (jx X 9) k = true := by
          unfold sCan; rw [show jx X 9 0 10 = X 9 10 from rfl]; simp [*]
        rw [if_pos e]
        refine RI_of ?_ rfl
        have e2 : jFin (jx X 9) k 0 7 = xFin X 9 k 9 7 := by rw [← jx_xFin hk8]; exact jx07
        rw [e2]
        exact bI_eq1 h71
    · refine er_loc (pc' := 50) rfl rfl rfl ?_
      refine er_k (pc' := 51) (nI 3) rfl rfl rfl ?_
      refine er_cIz (pc' := 54) (rest := []) 11 rfl rfl rfl rfl rfl rfl (l_error _ _ _ 3 (by decide)) ?_
      intro Z9
      refine er_iret rfl rfl ?_
      have e : sCan (jx X 9) k = false := by
        unfold sCan; rw [show jx X 9 0 10 = X 9 10 from rfl]; simp [*]
      rw [if_neg (by rw [e]; decide)]
      exact RI_of rfl rfl
set_option maxRecDepth 100000 in
set_option maxHeartbeats 4000000 in
theorem l_undo (d : Nat) (X Z : Nat → Nat → Int32) {T : Nat} (hI : IJ T (jx X 9)) {k : Nat} (hk : k < jn (jx X 9)) : EC (d + 7) 92 [.ref 0, .int (nI k)] (Wd X Z) (fun r => if sCanU (jx X 9) k = true then RI (jApart (jx X 9) k 0 9) (xApart X 9 k) r else RI (sErr 3) (xErr X 3) r) := by
  refine er_enter (L := [(0, _), (1, _)]) rfl rfl rfl ?_
  have h8 := jn8 hI
  have hk8 : k < 8 := by omega
  refine er_loc (pc' := 1) rfl rfl rfl ?_
  refine er_gf (pc' := 4) (_) rfl rfl rfl rfl rfl ?_
  refine er_loc (pc' := 5) rfl rfl rfl ?_
  refine er_cIi (pc' := 8) (rest := []) 7 rfl rfl rfl rfl rfl rfl (l_has_t _ j9 _ _ hI hk) ?_
  refine er_if_neT rfl (by decide +kernel) ?_
  refine er_loc (pc' := 18) rfl rfl rfl ?_
  refine er_gf (pc' := 21) (_) rfl rfl rfl rfl rfl ?_
  refine er_loc (pc' := 22) rfl rfl rfl ?_
  refine er_cIi (pc' := 25) (rest := []) 7 rfl rfl rfl rfl rfl rfl (l_mayBeUndone _ j9 _ _ hI hk) ?_
  refine er_if_eqb (pc' := 28) rfl rfl (fun h25 => ?_) (fun h25 => ?_)
  · refine er_loc (pc' := 50) rfl rfl rfl ?_
    refine er_k (pc' := 51) (nI 3) rfl rfl rfl ?_
    refine er_cIz (pc' := 54) (rest := []) 11 rfl rfl rfl rfl rfl rfl (l_error _ _ _ 3 (by decide)) ?_
    intro Z9
    refine er_iret rfl rfl ?_
    have e : sCanU (jx X 9) k = false := by
      unfold sCanU; rw [show jx X 9 0 10 = X 9 10 from rfl]; simp [*]
    rw [if_neg (by rw [e]; decide)]
    exact RI_of rfl rfl
  · refine er_loc (pc' := 29) rfl rfl rfl ?_
    refine er_gf (pc' := 32) (_) rfl rfl rfl rfl rfl ?_
    refine er_gf (pc' := 35) (.int (X 9 10)) rfl rfl rfl rfl rfl ?_
    refine er_loc (pc' := 36) rfl rfl rfl ?_
    refine er_gf (pc' := 39) (_) rfl rfl rfl rfl rfl ?_
    refine er_loc (pc' := 40) rfl rfl rfl ?_
    refine er_cIz (pc' := 43) (rest := [_]) 7 rfl rfl rfl rfl rfl rfl (l_takesBack _ j9 _ _ hI hk) ?_
    intro Z2
    refine er_iadd (pc' := 44) rfl rfl ?_
    refine er_ldc (pc' := 46) (99999) rfl rfl rfl rfl rfl ?_
    refine er_cm_le (pc' := 49) rfl rfl (fun h46 => ?_) (fun h46 => ?_)
    · refine er_loc (pc' := 56) rfl rfl rfl ?_
      refine er_gf (pc' := 59) (_) rfl rfl rfl rfl rfl ?_
      refine er_loc (pc' := 60) rfl rfl rfl ?_
      refine er_cIv (pc' := 63) (rest := []) 7 rfl rfl rfl rfl rfl rfl (l_takeApart _ j9 _ _ hI hk) ?_
      intro Z7
      refine er_loc (pc' := 64) rfl rfl rfl ?_
      refine er_gf (pc' := 67) (_) rfl rfl rfl rfl rfl ?_
      refine er_gf (pc' := 70) (_) rfl rfl rfl rfl rfl ?_
      refine er_iret rfl rfl ?_
      have e : sCanU (jx X 9) k = true := by
        unfold sCanU; rw [show jx X 9 0 10 = X 9 10 from rfl]; simp [*]
      rw [if_pos e]
      refine RI_of ?_ rfl
      have e2 : jApart (jx X 9) k 0 9 = xApart X 9 k 9 9 := by rw [← jx_xApart hk8]; exact jx09
      rw [e2]
    · refine er_loc (pc' := 50) rfl rfl rfl ?_
      refine er_k (pc' := 51) (nI 3) rfl rfl rfl ?_
      refine er_cIz (pc' := 54) (rest := []) 11 rfl rfl rfl rfl rfl rfl (l_error _ _ _ 3 (by decide)) ?_
      intro Z9
      refine er_iret rfl rfl ?_
      have e : sCanU (jx X 9) k = false := by
        unfold sCanU; rw [show jx X 9 0 10 = X 9 10 from rfl]; simp [*]
      rw [if_neg (by rw [e]; decide)]
      exact RI_of rfl rfl
set_option maxRecDepth 100000 in
set_option maxHeartbeats 4000000 in
theorem l_seed (d : Nat) (X Z : Nat → Nat → Int32) (v : Int32) : EC (d + 1) 109 [.ref 0, .int v] (Wd X Z) (RI (X 9 17) (ud X 9 17 v)) := by
  refine er_enter (L := [(0, _), (1, _)]) rfl rfl rfl ?_
  refine er_loc (pc' := 1) rfl rfl rfl ?_
  refine er_gf (pc' := 4) (_) rfl rfl rfl rfl rfl ?_
  refine er_gf (pc' := 7) (_) rfl rfl rfl rfl rfl ?_
  refine er_loc (pc' := 8) (L' := [(2, _), (0, _), (1, _)]) rfl rfl rfl ?_
  refine er_loc (pc' := 9) rfl rfl rfl ?_
  refine er_gf (pc' := 12) (_) rfl rfl rfl rfl rfl ?_
  refine er_loc (pc' := 13) rfl rfl rfl ?_
  refine er_pfIX (pc' := 16) 17 rfl rfl rfl rfl rfl rfl ?_
  refine er_loc (pc' := 17) rfl rfl rfl ?_
  refine er_iret rfl rfl ?_
  exact RI_of rfl rfl
set_option maxRecDepth 100000 in
set_option maxHeartbeats 4000000 in
theorem l_tell (d : Nat) (X Z : Nat → Nat → Int32) (v : Int32) (w : Nat) (hw : X 9 16 = nI w) (h20 : w ≤ 20) : EC (d + 3) 121 [.ref 0, .int v] (Wd X Z) (fun r => if w < 20 then RI (nI (w + 1)) (ud (ud X (9 + 12) w v) 9 16 (nI (w + 1))) r else RI (sErr 4) (xErr X 4) r) := by
  refine er_enter (L := [(0, _), (1, _)]) rfl rfl rfl ?_
  refine er_loc (pc' := 1) rfl rfl rfl ?_
  refine er_gf (pc' := 4) (_) rfl rfl rfl rfl rfl ?_
  refine er_gf (pc' := 7) (.int (X 9 16)) rfl rfl rfl rfl rfl ?_
  rw [hw]
  refine er_k (pc' := 9) (nI 20) rfl rfl rfl ?_
  refine er_cm_lt (pc' := 12) rfl rfl (fun h9 => ?_) (fun h9 => ?_)
  · have hlt : w < 20 := by
      rw [nI_ltI (by omega) (by omega)] at h9; exact h9
    refine er_loc (pc' := 19) rfl rfl rfl ?_
    refine er_gf (pc' := 22) (_) rfl rfl rfl rfl rfl ?_
    refine er_gf (pc' := 25) (_) rfl rfl rfl rfl rfl ?_
    refine er_loc (pc' := 26) rfl rfl rfl ?_
    refine er_gf (pc' := 29) (_) rfl rfl rfl rfl rfl ?_
    refine er_gf (pc' := 32) (.int (X 9 16)) rfl rfl rfl rfl rfl ?_
    rw [hw]
    refine er_loc (pc' := 33) rfl rfl rfl ?_
    refine er_isX (pc' := 34) (w) rfl rfl (fun _ => rfl) rfl (by omega) rfl rfl ?_
    refine er_loc (pc' := 35) rfl rfl rfl ?_
    refine er_gf (pc' := 38) (_) rfl rfl rfl rfl rfl ?_
    refine er_pure (pc' := 39) rfl rfl rfl ?_
    refine er_gf (pc' := 42) (.int (X 9 16)) rfl rfl rfl rfl rfl ?_
    rw [hw]
    refine er_k (pc' := 43) (nI 1) rfl rfl rfl ?_
    refine er_iadd (pc' := 44) rfl rfl ?_
    rw [nI_add]
    refine er_pfIX (pc' := 47) 16 rfl rfl rfl rfl rfl rfl ?_
    refine er_loc (pc' := 48) rfl rfl rfl ?_
    refine er_gf (pc' := 51) (_) rfl rfl rfl rfl rfl ?_
    refine er_gf (pc' := 54) (_) rfl rfl rfl rfl rfl ?_
    refine er_iret rfl rfl ?_
    rw [if_pos hlt]
    exact RI_of rfl rfl
  · have hlt : ¬ w < 20 := by
      rw [nI_ltI (by omega) (by omega)] at h9; exact h9
    refine er_loc (pc' := 13) rfl rfl rfl ?_
    refine er_k (pc' := 14) (nI 4) rfl rfl rfl ?_
    refine er_cIz (pc' := 17) (rest := []) 11 rfl rfl rfl rfl rfl rfl (l_error _ _ _ 4 (by decide)) ?_
    intro Z9
    refine er_iret rfl rfl ?_
    rw [if_neg hlt]
    exact RI_of rfl rfl
set_option maxRecDepth 100000 in
set_option maxHeartbeats 4000000 in
theorem l_told (d : Nat) (X Z : Nat → Nat → Int32) (k : Int32) : EC (d + 3) 124 [.ref 0, .int k] (Wd X Z) (fun r => if sIn k (nI 1) (nI 5) = true then RI (X 53 (nN k)) X r else RI (sErr 1) (xErr X 1) r) := by
  refine er_enter (L := [(0, _), (1, _)]) rfl rfl rfl ?_
  refine er_loc (pc' := 1) rfl rfl rfl ?_
  refine er_k (pc' := 2) (nI 1) rfl rfl rfl ?_
  refine er_k (pc' := 3) (nI 5) rfl rfl rfl ?_
  refine er_cSi (pc' := 6) (rest := []) rfl rfl rfl (l_within _ _ _ _ _) ?_
  refine er_if_eqb (pc' := 9) rfl rfl (fun h6 => ?_) (fun h6 => ?_)
  · refine er_loc (pc' := 19) rfl rfl rfl ?_
    refine er_k (pc' := 20) (nI 1) rfl rfl rfl ?_
    refine er_cIz (pc' := 23) (rest := []) 11 rfl rfl rfl rfl rfl rfl (l_error _ _ _ 1 (by decide)) ?_
    intro Z9
    refine er_iret rfl rfl ?_
    rw [if_neg (by rw [h6]; decide)]
    exact RI_of rfl rfl
  · obtain ⟨j, h1j, h5j, hj⟩ := sIn_ex (by omega) (by omega) h6
    have hj2 : nN k = j := by rw [hj]; exact nN_nI (by omega)
    have hkn : k = nI (nN k) := by rw [hj2, hj]
    refine er_loc (pc' := 10) rfl rfl rfl ?_
    refine er_gf (pc' := 13) (_) rfl rfl rfl rfl rfl ?_
    refine er_loc (pc' := 14) rfl rfl rfl ?_
    refine er_ia (pc' := 15) (nN k) rfl rfl rfl hkn (by omega) rfl rfl ?_
    refine er_goto rfl ?_
    refine er_iret rfl rfl ?_
    rw [if_pos h6]
    exact RI_of rfl rfl
def sCnt (J : Nat → Nat → Int32) (bg : Int32) (w : Int32) : Int32 :=
  if w = 0 then J 0 1 else if w = 1 then sPop (J 0 6) else if w = 2 then sPop (J 0 7) else if w = 3 then J 0 9 else if w = 4 then J 0 8 else if w = 5 then J 0 10 else if w = 6 then sTired J else if w = 7 then J 0 14 else if w = 8 then J 0 16 else if w = 9 then bg else J 0 17
set_option maxRecDepth 100000 in
set_option maxHeartbeats 4000000 in
theorem l_count (d : Nat) (X Z : Nat → Nat → Int32) (w : Int32) : EC (d + 3) 123 [.ref 0, .int w] (Wd X Z) (fun r => if sIn w (nI 0) (nI 10) = true then RI (sCnt (jx X 9) (X 51 1) w) X r else RI (sErr 1) (xErr X 1) r) := by
  refine er_enter (L := [(0, _), (1, _)]) rfl rfl rfl ?_
  refine er_loc (pc' := 1) rfl rfl rfl ?_
  refine er_sw (0) rfl rfl (fun s1_0 => ?_) (fun s1_0 => ?_)
  · refine er_loc (pc' := 61) rfl rfl rfl ?_
    refine er_gf (pc' := 64) (_) rfl rfl rfl rfl rfl ?_
    refine er_gf (pc' := 67) (_) rfl rfl rfl rfl rfl ?_
    refine er_iret rfl rfl ?_
    subst w
    rw [if_pos (by decide +kernel)]
    refine RI_of ?_ rfl
    unfold sCnt
    simp [jx01, jx06, jx07, jx08, jx09, jx010, jx014, jx016, jx017]
  refine er_sw (1) rfl rfl (fun s1_1 => ?_) (fun s1_1 => ?_)
  · refine er_loc (pc' := 69) rfl rfl rfl ?_
    refine er_gf (pc' := 72) (_) rfl rfl rfl rfl rfl ?_
    refine er_gf (pc' := 75) (_) rfl rfl rfl rfl rfl ?_
    refine er_cSi (pc' := 78) (rest := []) rfl rfl rfl (l_bitCount _ _ _) ?_
    refine er_iret rfl rfl ?_
    subst w
    rw [if_pos (by decide +kernel)]
    refine RI_of ?_ rfl
    unfold sCnt
    simp [jx01, jx06, jx07, jx08, jx09, jx010, jx014, jx016, jx017]
  refine er_sw (2) rfl rfl (fun s1_2 => ?_) (fun s1_2 => ?_)
  · refine er_loc (pc' := 80) rfl rfl rfl ?_
    refine er_gf (pc' := 83) (_) rfl rfl rfl rfl rfl ?_
    refine er_gf (pc' := 86) (_) rfl rfl rfl rfl rfl ?_
    refine er_cSi (pc' := 89) (rest := []) rfl rfl rfl (l_bitCount _ _ _) ?_
    refine er_iret rfl rfl ?_
    subst w
    rw [if_pos (by decide +kernel)]
    refine RI_of ?_ rfl
    unfold sCnt
    simp [jx01, jx06, jx07, jx08, jx09, jx010, jx014, jx016, jx017]
  refine er_sw (3) rfl rfl (fun s1_3 => ?_) (fun s1_3 => ?_)
  · refine er_loc (pc' := 91) rfl rfl rfl ?_
    refine er_gf (pc' := 94) (_) rfl rfl rfl rfl rfl ?_
    refine er_gf (pc' := 97) (_) rfl rfl rfl rfl rfl ?_
    refine er_iret rfl rfl ?_
    subst w
    rw [if_pos (by decide +kernel)]
    refine RI_of ?_ rfl
    unfold sCnt
    simp [jx01, jx06, jx07, jx08, jx09, jx010, jx014, jx016, jx017]
  refine er_sw (4) rfl rfl (fun s1_4 => ?_) (fun s1_4 => ?_)
  · refine er_loc (pc' := 99) rfl rfl rfl ?_
    refine er_gf (pc' := 102) (_) rfl rfl rfl rfl rfl ?_
    refine er_gf (pc' := 105) (_) rfl rfl rfl rfl rfl ?_
    refine er_iret rfl rfl ?_
    subst w
    rw [if_pos (by decide +kernel)]
    refine RI_of ?_ rfl
    unfold sCnt
    simp [jx01, jx06, jx07, jx08, jx09, jx010, jx014, jx016, jx017]
  refine er_sw (5) rfl rfl (fun s1_5 => ?_) (fun s1_5 => ?_)
  · refine er_loc (pc' := 107) rfl rfl rfl ?_
    refine er_gf (pc' := 110) (_) rfl rfl rfl rfl rfl ?_
    refine er_gf (pc' := 113) (_) rfl rfl rfl rfl rfl ?_
    refine er_iret rfl rfl ?_
    subst w
    rw [if_pos (by decide +kernel)]
    refine RI_of ?_ rfl
    unfold sCnt
    simp [jx01, jx06, jx07, jx08, jx09, jx010, jx014, jx016, jx017]
  refine er_sw (6) rfl rfl (fun s1_6 => ?_) (fun s1_6 => ?_)
  · refine er_loc (pc' := 115) rfl rfl rfl ?_
    refine er_gf (pc' := 118) (_) rfl rfl rfl rfl rfl ?_
    refine er_cIi (pc' := 121) (rest := []) 7 rfl rfl rfl rfl rfl rfl (l_tired _ j9 _ _) ?_
    refine er_iret rfl rfl ?_
    subst w
    rw [if_pos (by decide +kernel)]
    refine RI_of ?_ rfl
    unfold sCnt
    simp [jx01, jx06, jx07, jx08, jx09, jx010, jx014, jx016, jx017]
  refine er_sw (7) rfl rfl (fun s1_7 => ?_) (fun s1_7 => ?_)
  · refine er_loc (pc' := 123) rfl rfl rfl ?_
    refine er_gf (pc' := 126) (_) rfl rfl rfl rfl rfl ?_
    refine er_gf (pc' := 129) (_) rfl rfl rfl rfl rfl ?_
    refine er_iret rfl rfl ?_
    subst w
    rw [if_pos (by decide +kernel)]
    refine RI_of ?_ rfl
    unfold sCnt
    simp [jx01, jx06, jx07, jx08, jx09, jx010, jx014, jx016, jx017]
  refine er_sw (8) rfl rfl (fun s1_8 => ?_) (fun s1_8 => ?_)
  · refine er_loc (pc' := 131) rfl rfl rfl ?_
    refine er_gf (pc' := 134) (_) rfl rfl rfl rfl rfl ?_
    refine er_gf (pc' := 137) (_) rfl rfl rfl rfl rfl ?_
    refine er_iret rfl rfl ?_
    subst w
    rw [if_pos (by decide +kernel)]
    refine RI_of ?_ rfl
    unfold sCnt
    simp [jx01, jx06, jx07, jx08, jx09, jx010, jx014, jx016, jx017]
  refine er_sw (9) rfl rfl (fun s1_9 => ?_) (fun s1_9 => ?_)
  · refine er_loc (pc' := 139) rfl rfl rfl ?_
    refine er_gf (pc' := 142) (_) rfl rfl rfl rfl rfl ?_
    refine er_gf (pc' := 145) (_) rfl rfl rfl rfl rfl ?_
    refine er_iret rfl rfl ?_
    subst w
    rw [if_pos (by decide +kernel)]
    refine RI_of ?_ rfl
    unfold sCnt
    simp [jx01, jx06, jx07, jx08, jx09, jx010, jx014, jx016, jx017]
  refine er_sw (10) rfl rfl (fun s1_10 => ?_) (fun s1_10 => ?_)
  · refine er_loc (pc' := 147) rfl rfl rfl ?_
    refine er_gf (pc' := 150) (_) rfl rfl rfl rfl rfl ?_
    refine er_gf (pc' := 153) (_) rfl rfl rfl rfl rfl ?_
    refine er_iret rfl rfl ?_
    subst w
    rw [if_pos (by decide +kernel)]
    refine RI_of ?_ rfl
    unfold sCnt
    simp [jx01, jx06, jx07, jx08, jx09, jx010, jx014, jx016, jx017]
  refine er_tsD [0, 1, 2, 3, 4, 5, 6, 7, 8, 9, 10] rfl rfl rfl rfl (List.forall_mem_cons.mpr ⟨ne_toInt s1_0 rfl, List.forall_mem_cons.mpr ⟨ne_toInt s1_1 rfl, List.forall_mem_cons.mpr ⟨ne_toInt s1_2 rfl, List.forall_mem_cons.mpr ⟨ne_toInt s1_3 rfl, List.forall_mem_cons.mpr ⟨ne_toInt s1_4 rfl, List.forall_mem_cons.mpr ⟨ne_toInt s1_5 rfl, List.forall_mem_cons.mpr ⟨ne_toInt s1_6 rfl, List.forall_mem_cons.mpr ⟨ne_toInt s1_7 rfl, List.forall_mem_cons.mpr ⟨ne_toInt s1_8 rfl, List.forall_mem_cons.mpr ⟨ne_toInt s1_9 rfl, List.forall_mem_cons.mpr ⟨ne_toInt s1_10 rfl, fun _ h => absurd h List.not_mem_nil⟩⟩⟩⟩⟩⟩⟩⟩⟩⟩⟩) ?_
  refine er_loc (pc' := 155) rfl rfl rfl ?_
  refine er_k (pc' := 156) (nI 1) rfl rfl rfl ?_
  refine er_cIz (pc' := 159) (rest := []) 11 rfl rfl rfl rfl rfl rfl (l_error _ _ _ 1 (by decide)) ?_
  intro Z9
  refine er_iret rfl rfl ?_
  rw [sIn_no (by omega) (by omega) (by
    intro j _ hj e
    have : j = 0 ∨ j = 1 ∨ j = 2 ∨ j = 3 ∨ j = 4 ∨ j = 5 ∨ j = 6 ∨ j = 7 ∨ j = 8 ∨ j = 9 ∨ j = 10 := by omega
    rcases this with rfl | rfl | rfl | rfl | rfl | rfl | rfl | rfl | rfl | rfl | rfl
    · exact s1_0 e
    · exact s1_1 e
    · exact s1_2 e
    · exact s1_3 e
    · exact s1_4 e
    · exact s1_5 e
    · exact s1_6 e
    · exact s1_7 e
    · exact s1_8 e
    · exact s1_9 e
    · exact s1_10 e
  )]
  exact RI_of rfl rfl
set_option maxRecDepth 100000 in
set_option maxHeartbeats 4000000 in
theorem l_trace (d : Nat) (X Z : Nat → Nat → Int32) (i : Int32) (g : Nat) (hg : X 51 1 = nI g) (h40 : g ≤ 40) : EC (d + 3) 111 [.ref 0, .int i] (Wd X Z) (fun r => if sIn i (nI 0) (nI g - nI 1) = true then RI (X 52 (nN i)) X r else RI (sErr 2) (xErr X 2) r) := by
  refine er_enter (L := [(0, _), (1, _)]) rfl rfl rfl ?_
  refine er_loc (pc' := 1) rfl rfl rfl ?_
  refine er_k (pc' := 2) (nI 0) rfl rfl rfl ?_
  refine er_loc (pc' := 3) rfl rfl rfl ?_
  refine er_gf (pc' := 6) (_) rfl rfl rfl rfl rfl ?_
  refine er_gf (pc' := 9) (.int (X 51 1)) rfl rfl rfl rfl rfl ?_
  rw [hg]
  refine er_k (pc' := 10) (nI 1) rfl rfl rfl ?_
  refine er_isub (pc' := 11) rfl rfl ?_
  refine er_cSi (pc' := 14) (rest := []) rfl rfl rfl (l_within _ _ _ _ _) ?_
  refine er_if_eqb (pc' := 17) rfl rfl (fun h14 => ?_) (fun h14 => ?_)
  · refine er_loc (pc' := 30) rfl rfl rfl ?_
    refine er_k (pc' := 31) (nI 2) rfl rfl rfl ?_
    refine er_cIz (pc' := 34) (rest := []) 11 rfl rfl rfl rfl rfl rfl (l_error _ _ _ 2 (by decide)) ?_
    intro Z9
    refine er_iret rfl rfl ?_
    rw [if_neg (by rw [h14]; decide)]
    exact RI_of rfl rfl
  · have hg1 : 1 ≤ g := by
      rcases Nat.eq_zero_or_pos g with h | h
      · subst h
        rw [show nI 0 - nI 1 = (-1) from by decide +kernel] at h14
        unfold sIn at h14
        simp only [Bool.and_eq_true, Bool.not_eq_true', decide_eq_false_iff_not, Int32.lt_iff_toInt_lt] at h14
        have e0 : (nI 0).toInt = 0 := by decide +kernel
        have e1 : (-1 : Int32).toInt = -1 := by decide +kernel
        omega
      · exact h
    have h14b := h14
    rw [nI_sub hg1] at h14b
    obtain ⟨j, h1j, h5j, hj⟩ := sIn_ex (by omega) (by omega) h14b
    have hj2 : nN i = j := by rw [hj]; exact nN_nI (by omega)
    have hkn : i = nI (nN i) := by rw [hj2, hj]
    refine er_loc (pc' := 18) rfl rfl rfl ?_
    refine er_gf (pc' := 21) (_) rfl rfl rfl rfl rfl ?_
    refine er_gf (pc' := 24) (_) rfl rfl rfl rfl rfl ?_
    refine er_loc (pc' := 25) rfl rfl rfl ?_
    refine er_ia (pc' := 26) (nN i) rfl rfl rfl hkn (by omega) rfl rfl ?_
    refine er_goto rfl ?_
    refine er_iret rfl rfl ?_
    rw [if_pos h14]
    exact RI_of rfl rfl
set_option maxRecDepth 100000 in
set_option maxHeartbeats 4000000 in
theorem l_under_no (d : Nat) (X Z : Nat → Nat → Int32) (s : Int32) (hs : xHas X s = false) : EC (d + 3) 98 [.ref 0, .int s] (Wd X Z) (RI (sErr 1) (xErr X 1)) := by
  refine er_enter (L := [(0, _), (1, _)]) rfl rfl rfl ?_
  refine er_loc (pc' := 1) rfl rfl rfl ?_
  refine er_gf (pc' := 4) (_) rfl rfl rfl rfl rfl ?_
  refine er_loc (pc' := 5) rfl rfl rfl ?_
  refine er_cIi (pc' := 8) (rest := []) 7 rfl rfl rfl rfl rfl rfl (l_has_no _ _ _ j9 _ hs) ?_
  refine er_if_neF (pc' := 11) rfl (by decide +kernel) rfl ?_
  refine er_loc (pc' := 12) rfl rfl rfl ?_
  refine er_k (pc' := 13) (nI 1) rfl rfl rfl ?_
  refine er_cIz (pc' := 16) (rest := []) 11 rfl rfl rfl rfl rfl rfl (l_error _ _ _ 1 (by decide)) ?_
  intro Z9
  refine er_iret rfl rfl ?_
  exact RI_of rfl rfl
set_option maxRecDepth 100000 in
set_option maxHeartbeats 4000000 in
theorem l_under (d : Nat) (X Z : Nat → Nat → Int32) {T : Nat} (hI : IJ T (jx X 9)) {k : Nat} (hk : k < jn (jx X 9)) : EC (d + 4) 98 [.ref 0, .int (nI k)] (Wd X Z) (fun r => if sDone (jx X 9) k = true then RI (sRest (jx X 9) k (jn (jx X 9))) X r else RI (sErr 3) (xErr X 3) r) := by
  refine er_enter (L := [(0, _), (1, _)]) rfl rfl rfl ?_
  have h8 := jn8 hI
  have hk8 : k < 8 := by omega
  refine er_loc (pc' := 1) rfl rfl rfl ?_
  refine er_gf (pc' := 4) (_) rfl rfl rfl rfl rfl ?_
  refine er_loc (pc' := 5) rfl rfl rfl ?_
  refine er_cIi (pc' := 8) (rest := []) 7 rfl rfl rfl rfl rfl rfl (l_has_t _ j9 _ _ hI hk) ?_
  refine er_if_neT rfl (by decide +kernel) ?_
  refine er_loc (pc' := 18) rfl rfl rfl ?_
  refine er_gf (pc' := 21) (_) rfl rfl rfl rfl rfl ?_
  refine er_loc (pc' := 22) rfl rfl rfl ?_
  refine er_cIi (pc' := 25) (rest := []) 7 rfl rfl rfl rfl rfl rfl (l_isDone _ j9 _ _ _) ?_
  refine er_if_eqb (pc' := 28) rfl rfl (fun h25 => ?_) (fun h25 => ?_)
  · refine er_loc (pc' := 40) rfl rfl rfl ?_
    refine er_k (pc' := 41) (nI 3) rfl rfl rfl ?_
    refine er_cIz (pc' := 44) (rest := []) 11 rfl rfl rfl rfl rfl rfl (l_error _ _ _ 3 (by decide)) ?_
    intro Z9
    refine er_iret rfl rfl ?_
    rw [if_neg (by unfold sDone; rw [show jx X 9 0 6 = X 9 6 from rfl, h25]; decide)]
    exact RI_of rfl rfl
  · refine er_loc (pc' := 29) rfl rfl rfl ?_
    refine er_gf (pc' := 32) (_) rfl rfl rfl rfl rfl ?_
    refine er_loc (pc' := 33) rfl rfl rfl ?_
    refine er_cIi (pc' := 36) (rest := []) 7 rfl rfl rfl rfl rfl rfl (l_restingOn _ j9 _ _ hI hk) ?_
    refine er_goto rfl ?_
    refine er_iret rfl rfl ?_
    rw [if_pos (show sDone (jx X 9) k = true from h25)]
    exact RI_of rfl rfl
