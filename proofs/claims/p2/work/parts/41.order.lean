/-! THE FACE: order, orders -/
def OP (X X' : Nat → Nat → Int32) : Prop := ∀ c, (c < 35 ∨ 35 + 12 < c) → c ≠ 61 → c ≠ 62 → X' c = X c
def sOrd (X : Nat → Nat → Int32) : skT := sk 6 0 (jx X 9) (-1, X 62, X 61)
theorem PB_id {X : Nat → Nat → Int32} {l : Int32} : PB X (l, X 62, X 61) = X := by
  unfold PB
  rw [uc_id]
  exact uc_id X 62
theorem OP.pb {X X1 : Nat → Nat → Int32} (h : OT X X1) {s : skT} : OP X (PB X1 s) := fun c hc h1 h2 => by
  unfold PB
  rw [uc_ne h2, uc_ne h1]
  exact h c hc
def OrP (X : Nat → Nat → Int32) (w : Int32) : ab_R → Prop := fun r => if nI 5 < sOpen (jx X 9) then RI (sErr 3) (xErr X 3) r else if (sOrd X).1 < 0 ∨ ¬ w < sOpen (jx X 9) then (∃ X1, OP X X1 ∧ RI (sErr 2) (xErr X1 2) r) else (∃ X1, OP X X1 ∧ RI (if w < 0 then (sOrd X).1 - jx X 9 0 10 else (sOrd X).2.1 (nN w)) X1 r)
set_option maxRecDepth 100000 in
set_option maxHeartbeats 4000000 in
theorem l_order (d : Nat) (X Z : Nat → Nat → Int32) {T : Nat} (hI : IJ T (jx X 9)) (hT9 : T < 1000000) (w : Int32) : EC (d + 13) 96 [.ref 0, .int w] (Wd X Z) (fun r => if sIn w (-1) (nI 4) = true then OrP X w r else RI (sErr 1) (xErr X 1) r) := by
  refine er_enter (L := [(0, _), (1, _)]) rfl rfl rfl ?_
  refine er_loc (pc' := 1) rfl rfl rfl ?_
  refine er_k (pc' := 2) (-1) rfl rfl rfl ?_
  refine er_k (pc' := 3) (nI 4) rfl rfl rfl ?_
  refine er_cSi (pc' := 6) (rest := []) rfl rfl rfl (l_within _ _ _ _ _) ?_
  refine er_if_neb (pc' := 9) rfl rfl (fun h6 => ?_) (fun h6 => ?_)
  · refine er_loc (pc' := 16) rfl rfl rfl ?_
    refine er_gf (pc' := 19) (_) rfl rfl rfl rfl rfl ?_
    refine er_cIi (pc' := 22) (rest := []) 7 rfl rfl rfl rfl rfl rfl (l_howManyOpen _ j9 _ _) ?_
    refine er_loc (pc' := 23) (L' := [(2, _), (0, _), (1, _)]) rfl rfl rfl ?_
    refine er_loc (pc' := 24) rfl rfl rfl ?_
    refine er_k (pc' := 25) (nI 5) rfl rfl rfl ?_
    refine er_cm_le (pc' := 28) rfl rfl (fun h25 => ?_) (fun h25 => ?_)
    · refine er_loc (pc' := 35) rfl rfl rfl ?_
      refine er_gf (pc' := 38) (_) rfl rfl rfl rfl rfl ?_
      refine er_loc (pc' := 39) rfl rfl rfl ?_
      refine er_gf (pc' := 42) (_) rfl rfl rfl rfl rfl ?_
      refine er_cIt (pc' := 45) (rest := []) 7 rfl rfl rfl rfl rfl rfl (l_take_35_9 _ _ _ hI) ?_
      intro X1 Z1 hj1 ho1
      refine er_loc (pc' := 46) rfl rfl rfl ?_
      refine er_gf (pc' := 49) (_) rfl rfl rfl rfl rfl ?_
      refine er_loc (pc' := 50) rfl rfl rfl ?_
      refine er_gf (pc' := 53) (_) rfl rfl rfl rfl rfl ?_
      refine er_loc (pc' := 54) rfl rfl rfl ?_
      refine er_gf (pc' := 57) (_) rfl rfl rfl rfl rfl ?_
      refine er_k (pc' := 58) (nI 0) rfl rfl rfl ?_
      refine er_k (pc' := 59) (-1) rfl rfl rfl ?_
      have hj9 : jx X1 35 = jx X 9 := hj1
      have hs : sk 6 0 (jx X1 35) (-1, X1 62, X1 61) = sOrd X := by rw [hj9, ho1 61 (by omega), ho1 62 (by omega)]; rfl
      have hS := l_seekBest d 5 0 X1 Z1 (-1) (X1 62) (X1 61) T (by omega) (by rw [hj9]; exact hI) (by omega)
      rw [show 5 + 1 = 6 from rfl, hs, PB_id] at hS
      have hoP : OP X (PB X1 (sOrd X)) := OP.pb ho1
      refine er_cSz (pc' := 62) (rest := []) rfl rfl rfl hS ?_
      intro Z3
      refine er_loc (L' := [(3, _), (2, _), (0, _), (1, _)]) (pc' := 63) rfl rfl rfl ?_
      refine er_loc (pc' := 64) rfl rfl rfl ?_
      refine er_if_lt (pc' := 67) rfl rfl (fun h64 => ?_) (fun h64 => ?_)
      · refine er_loc (pc' := 73) rfl rfl rfl ?_
        refine er_k (pc' := 74) (nI 2) rfl rfl rfl ?_
        refine er_cIz (pc' := 77) (rest := []) 11 rfl rfl rfl rfl rfl rfl (l_error _ _ _ 2 (by decide)) ?_
        intro Z9
        refine er_iret rfl rfl ?_
        show (if _ then OrP X w _ else _)
        unfold OrP
        rw [if_pos h6, if_neg h25, if_pos (Or.inl h64)]
        exact ⟨_, hoP, RI_of rfl rfl⟩
      · refine er_loc (pc' := 68) rfl rfl rfl ?_
        refine er_loc (pc' := 69) rfl rfl rfl ?_
        refine er_cm_lt (pc' := 72) rfl rfl (fun h69 => ?_) (fun h69 => ?_)
        · refine er_loc (pc' := 79) rfl rfl rfl ?_
          refine er_if_ge (pc' := 82) rfl rfl (fun h79 => ?_) (fun h79 => ?_)
          · refine er_loc (pc' := 95) rfl rfl rfl ?_
            refine er_gf (pc' := 98) (_) rfl rfl rfl rfl rfl ?_
            refine er_loc (pc' := 99) rfl rfl rfl ?_
            have hw4 : ∃ j, j ≤ 4 ∧ w = nI j := by
              have h6' : sIn w (nI 0) (nI 4) = true := by
                unfold sIn at h6 ⊢
                simp only [Bool.and_eq_true, Bool.not_eq_true', decide_eq_false_iff_not] at h6 ⊢
                exact ⟨h79, h6.2⟩
              obtain ⟨j, _, h2, h3⟩ := sIn_ex (by omega) (by omega) h6'
              exact ⟨j, h2, h3⟩
            obtain ⟨j, hj4, hjw⟩ := hw4
            have hnw : nN w = j := by rw [hjw]; exact nN_nI (by omega)
            refine er_ia (pc' := 100) (nN w) rfl rfl rfl (by rw [hnw]; exact hjw) (by omega) rfl rfl ?_
            refine er_iret rfl rfl ?_
            show (if _ then OrP X w _ else _)
            unfold OrP
            rw [if_pos h6, if_neg h25, if_neg (fun c => c.elim h64 (fun q => q h69))]
            exact ⟨_, hoP, RI_of (by rw [if_neg h79, PB_62]) rfl⟩
          · refine er_loc (pc' := 83) rfl rfl rfl ?_
            refine er_loc (pc' := 84) rfl rfl rfl ?_
            refine er_gf (pc' := 87) (_) rfl rfl rfl rfl rfl ?_
            refine er_gf (pc' := 90) (.int (PB X1 (sOrd X) 9 10)) rfl rfl rfl rfl rfl ?_
            refine er_isub (pc' := 91) rfl rfl ?_
            refine er_goto rfl ?_
            refine er_iret rfl rfl ?_
            show (if _ then OrP X w _ else _)
            unfold OrP
            rw [if_pos h6, if_neg h25, if_neg (fun c => c.elim h64 (fun q => q h69))]
            exact ⟨_, hoP, RI_of (by rw [if_pos (by first | exact h79 | exact Int32.not_le.mp h79), hoP 9 (by omega) (by omega) (by omega), jx010]) rfl⟩
        · refine er_loc (pc' := 73) rfl rfl rfl ?_
          refine er_k (pc' := 74) (nI 2) rfl rfl rfl ?_
          refine er_cIz (pc' := 77) (rest := []) 11 rfl rfl rfl rfl rfl rfl (l_error _ _ _ 2 (by decide)) ?_
          intro Z9
          refine er_iret rfl rfl ?_
          show (if _ then OrP X w _ else _)
          unfold OrP
          rw [if_pos h6, if_neg h25, if_pos (Or.inr h69)]
          exact ⟨_, hoP, RI_of rfl rfl⟩
    · refine er_loc (pc' := 29) rfl rfl rfl ?_
      refine er_k (pc' := 30) (nI 3) rfl rfl rfl ?_
      refine er_cIz (pc' := 33) (rest := []) 11 rfl rfl rfl rfl rfl rfl (l_error _ _ _ 3 (by decide)) ?_
      intro Z9
      refine er_iret rfl rfl ?_
      rw [if_pos h6]
      unfold OrP
      rw [if_pos h25]
      exact RI_of rfl rfl
  · refine er_loc (pc' := 10) rfl rfl rfl ?_
    refine er_k (pc' := 11) (nI 1) rfl rfl rfl ?_
    refine er_cIz (pc' := 14) (rest := []) 11 rfl rfl rfl rfl rfl rfl (l_error _ _ _ 1 (by decide)) ?_
    intro Z9
    refine er_iret rfl rfl ?_
    rw [if_neg (by rw [h6]; decide)]
    exact RI_of rfl rfl
