/-! THE FACE: refused calls, the rest -/
set_option maxRecDepth 100000 in
set_option maxHeartbeats 4000000 in
theorem l_goBack_no (d : Nat) (X Z : Nat → Nat → Int32) (s w : Int32) (hs : xHas X s = false) : EC (d + 3) 99 [.ref 0, .int s, .int w] (Wd X Z) (RI (sErr 1) (xErr X 1)) := by
  refine er_enter (L := [(0, _), (1, _), (2, _)]) rfl rfl rfl ?_
  refine er_loc (pc' := 1) rfl rfl rfl ?_
  refine er_gf (pc' := 4) (_) rfl rfl rfl rfl rfl ?_
  refine er_loc (pc' := 5) rfl rfl rfl ?_
  refine er_cIi (pc' := 8) (rest := []) 7 rfl rfl rfl rfl rfl rfl (l_has_no _ _ _ j9 _ hs) ?_
  refine er_if_eqT rfl (by decide +kernel) ?_
  refine er_loc (pc' := 21) rfl rfl rfl ?_
  refine er_k (pc' := 22) (nI 1) rfl rfl rfl ?_
  refine er_cIz (pc' := 25) (rest := []) 11 rfl rfl rfl rfl rfl rfl (l_error _ _ _ 1 (by decide)) ?_
  intro Z9
  refine er_iret rfl rfl ?_
  exact RI_of rfl rfl
set_option maxRecDepth 100000 in
set_option maxHeartbeats 4000000 in
theorem l_odds_no (d : Nat) (X Z : Nat → Nat → Int32) (s w : Int32) (hs : xHas X s = false) : EC (d + 3) 108 [.ref 0, .int s, .int w] (Wd X Z) (RI (sErr 1) (xErr X 1)) := by
  refine er_enter (L := [(0, _), (1, _), (2, _)]) rfl rfl rfl ?_
  refine er_loc (pc' := 1) rfl rfl rfl ?_
  refine er_gf (pc' := 4) (_) rfl rfl rfl rfl rfl ?_
  refine er_loc (pc' := 5) rfl rfl rfl ?_
  refine er_cIi (pc' := 8) (rest := []) 7 rfl rfl rfl rfl rfl rfl (l_has_no _ _ _ j9 _ hs) ?_
  refine er_if_eqT rfl (by decide +kernel) ?_
  refine er_loc (pc' := 21) rfl rfl rfl ?_
  refine er_k (pc' := 22) (nI 1) rfl rfl rfl ?_
  refine er_cIz (pc' := 25) (rest := []) 11 rfl rfl rfl rfl rfl rfl (l_error _ _ _ 1 (by decide)) ?_
  intro Z9
  refine er_iret rfl rfl ?_
  exact RI_of rfl rfl
set_option maxRecDepth 100000 in
set_option maxHeartbeats 4000000 in
theorem l_voice_no (d : Nat) (X Z : Nat → Nat → Int32) (s w x : Int32) (hs : xHas X s = false) : EC (d + 3) 110 [.ref 0, .int s, .int w, .int x] (Wd X Z) (RI (sErr 1) (xErr X 1)) := by
  refine er_enter (L := [(0, _), (1, _), (2, _), (3, _)]) rfl rfl rfl ?_
  refine er_loc (pc' := 1) rfl rfl rfl ?_
  refine er_gf (pc' := 4) (_) rfl rfl rfl rfl rfl ?_
  refine er_loc (pc' := 5) rfl rfl rfl ?_
  refine er_cIi (pc' := 8) (rest := []) 7 rfl rfl rfl rfl rfl rfl (l_has_no _ _ _ j9 _ hs) ?_
  refine er_if_eqT rfl (by decide +kernel) ?_
  refine er_loc (pc' := 21) rfl rfl rfl ?_
  refine er_k (pc' := 22) (nI 1) rfl rfl rfl ?_
  refine er_cIz (pc' := 25) (rest := []) 11 rfl rfl rfl rfl rfl rfl (l_error _ _ _ 1 (by decide)) ?_
  intro Z9
  refine er_iret rfl rfl ?_
  exact RI_of rfl rfl
set_option maxRecDepth 100000 in
set_option maxHeartbeats 4000000 in
theorem l_screws_no (d : Nat) (X Z : Nat → Nat → Int32) (s : Int32) (hs : sIn s (nI 0) (nI 3) = false) : EC (d + 3) 117 [.ref 0, .int s] (Wd X Z) (RI (sErr 1) (xErr X 1)) := by
  refine er_enter (L := [(0, _), (1, _)]) rfl rfl rfl ?_
  refine er_loc (pc' := 1) rfl rfl rfl ?_
  refine er_cSi (pc' := 4) (rest := []) rfl rfl rfl (l_xSheet _ _ _) ?_
  rw [hs]
  refine er_if_neF (pc' := 7) rfl (by decide +kernel) rfl ?_
  refine er_loc (pc' := 8) rfl rfl rfl ?_
  refine er_k (pc' := 9) (nI 1) rfl rfl rfl ?_
  refine er_cIz (pc' := 12) (rest := []) 11 rfl rfl rfl rfl rfl rfl (l_error _ _ _ 1 (by decide)) ?_
  intro Z9
  refine er_iret rfl rfl ?_
  exact RI_of rfl rfl
set_option maxRecDepth 100000 in
set_option maxHeartbeats 4000000 in
theorem l_judge_no (d : Nat) (X Z : Nat → Nat → Int32) (s : Int32) (hs : sIn s (nI 0) (nI 3) = false) : EC (d + 3) 118 [.ref 0, .int s] (Wd X Z) (RI (sErr 1) (xErr X 1)) := by
  refine er_enter (L := [(0, _), (1, _)]) rfl rfl rfl ?_
  refine er_loc (pc' := 1) rfl rfl rfl ?_
  refine er_cSi (pc' := 4) (rest := []) rfl rfl rfl (l_xSheet _ _ _) ?_
  rw [hs]
  refine er_if_neF (pc' := 7) rfl (by decide +kernel) rfl ?_
  refine er_loc (pc' := 8) rfl rfl rfl ?_
  refine er_k (pc' := 9) (nI 1) rfl rfl rfl ?_
  refine er_cIz (pc' := 12) (rest := []) 11 rfl rfl rfl rfl rfl rfl (l_error _ _ _ 1 (by decide)) ?_
  intro Z9
  refine er_iret rfl rfl ?_
  exact RI_of rfl rfl
