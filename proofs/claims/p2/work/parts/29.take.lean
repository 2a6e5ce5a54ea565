/-! JOBS: one taken whole from another -/
def xHold (X : Nat → Nat → Int32) (t : Nat) (f : Nat → Int32) (l : Nat) : Nat → Nat → Int32 := ud (uc X (t + 1) (cpf f (X (t + 1)) 0 0 l)) t 2 (nI l)
def TK (X : Nat → Nat → Int32) (b p : Nat) : ab_R → Prop := fun r => ∃ X' Z', r = (none, Wd X' Z') ∧ jx X' b = jx X p ∧ ∀ c, (c < b ∨ b + 12 < c) → X' c = X c
set_option maxRecDepth 100000 in
set_option maxHeartbeats 4000000 in
theorem l_hold (d : Nat) {t : Nat} (ht : tx t) (X Z : Nat → Nat → Int32) (a : Nat) (f : Nat → Int32) (ha : Nat.blt a 79 = true) (he : cO a (X a) (Z a) = .inr (.inl (qa 50 f))) (l : Nat) (hl : l ≤ 50) : EC (d + 1) 59 [.ref t, .ref a, .int (nI l)] (Wd X Z) (RV (xHold X t f l)) := by
  refine er_enter (L := [(0, _), (1, _), (2, _)]) rfl rfl rfl ?_
  refine er_loc (pc' := 1) rfl rfl rfl ?_
  refine er_if_ltF (pc' := 4) rfl (nI_pos (by omega)) rfl ?_
  refine er_loc (pc' := 5) rfl rfl rfl ?_
  refine er_loc (pc' := 6) rfl rfl rfl ?_
  refine er_gf (pc' := 9) (_) rfl (blt_T ht 0 rfl) (cO_T0 ht _ _) rfl rfl ?_
  refine er_al (pc' := 10) rfl (blt_T ht 1 rfl) (cO_T1 ht _ _) rfl ?_
  refine er_cm_gtF (pc' := 13) rfl (nI_nlt (by omega) (by omega)) rfl ?_
  refine er_loc (pc' := 14) rfl rfl rfl ?_
  refine er_loc (pc' := 15) rfl rfl rfl ?_
  refine er_al (pc' := 16) rfl (ha) (he) rfl ?_
  refine er_cm_gtF (pc' := 19) rfl (nI_nlt (by omega) (by omega)) rfl ?_
  refine er_loc (pc' := 20) rfl rfl rfl ?_
  refine er_k (pc' := 21) (nI 0) rfl rfl rfl ?_
  refine er_loc (pc' := 22) rfl rfl rfl ?_
  refine er_gf (pc' := 25) (_) rfl (blt_T ht 0 rfl) (cO_T0 ht _ _) rfl rfl ?_
  refine er_k (pc' := 26) (nI 0) rfl rfl rfl ?_
  refine er_loc (pc' := 27) rfl rfl rfl ?_
  refine er_cpX (pc' := 30) (0) (0) (l) rfl rfl rfl (ha) (blt_T ht 1 rfl) (he) (fun f => cO_T1 ht f _) rfl rfl rfl (by omega) (by omega) rfl rfl ?_
  refine er_loc (pc' := 31) rfl rfl rfl ?_
  refine er_loc (pc' := 32) rfl rfl rfl ?_
  refine er_pfIX (pc' := 35) 2 rfl (blt_T ht 0 rfl) (cO_T0 ht _ _) rfl (cO_T0 ht _ _) rfl ?_
  refine er_vret rfl rfl ?_
  exact RV_of rfl
set_option maxRecDepth 100000 in
set_option maxHeartbeats 4000000 in
theorem jx_take {X X' : Nat → Nat → Int32} {b p : Nat} (h0 : ∀ k, okF k = true → X' b k = X p k) (h1 : ∀ k, k < 8 → X' (b + 1) k = X (p + 1) k) (h2 : ∀ k, k < 8 → X' (b + 2) k = X (p + 2) k) (h3 : ∀ k, k < 8 → X' (b + 3) k = X (p + 3) k) (h4 : ∀ k, k < 8 → X' (b + 4) k = X (p + 4) k) (h5 : X' (b + 5) 2 = X (p + 5) 2) (h6 : ∀ k, k < nN (X (p + 5) 2) → X' (b + 6) k = X (p + 6) k) (h8 : X' (b + 8) 2 = X (p + 8) 2) (h9 : ∀ k, k < nN (X (p + 8) 2) → X' (b + 9) k = X (p + 9) k) (h11 : ∀ k, k < 50 → X' (b + 11) k = X (p + 11) k) (h12 : ∀ k, k < 20 → X' (b + 12) k = X (p + 12) k) : jx X' b = jx X p := by
  funext i k
  match i with
  | 0 =>
    show (if okF k = true then X' (b) k else 0) = if okF k = true then X (p) k else 0
    by_cases h : okF k = true
    · rw [if_pos h, if_pos h]; exact h0 k h
    · rw [if_neg h, if_neg h]
  | 1 =>
    show (if k < 8 then X' (b + 1) k else 0) = if k < 8 then X (p + 1) k else 0
    by_cases h : k < 8
    · rw [if_pos h, if_pos h]; exact h1 k h
    · rw [if_neg h, if_neg h]
  | 2 =>
    show (if k < 8 then X' (b + 2) k else 0) = if k < 8 then X (p + 2) k else 0
    by_cases h : k < 8
    · rw [if_pos h, if_pos h]; exact h2 k h
    · rw [if_neg h, if_neg h]
  | 3 =>
    show (if k < 8 then X' (b + 3) k else 0) = if k < 8 then X (p + 3) k else 0
    by_cases h : k < 8
    · rw [if_pos h, if_pos h]; exact h3 k h
    · rw [if_neg h, if_neg h]
  | 4 =>
    show (if k < 8 then X' (b + 4) k else 0) = if k < 8 then X (p + 4) k else 0
    by_cases h : k < 8
    · rw [if_pos h, if_pos h]; exact h4 k h
    · rw [if_neg h, if_neg h]
  | 5 => exact ite_congr rfl (fun _ => h5) (fun _ => rfl)
  | 6 => exact ite_congr (by rw [h5]) (fun h => h6 k h) (fun _ => rfl)
  | 7 => exact ite_congr rfl (fun _ => h8) (fun _ => rfl)
  | 8 => exact ite_congr (by rw [h8]) (fun h => h9 k h) (fun _ => rfl)
  | 9 => exact ite_congr rfl (fun h => h11 k h) (fun _ => rfl)
  | 10 => exact ite_congr rfl (fun h => h12 k h) (fun _ => rfl)
  | i + 11 => simp [jx]
theorem okF_cases {k : Nat} (h : okF k = true) : k = 1 ∨ k = 6 ∨ k = 7 ∨ k = 8 ∨ k = 9 ∨ k = 10 ∨ k = 14 ∨ k = 16 ∨ k = 17 := by
  simpa [okF, or_assoc] using h
theorem cpf_all {f g : Nat → Int32} {n k : Nat} (h : k < n) : cpf f g 0 0 n k = f k := by
  unfold cpf
  rw [if_pos ⟨by omega, by omega⟩]
  rfl
set_option maxRecDepth 100000 in
set_option maxHeartbeats 4000000 in
theorem l_take_35_9 (d : Nat) (X Z : Nat → Nat → Int32) {T : Nat} (hI : IJ T (jx X 9)) : EC (d + 2) 48 [.ref 35, .ref 9] (Wd X Z) (TK X 35 9) := by
  refine er_enter (L := [(0, _), (1, _)]) rfl rfl rfl ?_
  obtain ⟨l1, h150, hl1⟩ := (isN_iff (by omega)).mp hI.tl.1
  obtain ⟨l2, h250, hl2⟩ := (isN_iff (by omega)).mp hI.te.1
  rw [jx5] at hl1
  rw [jx7] at hl2
  refine er_loc (pc' := 1) rfl rfl rfl ?_
  refine er_loc (pc' := 2) rfl rfl rfl ?_
  refine er_gf (pc' := 5) (.int (X 9 1)) rfl rfl rfl rfl rfl ?_
  refine er_pfIX (pc' := 8) 1 rfl rfl rfl rfl rfl rfl ?_
  refine er_loc (pc' := 9) rfl rfl rfl ?_
  refine er_gf (pc' := 12) (_) rfl rfl rfl rfl rfl ?_
  refine er_k (pc' := 13) (nI 0) rfl rfl rfl ?_
  refine er_loc (pc' := 14) rfl rfl rfl ?_
  refine er_gf (pc' := 17) (_) rfl rfl rfl rfl rfl ?_
  refine er_k (pc' := 18) (nI 0) rfl rfl rfl ?_
  refine er_k (pc' := 20) (nI 8) rfl rfl rfl ?_
  refine er_cpX (pc' := 23) (0) (0) (8) rfl rfl rfl rfl rfl rfl (fun _ => rfl) rfl rfl rfl (by omega) (by omega) rfl rfl ?_
  refine er_loc (pc' := 24) rfl rfl rfl ?_
  refine er_gf (pc' := 27) (_) rfl rfl rfl rfl rfl ?_
  refine er_k (pc' := 28) (nI 0) rfl rfl rfl ?_
  refine er_loc (pc' := 29) rfl rfl rfl ?_
  refine er_gf (pc' := 32) (_) rfl rfl rfl rfl rfl ?_
  refine er_k (pc' := 33) (nI 0) rfl rfl rfl ?_
  refine er_k (pc' := 35) (nI 8) rfl rfl rfl ?_
  refine er_cpX (pc' := 38) (0) (0) (8) rfl rfl rfl rfl rfl rfl (fun _ => rfl) rfl rfl rfl (by omega) (by omega) rfl rfl ?_
  refine er_loc (pc' := 39) rfl rfl rfl ?_
  refine er_gf (pc' := 42) (_) rfl rfl rfl rfl rfl ?_
  refine er_k (pc' := 43) (nI 0) rfl rfl rfl ?_
  refine er_loc (pc' := 44) rfl rfl rfl ?_
  refine er_gf (pc' := 47) (_) rfl rfl rfl rfl rfl ?_
  refine er_k (pc' := 48) (nI 0) rfl rfl rfl ?_
  refine er_k (pc' := 50) (nI 8) rfl rfl rfl ?_
  refine er_cpX (pc' := 53) (0) (0) (8) rfl rfl rfl rfl rfl rfl (fun _ => rfl) rfl rfl rfl (by omega) (by omega) rfl rfl ?_
  refine er_loc (pc' := 54) rfl rfl rfl ?_
  refine er_gf (pc' := 57) (_) rfl rfl rfl rfl rfl ?_
  refine er_k (pc' := 58) (nI 0) rfl rfl rfl ?_
  refine er_loc (pc' := 59) rfl rfl rfl ?_
  refine er_gf (pc' := 62) (_) rfl rfl rfl rfl rfl ?_
  refine er_k (pc' := 63) (nI 0) rfl rfl rfl ?_
  refine er_k (pc' := 65) (nI 8) rfl rfl rfl ?_
  refine er_cpX (pc' := 68) (0) (0) (8) rfl rfl rfl rfl rfl rfl (fun _ => rfl) rfl rfl rfl (by omega) (by omega) rfl rfl ?_
  refine er_loc (pc' := 69) rfl rfl rfl ?_
  refine er_loc (pc' := 70) rfl rfl rfl ?_
  refine er_gf (pc' := 73) (.int (X 9 6)) rfl rfl rfl rfl rfl ?_
  refine er_pfIX (pc' := 76) 6 rfl rfl rfl rfl rfl rfl ?_
  refine er_loc (pc' := 77) rfl rfl rfl ?_
  refine er_loc (pc' := 78) rfl rfl rfl ?_
  refine er_gf (pc' := 81) (.int (X 9 7)) rfl rfl rfl rfl rfl ?_
  refine er_pfIX (pc' := 84) 7 rfl rfl rfl rfl rfl rfl ?_
  refine er_loc (pc' := 85) rfl rfl rfl ?_
  refine er_loc (pc' := 86) rfl rfl rfl ?_
  refine er_gf (pc' := 89) (.int (X 9 8)) rfl rfl rfl rfl rfl ?_
  refine er_pfIX (pc' := 92) 8 rfl rfl rfl rfl rfl rfl ?_
  refine er_loc (pc' := 93) rfl rfl rfl ?_
  refine er_loc (pc' := 94) rfl rfl rfl ?_
  refine er_gf (pc' := 97) (.int (X 9 9)) rfl rfl rfl rfl rfl ?_
  refine er_pfIX (pc' := 100) 9 rfl rfl rfl rfl rfl rfl ?_
  refine er_loc (pc' := 101) rfl rfl rfl ?_
  refine er_loc (pc' := 102) rfl rfl rfl ?_
  refine er_gf (pc' := 105) (.int (X 9 10)) rfl rfl rfl rfl rfl ?_
  refine er_pfIX (pc' := 108) 10 rfl rfl rfl rfl rfl rfl ?_
  refine er_loc (pc' := 109) rfl rfl rfl ?_
  refine er_gf (pc' := 112) (_) rfl rfl rfl rfl rfl ?_
  refine er_loc (pc' := 113) rfl rfl rfl ?_
  refine er_gf (pc' := 116) (_) rfl rfl rfl rfl rfl ?_
  refine er_gf (pc' := 119) (_) rfl rfl rfl rfl rfl ?_
  refine er_loc (pc' := 120) rfl rfl rfl ?_
  refine er_gf (pc' := 123) (_) rfl rfl rfl rfl rfl ?_
  refine er_gf (pc' := 126) (.int (X 14 2)) rfl rfl rfl rfl rfl ?_
  rw [hl1]
  refine er_cIv (pc' := 129) (rest := []) 8 rfl rfl rfl rfl rfl rfl (l_hold _ (t := 40) (by simp [tx]) _ _ 15 (X 15) rfl (by rfl) l1 h150) ?_
  intro Z1
  refine er_loc (pc' := 130) rfl rfl rfl ?_
  refine er_gf (pc' := 133) (_) rfl rfl rfl rfl rfl ?_
  refine er_loc (pc' := 134) rfl rfl rfl ?_
  refine er_gf (pc' := 137) (_) rfl rfl rfl rfl rfl ?_
  refine er_gf (pc' := 140) (_) rfl rfl rfl rfl rfl ?_
  refine er_loc (pc' := 141) rfl rfl rfl ?_
  refine er_gf (pc' := 144) (_) rfl rfl rfl rfl rfl ?_
  refine er_gf (pc' := 147) (.int (X 17 2)) rfl rfl rfl rfl rfl ?_
  rw [hl2]
  refine er_cIv (pc' := 150) (rest := []) 8 rfl rfl rfl rfl rfl rfl (l_hold _ (t := 43) (by simp [tx]) _ _ 18 (X 18) rfl (by rfl) l2 h250) ?_
  intro Z2
  refine er_loc (pc' := 151) rfl rfl rfl ?_
  refine er_gf (pc' := 154) (_) rfl rfl rfl rfl rfl ?_
  refine er_k (pc' := 155) (nI 0) rfl rfl rfl ?_
  refine er_loc (pc' := 156) rfl rfl rfl ?_
  refine er_gf (pc' := 159) (_) rfl rfl rfl rfl rfl ?_
  refine er_k (pc' := 160) (nI 0) rfl rfl rfl ?_
  refine er_k (pc' := 162) (nI 50) rfl rfl rfl ?_
  refine er_cpX (pc' := 165) (0) (0) (50) rfl rfl rfl rfl rfl rfl (fun _ => rfl) rfl rfl rfl (by omega) (by omega) rfl rfl ?_
  refine er_loc (pc' := 166) rfl rfl rfl ?_
  refine er_loc (pc' := 167) rfl rfl rfl ?_
  refine er_gf (pc' := 170) (.int (X 9 14)) rfl rfl rfl rfl rfl ?_
  refine er_pfIX (pc' := 173) 14 rfl rfl rfl rfl rfl rfl ?_
  refine er_loc (pc' := 174) rfl rfl rfl ?_
  refine er_gf (pc' := 177) (_) rfl rfl rfl rfl rfl ?_
  refine er_k (pc' := 178) (nI 0) rfl rfl rfl ?_
  refine er_loc (pc' := 179) rfl rfl rfl ?_
  refine er_gf (pc' := 182) (_) rfl rfl rfl rfl rfl ?_
  refine er_k (pc' := 183) (nI 0) rfl rfl rfl ?_
  refine er_k (pc' := 185) (nI 20) rfl rfl rfl ?_
  refine er_cpX (pc' := 188) (0) (0) (20) rfl rfl rfl rfl rfl rfl (fun _ => rfl) rfl rfl rfl (by omega) (by omega) rfl rfl ?_
  refine er_loc (pc' := 189) rfl rfl rfl ?_
  refine er_loc (pc' := 190) rfl rfl rfl ?_
  refine er_gf (pc' := 193) (.int (X 9 16)) rfl rfl rfl rfl rfl ?_
  refine er_pfIX (pc' := 196) 16 rfl rfl rfl rfl rfl rfl ?_
  refine er_loc (pc' := 197) rfl rfl rfl ?_
  refine er_loc (pc' := 198) rfl rfl rfl ?_
  refine er_gf (pc' := 201) (.int (X 9 17)) rfl rfl rfl rfl rfl ?_
  refine er_pfIX (pc' := 204) 17 rfl rfl rfl rfl rfl rfl ?_
  refine er_vret rfl rfl ?_
  refine ⟨_, _, rfl, ?_, ?_⟩
  · refine jx_take (b := 35) (p := 9) ?_ ?_ ?_ ?_ ?_ ?_ ?_ ?_ ?_ ?_ ?_
    · intro k hk
      rcases okF_cases hk with rfl | rfl | rfl | rfl | rfl | rfl | rfl | rfl | rfl <;> rfl
    · intro k hk; exact cpf_all hk
    · intro k hk; exact cpf_all hk
    · intro k hk; exact cpf_all hk
    · intro k hk; exact cpf_all hk
    · exact hl1.symm
    · intro k hk
      rw [show nN (X (9 + 5) 2) = l1 from by rw [show X (9 + 5) 2 = nI l1 from hl1]; exact nN_nI (by omega)] at hk
      exact cpf_all hk
    · exact hl2.symm
    · intro k hk
      rw [show nN (X (9 + 8) 2) = l2 from by rw [show X (9 + 8) 2 = nI l2 from hl2]; exact nN_nI (by omega)] at hk
      exact cpf_all hk
    · intro k hk; exact cpf_all hk
    · intro k hk; exact cpf_all hk
  · intro c hc
    simp only [xHold, ud, uc]
    repeat rw [if_neg (by omega)]
set_option maxRecDepth 100000 in
set_option maxHeartbeats 4000000 in
theorem l_take_22_9 (d : Nat) (X Z : Nat → Nat → Int32) {T : Nat} (hI : IJ T (jx X 9)) : EC (d + 2) 48 [.ref 22, .ref 9] (Wd X Z) (TK X 22 9) := by
  refine er_enter (L := [(0, _), (1, _)]) rfl rfl rfl ?_
  obtain ⟨l1, h150, hl1⟩ := (isN_iff (by omega)).mp hI.tl.1
  obtain ⟨l2, h250, hl2⟩ := (isN_iff (by omega)).mp hI.te.1
  rw [jx5] at hl1
  rw [jx7] at hl2
  refine er_loc (pc' := 1) rfl rfl rfl ?_
  refine er_loc (pc' := 2) rfl rfl rfl ?_
  refine er_gf (pc' := 5) (.int (X 9 1)) rfl rfl rfl rfl rfl ?_
  refine er_pfIX (pc' := 8) 1 rfl rfl rfl rfl rfl rfl ?_
  refine er_loc (pc' := 9) rfl rfl rfl ?_
  refine er_gf (pc' := 12) (_) rfl rfl rfl rfl rfl ?_
  refine er_k (pc' := 13) (nI 0) rfl rfl rfl ?_
  refine er_loc (pc' := 14) rfl rfl rfl ?_
  refine er_gf (pc' := 17) (_) rfl rfl rfl rfl rfl ?_
  refine er_k (pc' := 18) (nI 0) rfl rfl rfl ?_
  refine er_k (pc' := 20) (nI 8) rfl rfl rfl ?_
  refine er_cpX (pc' := 23) (0) (0) (8) rfl rfl rfl rfl rfl rfl (fun _ => rfl) rfl rfl rfl (by omega) (by omega) rfl rfl ?_
  refine er_loc (pc' := 24) rfl rfl rfl ?_
  refine er_gf (pc' := 27) (_) rfl rfl rfl rfl rfl ?_
  refine er_k (pc' := 28) (nI 0) rfl rfl rfl ?_
  refine er_loc (pc' := 29) rfl rfl rfl ?_
  refine er_gf (pc' := 32) (_) rfl rfl rfl rfl rfl ?_
  refine er_k (pc' := 33) (nI 0) rfl rfl rfl ?_
  refine er_k (pc' := 35) (nI 8) rfl rfl rfl ?_
  refine er_cpX (pc' := 38) (0) (0) (8) rfl rfl rfl rfl rfl rfl (fun _ => rfl) rfl rfl rfl (by omega) (by omega) rfl rfl ?_
  refine er_loc (pc' := 39) rfl rfl rfl ?_
  refine er_gf (pc' := 42) (_) rfl rfl rfl rfl rfl ?_
  refine er_k (pc' := 43) (nI 0) rfl rfl rfl ?_
  refine er_loc (pc' := 44) rfl rfl rfl ?_
  refine er_gf (pc' := 47) (_) rfl rfl rfl rfl rfl ?_
  refine er_k (pc' := 48) (nI 0) rfl rfl rfl ?_
  refine er_k (pc' := 50) (nI 8) rfl rfl rfl ?_
  refine er_cpX (pc' := 53) (0) (0) (8) rfl rfl rfl rfl rfl rfl (fun _ => rfl) rfl rfl rfl (by omega) (by omega) rfl rfl ?_
  refine er_loc (pc' := 54) rfl rfl rfl ?_
  refine er_gf (pc' := 57) (_) rfl rfl rfl rfl rfl ?_
  refine er_k (pc' := 58) (nI 0) rfl rfl rfl ?_
  refine er_loc (pc' := 59) rfl rfl rfl ?_
  refine er_gf (pc' := 62) (_) rfl rfl rfl rfl rfl ?_
  refine er_k (pc' := 63) (nI 0) rfl rfl rfl ?_
  refine er_k (pc' := 65) (nI 8) rfl rfl rfl ?_
  refine er_cpX (pc' := 68) (0) (0) (8) rfl rfl rfl rfl rfl rfl (fun _ => rfl) rfl rfl rfl (by omega) (by omega) rfl rfl ?_
  refine er_loc (pc' := 69) rfl rfl rfl ?_
  refine er_loc (pc' := 70) rfl rfl rfl ?_
  refine er_gf (pc' := 73) (.int (X 9 6)) rfl rfl rfl rfl rfl ?_
  refine er_pfIX (pc' := 76) 6 rfl rfl rfl rfl rfl rfl ?_
  refine er_loc (pc' := 77) rfl rfl rfl ?_
  refine er_loc (pc' := 78) rfl rfl rfl ?_
  refine er_gf (pc' := 81) (.int (X 9 7)) rfl rfl rfl rfl rfl ?_
  refine er_pfIX (pc' := 84) 7 rfl rfl rfl rfl rfl rfl ?_
  refine er_loc (pc' := 85) rfl rfl rfl ?_
  refine er_loc (pc' := 86) rfl rfl rfl ?_
  refine er_gf (pc' := 89) (.int (X 9 8)) rfl rfl rfl rfl rfl ?_
  refine er_pfIX (pc' := 92) 8 rfl rfl rfl rfl rfl rfl ?_
  refine er_loc (pc' := 93) rfl rfl rfl ?_
  refine er_loc (pc' := 94) rfl rfl rfl ?_
  refine er_gf (pc' := 97) (.int (X 9 9)) rfl rfl rfl rfl rfl ?_
  refine er_pfIX (pc' := 100) 9 rfl rfl rfl rfl rfl rfl ?_
  refine er_loc (pc' := 101) rfl rfl rfl ?_
  refine er_loc (pc' := 102) rfl rfl rfl ?_
  refine er_gf (pc' := 105) (.int (X 9 10)) rfl rfl rfl rfl rfl ?_
  refine er_pfIX (pc' := 108) 10 rfl rfl rfl rfl rfl rfl ?_
  refine er_loc (pc' := 109) rfl rfl rfl ?_
  refine er_gf (pc' := 112) (_) rfl rfl rfl rfl rfl ?_
  refine er_loc (pc' := 113) rfl rfl rfl ?_
  refine er_gf (pc' := 116) (_) rfl rfl rfl rfl rfl ?_
  refine er_gf (pc' := 119) (_) rfl rfl rfl rfl rfl ?_
  refine er_loc (pc' := 120) rfl rfl rfl ?_
  refine er_gf (pc' := 123) (_) rfl rfl rfl rfl rfl ?_
  refine er_gf (pc' := 126) (.int (X 14 2)) rfl rfl rfl rfl rfl ?_
  rw [hl1]
  refine er_cIv (pc' := 129) (rest := []) 8 rfl rfl rfl rfl rfl rfl (l_hold _ (t := 27) (by simp [tx]) _ _ 15 (X 15) rfl (by rfl) l1 h150) ?_
  intro Z1
  refine er_loc (pc' := 130) rfl rfl rfl ?_
  refine er_gf (pc' := 133) (_) rfl rfl rfl rfl rfl ?_
  refine er_loc (pc' := 134) rfl rfl rfl ?_
  refine er_gf (pc' := 137) (_) rfl rfl rfl rfl rfl ?_
  refine er_gf (pc' := 140) (_) rfl rfl rfl rfl rfl ?_
  refine er_loc (pc' := 141) rfl rfl rfl ?_
  refine er_gf (pc' := 144) (_) rfl rfl rfl rfl rfl ?_
  refine er_gf (pc' := 147) (.int (X 17 2)) rfl rfl rfl rfl rfl ?_
  rw [hl2]
  refine er_cIv (pc' := 150) (rest := []) 8 rfl rfl rfl rfl rfl rfl (l_hold _ (t := 30) (by simp [tx]) _ _ 18 (X 18) rfl (by rfl) l2 h250) ?_
  intro Z2
  refine er_loc (pc' := 151) rfl rfl rfl ?_
  refine er_gf (pc' := 154) (_) rfl rfl rfl rfl rfl ?_
  refine er_k (pc' := 155) (nI 0) rfl rfl rfl ?_
  refine er_loc (pc' := 156) rfl rfl rfl ?_
  refine er_gf (pc' := 159) (_) rfl rfl rfl rfl rfl ?_
  refine er_k (pc' := 160) (nI 0) rfl rfl rfl ?_
  refine er_k (pc' := 162) (nI 50) rfl rfl rfl ?_
  refine er_cpX (pc' := 165) (0) (0) (50) rfl rfl rfl rfl rfl rfl (fun _ => rfl) rfl rfl rfl (by omega) (by omega) rfl rfl ?_
  refine er_loc (pc' := 166) rfl rfl rfl ?_
  refine er_loc (pc' := 167) rfl rfl rfl ?_
  refine er_gf (pc' := 170) (.int (X 9 14)) rfl rfl rfl rfl rfl ?_
  refine er_pfIX (pc' := 173) 14 rfl rfl rfl rfl rfl rfl ?_
  refine er_loc (pc' := 174) rfl rfl rfl ?_
  refine er_gf (pc' := 177) (_) rfl rfl rfl rfl rfl ?_
  refine er_k (pc' := 178) (nI 0) rfl rfl rfl ?_
  refine er_loc (pc' := 179) rfl rfl rfl ?_
  refine er_gf (pc' := 182) (_) rfl rfl rfl rfl rfl ?_
  refine er_k (pc' := 183) (nI 0) rfl rfl rfl ?_
  refine er_k (pc' := 185) (nI 20) rfl rfl rfl ?_
  refine er_cpX (pc' := 188) (0) (0) (20) rfl rfl rfl rfl rfl rfl (fun _ => rfl) rfl rfl rfl (by omega) (by omega) rfl rfl ?_
  refine er_loc (pc' := 189) rfl rfl rfl ?_
  refine er_loc (pc' := 190) rfl rfl rfl ?_
  refine er_gf (pc' := 193) (.int (X 9 16)) rfl rfl rfl rfl rfl ?_
  refine er_pfIX (pc' := 196) 16 rfl rfl rfl rfl rfl rfl ?_
  refine er_loc (pc' := 197) rfl rfl rfl ?_
  refine er_loc (pc' := 198) rfl rfl rfl ?_
  refine er_gf (pc' := 201) (.int (X 9 17)) rfl rfl rfl rfl rfl ?_
  refine er_pfIX (pc' := 204) 17 rfl rfl rfl rfl rfl rfl ?_
  refine er_vret rfl rfl ?_
  refine ⟨_, _, rfl, ?_, ?_⟩
  · refine jx_take (b := 22) (p := 9) ?_ ?_ ?_ ?_ ?_ ?_ ?_ ?_ ?_ ?_ ?_
    · intro k hk
      rcases okF_cases hk with rfl | rfl | rfl | rfl | rfl | rfl | rfl | rfl | rfl <;> rfl
    · intro k hk; exact cpf_all hk
    · intro k hk; exact cpf_all hk
    · intro k hk; exact cpf_all hk
    · intro k hk; exact cpf_all hk
    · exact hl1.symm
    · intro k hk
      rw [show nN (X (9 + 5) 2) = l1 from by rw [show X (9 + 5) 2 = nI l1 from hl1]; exact nN_nI (by omega)] at hk
      exact cpf_all hk
    · exact hl2.symm
    · intro k hk
      rw [show nN (X (9 + 8) 2) = l2 from by rw [show X (9 + 8) 2 = nI l2 from hl2]; exact nN_nI (by omega)] at hk
      exact cpf_all hk
    · intro k hk; exact cpf_all hk
    · intro k hk; exact cpf_all hk
  · intro c hc
    simp only [xHold, ud, uc]
    repeat rw [if_neg (by omega)]
set_option maxRecDepth 100000 in
set_option maxHeartbeats 4000000 in
theorem l_take_9_22 (d : Nat) (X Z : Nat → Nat → Int32) {T : Nat} (hI : IJ T (jx X 22)) : EC (d + 2) 48 [.ref 9, .ref 22] (Wd X Z) (TK X 9 22) := by
  refine er_enter (L := [(0, _), (1, _)]) rfl rfl rfl ?_
  obtain ⟨l1, h150, hl1⟩ := (isN_iff (by omega)).mp hI.tl.1
  obtain ⟨l2, h250, hl2⟩ := (isN_iff (by omega)).mp hI.te.1
  rw [jx5] at hl1
  rw [jx7] at hl2
  refine er_loc (pc' := 1) rfl rfl rfl ?_
  refine er_loc (pc' := 2) rfl rfl rfl ?_
  refine er_gf (pc' := 5) (.int (X 22 1)) rfl rfl rfl rfl rfl ?_
  refine er_pfIX (pc' := 8) 1 rfl rfl rfl rfl rfl rfl ?_
  refine er_loc (pc' := 9) rfl rfl rfl ?_
  refine er_gf (pc' := 12) (_) rfl rfl rfl rfl rfl ?_
  refine er_k (pc' := 13) (nI 0) rfl rfl rfl ?_
  refine er_loc (pc' := 14) rfl rfl rfl ?_
  refine er_gf (pc' := 17) (_) rfl rfl rfl rfl rfl ?_
  refine er_k (pc' := 18) (nI 0) rfl rfl rfl ?_
  refine er_k (pc' := 20) (nI 8) rfl rfl rfl ?_
  refine er_cpX (pc' := 23) (0) (0) (8) rfl rfl rfl rfl rfl rfl (fun _ => rfl) rfl rfl rfl (by omega) (by omega) rfl rfl ?_
  refine er_loc (pc' := 24) rfl rfl rfl ?_
  refine er_gf (pc' := 27) (_) rfl rfl rfl rfl rfl ?_
  refine er_k (pc' := 28) (nI 0) rfl rfl rfl ?_
  refine er_loc (pc' := 29) rfl rfl rfl ?_
  refine er_gf (pc' := 32) (_) rfl rfl rfl rfl rfl ?_
  refine er_k (pc' := 33) (nI 0) rfl rfl rfl ?_
  refine er_k (pc' := 35) (nI 8) rfl rfl rfl ?_
  refine er_cpX (pc' := 38) (0) (0) (8) rfl rfl rfl rfl rfl rfl (fun _ => rfl) rfl rfl rfl (by omega) (by omega) rfl rfl ?_
  refine er_loc (pc' := 39) rfl rfl rfl ?_
  refine er_gf (pc' := 42) (_) rfl rfl rfl rfl rfl ?_
  refine er_k (pc' := 43) (nI 0) rfl rfl rfl ?_
  refine er_loc (pc' := 44) rfl rfl rfl ?_
  refine er_gf (pc' := 47) (_) rfl rfl rfl rfl rfl ?_
  refine er_k (pc' := 48) (nI 0) rfl rfl rfl ?_
  refine er_k (pc' := 50) (nI 8) rfl rfl rfl ?_
  refine er_cpX (pc' := 53) (0) (0) (8) rfl rfl rfl rfl rfl rfl (fun _ => rfl) rfl rfl rfl (by omega) (by omega) rfl rfl ?_
  refine er_loc (pc' := 54) rfl rfl rfl ?_
  refine er_gf (pc' := 57) (_) rfl rfl rfl rfl rfl ?_
  refine er_k (pc' := 58) (nI 0) rfl rfl rfl ?_
  refine er_loc (pc' := 59) rfl rfl rfl ?_
  refine er_gf (pc' := 62) (_) rfl rfl rfl rfl rfl ?_
  refine er_k (pc' := 63) (nI 0) rfl rfl rfl ?_
  refine er_k (pc' := 65) (nI 8) rfl rfl rfl ?_
  refine er_cpX (pc' := 68) (0) (0) (8) rfl rfl rfl rfl rfl rfl (fun _ => rfl) rfl rfl rfl (by omega) (by omega) rfl rfl ?_
  refine er_loc (pc' := 69) rfl rfl rfl ?_
  refine er_loc (pc' := 70) rfl rfl rfl ?_
  refine er_gf (pc' := 73) (.int (X 22 6)) rfl rfl rfl rfl rfl ?_
  refine er_pfIX (pc' := 76) 6 rfl rfl rfl rfl rfl rfl ?_
  refine er_loc (pc' := 77) rfl rfl rfl ?_
  refine er_loc (pc' := 78) rfl rfl rfl ?_
  refine er_gf (pc' := 81) (.int (X 22 7)) rfl rfl rfl rfl rfl ?_
  refine er_pfIX (pc' := 84) 7 rfl rfl rfl rfl rfl rfl ?_
  refine er_loc (pc' := 85) rfl rfl rfl ?_
  refine er_loc (pc' := 86) rfl rfl rfl ?_
  refine er_gf (pc' := 89) (.int (X 22 8)) rfl rfl rfl rfl rfl ?_
  refine er_pfIX (pc' := 92) 8 rfl rfl rfl rfl rfl rfl ?_
  refine er_loc (pc' := 93) rfl rfl rfl ?_
  refine er_loc (pc' := 94) rfl rfl rfl ?_
  refine er_gf (pc' := 97) (.int (X 22 9)) rfl rfl rfl rfl rfl ?_
  refine er_pfIX (pc' := 100) 9 rfl rfl rfl rfl rfl rfl ?_
  refine er_loc (pc' := 101) rfl rfl rfl ?_
  refine er_loc (pc' := 102) rfl rfl rfl ?_
  refine er_gf (pc' := 105) (.int (X 22 10)) rfl rfl rfl rfl rfl ?_
  refine er_pfIX (pc' := 108) 10 rfl rfl rfl rfl rfl rfl ?_
  refine er_loc (pc' := 109) rfl rfl rfl ?_
  refine er_gf (pc' := 112) (_) rfl rfl rfl rfl rfl ?_
  refine er_loc (pc' := 113) rfl rfl rfl ?_
  refine er_gf (pc' := 116) (_) rfl rfl rfl rfl rfl ?_
  refine er_gf (pc' := 119) (_) rfl rfl rfl rfl rfl ?_
  refine er_loc (pc' := 120) rfl rfl rfl ?_
  refine er_gf (pc' := 123) (_) rfl rfl rfl rfl rfl ?_
  refine er_gf (pc' := 126) (.int (X 27 2)) rfl rfl rfl rfl rfl ?_
  rw [hl1]
  refine er_cIv (pc' := 129) (rest := []) 8 rfl rfl rfl rfl rfl rfl (l_hold _ (t := 14) (by simp [tx]) _ _ 28 (X 28) rfl (by rfl) l1 h150) ?_
  intro Z1
  refine er_loc (pc' := 130) rfl rfl rfl ?_
  refine er_gf (pc' := 133) (_) rfl rfl rfl rfl rfl ?_
  refine er_loc (pc' := 134) rfl rfl rfl ?_
  refine er_gf (pc' := 137) (_) rfl rfl rfl rfl rfl ?_
  refine er_gf (pc' := 140) (_) rfl rfl rfl rfl rfl ?_
  refine er_loc (pc' := 141) rfl rfl rfl ?_
  refine er_gf (pc' := 144) (_) rfl rfl rfl rfl rfl ?_
  refine er_gf (pc' := 147) (.int (X 30 2)) rfl rfl rfl rfl rfl ?_
  rw [hl2]
  refine er_cIv (pc' := 150) (rest := []) 8 rfl rfl rfl rfl rfl rfl (l_hold _ (t := 17) (by simp [tx]) _ _ 31 (X 31) rfl (by rfl) l2 h250) ?_
  intro Z2
  refine er_loc (pc' := 151) rfl rfl rfl ?_
  refine er_gf (pc' := 154) (_) rfl rfl rfl rfl rfl ?_
  refine er_k (pc' := 155) (nI 0) rfl rfl rfl ?_
  refine er_loc (pc' := 156) rfl rfl rfl ?_
  refine er_gf (pc' := 159) (_) rfl rfl rfl rfl rfl ?_
  refine er_k (pc' := 160) (nI 0) rfl rfl rfl ?_
  refine er_k (pc' := 162) (nI 50) rfl rfl rfl ?_
  refine er_cpX (pc' := 165) (0) (0) (50) rfl rfl rfl rfl rfl rfl (fun _ => rfl) rfl rfl rfl (by omega) (by omega) rfl rfl ?_
  refine er_loc (pc' := 166) rfl rfl rfl ?_
  refine er_loc (pc' := 167) rfl rfl rfl ?_
  refine er_gf (pc' := 170) (.int (X 22 14)) rfl rfl rfl rfl rfl ?_
  refine er_pfIX (pc' := 173) 14 rfl rfl rfl rfl rfl rfl ?_
  refine er_loc (pc' := 174) rfl rfl rfl ?_
  refine er_gf (pc' := 177) (_) rfl rfl rfl rfl rfl ?_
  refine er_k (pc' := 178) (nI 0) rfl rfl rfl ?_
  refine er_loc (pc' := 179) rfl rfl rfl ?_
  refine er_gf (pc' := 182) (_) rfl rfl rfl rfl rfl ?_
  refine er_k (pc' := 183) (nI 0) rfl rfl rfl ?_
  refine er_k (pc' := 185) (nI 20) rfl rfl rfl ?_
  refine er_cpX (pc' := 188) (0) (0) (20) rfl rfl rfl rfl rfl rfl (fun _ => rfl) rfl rfl rfl (by omega) (by omega) rfl rfl ?_
  refine er_loc (pc' := 189) rfl rfl rfl ?_
  refine er_loc (pc' := 190) rfl rfl rfl ?_
  refine er_gf (pc' := 193) (.int (X 22 16)) rfl rfl rfl rfl rfl ?_
  refine er_pfIX (pc' := 196) 16 rfl rfl rfl rfl rfl rfl ?_
  refine er_loc (pc' := 197) rfl rfl rfl ?_
  refine er_loc (pc' := 198) rfl rfl rfl ?_
  refine er_gf (pc' := 201) (.int (X 22 17)) rfl rfl rfl rfl rfl ?_
  refine er_pfIX (pc' := 204) 17 rfl rfl rfl rfl rfl rfl ?_
  refine er_vret rfl rfl ?_
  refine ⟨_, _, rfl, ?_, ?_⟩
  · refine jx_take (b := 9) (p := 22) ?_ ?_ ?_ ?_ ?_ ?_ ?_ ?_ ?_ ?_ ?_
    · intro k hk
      rcases okF_cases hk with rfl | rfl | rfl | rfl | rfl | rfl | rfl | rfl | rfl <;> rfl
    · intro k hk; exact cpf_all hk
    · intro k hk; exact cpf_all hk
    · intro k hk; exact cpf_all hk
    · intro k hk; exact cpf_all hk
    · exact hl1.symm
    · intro k hk
      rw [show nN (X (22 + 5) 2) = l1 from by rw [show X (22 + 5) 2 = nI l1 from hl1]; exact nN_nI (by omega)] at hk
      exact cpf_all hk
    · exact hl2.symm
    · intro k hk
      rw [show nN (X (22 + 8) 2) = l2 from by rw [show X (22 + 8) 2 = nI l2 from hl2]; exact nN_nI (by omega)] at hk
      exact cpf_all hk
    · intro k hk; exact cpf_all hk
    · intro k hk; exact cpf_all hk
  · intro c hc
    simp only [xHold, ud, uc]
    repeat rw [if_neg (by omega)]
