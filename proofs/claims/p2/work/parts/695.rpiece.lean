/-! THE REFERENCE reads: compares, pieces, all of it -/
set_option maxRecDepth 100000 in
set_option maxHeartbeats 4000000 in
theorem l_yR2 (d : Nat) (X Z : Nat → Nat → Int32) {u op e p : Nat} {g : Nat → Nat → PS → PT} {f : PS → PT} (hf : g 3 op = f) (he : X 64 5 = nI e) (he50 : e ≤ 50) (H : ∀ (p : Nat) (s : Nat × (Nat → Int32)) (y : YS), p ≤ e → s.1 ≤ 50 → CA s y → EC (d + 1) 156 [.ref 63] (Wd X (QZ Z u op false p y)) (PY X Z u e op (f (p, s)))) (s : Nat × (Nat → Int32)) (y : YS) (hp : p ≤ e) (hs : s.1 ≤ 50) (hca : CA s y) : EC (d + 2) 155 [.ref 63] (Wd X (QZ Z u op false p y)) (PY X Z u e op (qR (jm (X 64) 9) e g 2 op (p, s))) := by
  subst hf
  refine er_enter (L := [(0, _)]) rfl rfl rfl ?_
  show ER _ _ _ _ _ _ (PY X Z u e op (match g 3 op (p, s) with | .inl x => .inl x | .inr s1 => qL (g 3 op) (jm (X 64) 9) e 2 1 s1))
  refine er_loc (pc' := 1) rfl rfl rfl ?_
  refine er_cIP (pc' := 4) (rest := []) 12 rfl rfl rfl rfl rfl rfl (H p s y hp hs hca) (fun r hr => ?_)
  cases h1 : g 3 op (p, s) with
  | inl x =>
    rw [h1] at hr
    obtain ⟨y2, hy2, hx2, rfl⟩ := hr
    refine er_loc (pc' := 5) rfl rfl rfl ?_
    refine er_cIi (pc' := 8) (rest := []) 12 rfl rfl rfl rfl rfl rfl (l_yByte _ X _ he he50 hx2) ?_
    refine er_loc (pc' := 9) (L' := [(1, _), (0, _)]) rfl rfl rfl ?_
    refine er_loc (pc' := 10) rfl rfl rfl ?_
    refine er_gf (pc' := 13) (.int (bI true)) rfl rfl rfl rfl rfl ?_
    refine er_if_neT rfl (by decide +kernel) ?_
    refine er_vret rfl rfl ?_
    exact PY_inl rfl hy2 hx2
  | inr s1 =>
    rw [h1] at hr
    obtain ⟨hq1, hq2, y2, hca2, rfl⟩ := hr
    refine er_loc (pc' := 5) rfl rfl rfl ?_
    refine er_cIi (pc' := 8) (rest := []) 12 rfl rfl rfl rfl rfl rfl (l_yByte _ X _ he he50 hq1) ?_
    refine er_loc (pc' := 9) (L' := [(1, _), (0, _)]) rfl rfl rfl ?_
    refine er_loc (pc' := 10) rfl rfl rfl ?_
    refine er_gf (pc' := 13) (.int (bI false)) rfl rfl rfl rfl rfl ?_
    refine er_if_neF (pc' := 16) rfl (by decide +kernel) rfl ?_
    refine er_loc (pc' := 17) rfl rfl rfl ?_
    refine er_k (pc' := 19) (nI 60) rfl rfl rfl ?_
    refine er_cm_eq (pc' := 22) rfl rfl (fun h19 => ?_) (fun h19 => ?_)
    · refine er_loc (pc' := 35) rfl rfl rfl ?_
      refine er_pure (pc' := 36) rfl rfl rfl ?_
      refine er_gf (pc' := 39) (.int (nI s1.1)) rfl rfl rfl rfl rfl ?_
      refine er_k (pc' := 40) (nI 1) rfl rfl rfl ?_
      refine er_iadd (pc' := 41) rfl rfl ?_
      rw [nI_add s1.1 1]
      refine er_pfIZ (pc' := 44) 10 rfl rfl rfl rfl rfl rfl ?_
      rw [QZ_p]
      refine er_loc (pc' := 45) rfl rfl rfl ?_
      have hj : jn2 2 (pk (jm (X 64) 9) e s1.1) = true := Bool.or_eq_true_iff.mpr (Or.inl (decide_eq_true h19))
      have hp1 := jn_lt (show 2 < 5 by omega) hj
      refine er_cIP (pc' := 48) (rest := []) 12 rfl rfl rfl rfl rfl rfl (H (s1.1 + 1) s1.2 y2 hp1 hq2 hca2) (fun r hr => ?_)
      cases h3 : g 3 op (s1.1 + 1, s1.2) with
      | inl x =>
        rw [h3] at hr
        obtain ⟨y3, hy3, hx3, rfl⟩ := hr
        refine er_loc (pc' := 49) rfl rfl rfl ?_
        refine er_loc (pc' := 50) rfl rfl rfl ?_
        refine er_k (pc' := 51) (nI 0) rfl rfl rfl ?_
        refine er_cIn (pc' := 54) (rest := []) 12 rfl rfl rfl rfl rfl rfl (l_yLays _ X _ hy3 _ _) ?_
        refine er_vret rfl rfl ?_
        exact PY_inl (qL_inl hj h3) (wrY_le hy3) hx3
      | inr s2 =>
        rw [h3] at hr
        obtain ⟨hr1, hr2, y3, hca3, rfl⟩ := hr
        refine er_loc (pc' := 49) rfl rfl rfl ?_
        refine er_loc (pc' := 50) rfl rfl rfl ?_
        refine er_k (pc' := 51) (nI 0) rfl rfl rfl ?_
        refine er_cIn (pc' := 54) (rest := []) 12 rfl rfl rfl rfl rfl rfl (l_yLays _ X _ (hca3.le hr2) _ _) ?_
        refine er_vret rfl rfl ?_
        exact PY_inr (qL_inr hj h3) hr1 (wrC_le hr2) (hca3.wr (aOK_sg (jn_ok (show 2 < 5 by omega) hj)) (cM_g (jn_ok (show 2 < 5 by omega) hj)))
    · refine er_loc (pc' := 23) rfl rfl rfl ?_
      refine er_k (pc' := 25) (nI 61) rfl rfl rfl ?_
      refine er_cm_eq (pc' := 28) rfl rfl (fun h25 => ?_) (fun h25 => ?_)
      · refine er_loc (pc' := 35) rfl rfl rfl ?_
        refine er_pure (pc' := 36) rfl rfl rfl ?_
        refine er_gf (pc' := 39) (.int (nI s1.1)) rfl rfl rfl rfl rfl ?_
        refine er_k (pc' := 40) (nI 1) rfl rfl rfl ?_
        refine er_iadd (pc' := 41) rfl rfl ?_
        rw [nI_add s1.1 1]
        refine er_pfIZ (pc' := 44) 10 rfl rfl rfl rfl rfl rfl ?_
        rw [QZ_p]
        refine er_loc (pc' := 45) rfl rfl rfl ?_
        have hj : jn2 2 (pk (jm (X 64) 9) e s1.1) = true := Bool.or_eq_true_iff.mpr (Or.inr (Bool.or_eq_true_iff.mpr (Or.inl (decide_eq_true h25))))
        have hp1 := jn_lt (show 2 < 5 by omega) hj
        refine er_cIP (pc' := 48) (rest := []) 12 rfl rfl rfl rfl rfl rfl (H (s1.1 + 1) s1.2 y2 hp1 hq2 hca2) (fun r hr => ?_)
        cases h3 : g 3 op (s1.1 + 1, s1.2) with
        | inl x =>
          rw [h3] at hr
          obtain ⟨y3, hy3, hx3, rfl⟩ := hr
          refine er_loc (pc' := 49) rfl rfl rfl ?_
          refine er_loc (pc' := 50) rfl rfl rfl ?_
          refine er_k (pc' := 51) (nI 0) rfl rfl rfl ?_
          refine er_cIn (pc' := 54) (rest := []) 12 rfl rfl rfl rfl rfl rfl (l_yLays _ X _ hy3 _ _) ?_
          refine er_vret rfl rfl ?_
          exact PY_inl (qL_inl hj h3) (wrY_le hy3) hx3
        | inr s2 =>
          rw [h3] at hr
          obtain ⟨hr1, hr2, y3, hca3, rfl⟩ := hr
          refine er_loc (pc' := 49) rfl rfl rfl ?_
          refine er_loc (pc' := 50) rfl rfl rfl ?_
          refine er_k (pc' := 51) (nI 0) rfl rfl rfl ?_
          refine er_cIn (pc' := 54) (rest := []) 12 rfl rfl rfl rfl rfl rfl (l_yLays _ X _ (hca3.le hr2) _ _) ?_
          refine er_vret rfl rfl ?_
          exact PY_inr (qL_inr hj h3) hr1 (wrC_le hr2) (hca3.wr (aOK_sg (jn_ok (show 2 < 5 by omega) hj)) (cM_g (jn_ok (show 2 < 5 by omega) hj)))
      · refine er_loc (pc' := 29) rfl rfl rfl ?_
        refine er_k (pc' := 31) (nI 62) rfl rfl rfl ?_
        refine er_cm_ne (pc' := 34) rfl rfl (fun h31 => ?_) (fun h31 => ?_)
        · refine er_vret rfl rfl ?_
          have hj : ¬ jn2 2 (pk (jm (X 64) 9) e s1.1) = true := by
            intro hh
            rcases Bool.or_eq_true_iff.mp hh with hh | hh; exact h19 (of_decide_eq_true hh); rcases Bool.or_eq_true_iff.mp hh with hh | hh; exact h25 (of_decide_eq_true hh); exact h31 (of_decide_eq_true hh)
          exact PY_inr (qL_no hj) hq1 hq2 hca2
        · refine er_loc (pc' := 35) rfl rfl rfl ?_
          refine er_pure (pc' := 36) rfl rfl rfl ?_
          refine er_gf (pc' := 39) (.int (nI s1.1)) rfl rfl rfl rfl rfl ?_
          refine er_k (pc' := 40) (nI 1) rfl rfl rfl ?_
          refine er_iadd (pc' := 41) rfl rfl ?_
          rw [nI_add s1.1 1]
          refine er_pfIZ (pc' := 44) 10 rfl rfl rfl rfl rfl rfl ?_
          rw [QZ_p]
          refine er_loc (pc' := 45) rfl rfl rfl ?_
          have hj : jn2 2 (pk (jm (X 64) 9) e s1.1) = true := Bool.or_eq_true_iff.mpr (Or.inr (Bool.or_eq_true_iff.mpr (Or.inr (decide_eq_true h31))))
          have hp1 := jn_lt (show 2 < 5 by omega) hj
          refine er_cIP (pc' := 48) (rest := []) 12 rfl rfl rfl rfl rfl rfl (H (s1.1 + 1) s1.2 y2 hp1 hq2 hca2) (fun r hr => ?_)
          cases h3 : g 3 op (s1.1 + 1, s1.2) with
          | inl x =>
            rw [h3] at hr
            obtain ⟨y3, hy3, hx3, rfl⟩ := hr
            refine er_loc (pc' := 49) rfl rfl rfl ?_
            refine er_loc (pc' := 50) rfl rfl rfl ?_
            refine er_k (pc' := 51) (nI 0) rfl rfl rfl ?_
            refine er_cIn (pc' := 54) (rest := []) 12 rfl rfl rfl rfl rfl rfl (l_yLays _ X _ hy3 _ _) ?_
            refine er_vret rfl rfl ?_
            exact PY_inl (qL_inl hj h3) (wrY_le hy3) hx3
          | inr s2 =>
            rw [h3] at hr
            obtain ⟨hr1, hr2, y3, hca3, rfl⟩ := hr
            refine er_loc (pc' := 49) rfl rfl rfl ?_
            refine er_loc (pc' := 50) rfl rfl rfl ?_
            refine er_k (pc' := 51) (nI 0) rfl rfl rfl ?_
            refine er_cIn (pc' := 54) (rest := []) 12 rfl rfl rfl rfl rfl rfl (l_yLays _ X _ (hca3.le hr2) _ _) ?_
            refine er_vret rfl rfl ?_
            exact PY_inr (qL_inr hj h3) hr1 (wrC_le hr2) (hca3.wr (aOK_sg (jn_ok (show 2 < 5 by omega) hj)) (cM_g (jn_ok (show 2 < 5 by omega) hj)))
def mB33 (t : PT) : PT := match t with
  | .inl x => .inl x
  | .inr s1 => .inr (s1.1, wrC s1.2 (-33))
def mB40 (tp : Nat → Int32) (e : Nat) (t : PT) : PT := match t with
  | .inl x => .inl x
  | .inr s1 => if pk tp e s1.1 = nI 41 then .inr (s1.1 + 1, s1.2) else .inl s1.1
set_option maxRecDepth 100000 in
set_option maxHeartbeats 4000000 in
theorem l_yO33 (d : Nat) (X Z : Nat → Nat → Int32) {u op e p : Nat} {f : PS → PT} (hop : op ≤ 5) (he : X 64 5 = nI e) (he50 : e ≤ 50) (H0 : op < 5 → ∀ (p : Nat) (s : Nat × (Nat → Int32)) (y : YS), p ≤ e → s.1 ≤ 50 → CA s y → EC (d + 1) 158 [.ref 63] (Wd X (QZ Z u (op + 1) false p y)) (PY X Z u e (op + 1) (f (p, s)))) (s : Nat × (Nat → Int32)) (y : YS) (hp0 : p ≤ e) (Hp : op < 5 → p + 1 ≤ e) (hs : s.1 ≤ 50) (hca : CA s y) : EC (d + 2) 162 [.ref 63, .int (nI 33)] (Wd X (QZ Z u op false p y)) (PY X Z u e op (if op < 5 then (mB33 (f (p + 1, s))) else .inl p)) := by
  have hy50 := hca.le hs
  refine er_enter (L := [(0, _), (1, _)]) rfl rfl rfl ?_
  refine er_loc (pc' := 1) rfl rfl rfl ?_
  refine er_gf (pc' := 4) (.int (nI op)) rfl rfl rfl rfl rfl ?_
  refine er_k (pc' := 5) (nI 5) rfl rfl rfl ?_
  refine er_cm_ne (pc' := 8) rfl rfl (fun h5 => ?_) (fun h5 => ?_)
  · have hlt : op < 5 := by
      rcases Nat.lt_or_ge op 5 with h | h
      · exact h
      · exact absurd (by rw [show op = 5 by omega]) h5
    have hp := Hp hlt
    have H := H0 hlt
    refine er_loc (pc' := 15) rfl rfl rfl ?_
    refine er_pure (pc' := 16) rfl rfl rfl ?_
    refine er_gf (pc' := 19) (.int (nI op)) rfl rfl rfl rfl rfl ?_
    refine er_k (pc' := 20) (nI 1) rfl rfl rfl ?_
    refine er_iadd (pc' := 21) rfl rfl ?_
    rw [nI_add op 1]
    refine er_pfIZ (pc' := 24) 11 rfl rfl rfl rfl rfl rfl ?_
    rw [QZ_o]
    refine er_loc (pc' := 25) rfl rfl rfl ?_
    refine er_pure (pc' := 26) rfl rfl rfl ?_
    refine er_gf (pc' := 29) (.int (nI p)) rfl rfl rfl rfl rfl ?_
    refine er_k (pc' := 30) (nI 1) rfl rfl rfl ?_
    refine er_iadd (pc' := 31) rfl rfl ?_
    rw [nI_add p 1]
    refine er_pfIZ (pc' := 34) 10 rfl rfl rfl rfl rfl rfl ?_
    rw [QZ_p]
    refine er_loc (pc' := 35) rfl rfl rfl ?_
    refine er_k (pc' := 37) (nI 33) rfl rfl rfl ?_
    refine er_cm_neF (pc' := 40) rfl (rfl) rfl ?_
    refine er_loc (pc' := 41) rfl rfl rfl ?_
    refine er_cIP (pc' := 44) (rest := []) 12 rfl rfl rfl rfl rfl rfl (H (p + 1) s y hp hs hca) (fun r hr => ?_)
    cases h1 : f (p + 1, s) with
    | inl x =>
      rw [h1] at hr
      obtain ⟨y2, hy2, hx2, rfl⟩ := hr
      refine er_loc (pc' := 45) rfl rfl rfl ?_
      refine er_k (pc' := 46) (nI 3) rfl rfl rfl ?_
      refine er_k (pc' := 47) (nI 0) rfl rfl rfl ?_
      refine er_cIn (pc' := 50) (rest := []) 12 rfl rfl rfl rfl rfl rfl (l_yLays _ X _ hy2 _ _) ?_
      refine er_goto rfl ?_
      refine er_loc (pc' := 104) rfl rfl rfl ?_
      refine er_pure (pc' := 105) rfl rfl rfl ?_
      refine er_gf (pc' := 108) (.int (nI (op + 1))) rfl rfl rfl rfl rfl ?_
      refine er_k (pc' := 109) (nI 1) rfl rfl rfl ?_
      refine er_isub rfl rfl ?_
      rw [nI_s1 op]
      refine er_pfIZ (pc' := 113) 11 rfl rfl rfl rfl rfl rfl ?_
      rw [QZ_o]
      refine er_vret rfl rfl ?_
      rw [if_pos hlt]
      exact PY_inl rfl (wrY_le hy2) hx2
    | inr s1 =>
      rw [h1] at hr
      obtain ⟨hq1, hq2, y2, hca2, rfl⟩ := hr
      refine er_loc (pc' := 45) rfl rfl rfl ?_
      refine er_k (pc' := 46) (nI 3) rfl rfl rfl ?_
      refine er_k (pc' := 47) (nI 0) rfl rfl rfl ?_
      refine er_cIn (pc' := 50) (rest := []) 12 rfl rfl rfl rfl rfl rfl (l_yLays _ X _ (hca2.le hq2) _ _) ?_
      refine er_goto rfl ?_
      refine er_loc (pc' := 104) rfl rfl rfl ?_
      refine er_pure (pc' := 105) rfl rfl rfl ?_
      refine er_gf (pc' := 108) (.int (nI (op + 1))) rfl rfl rfl rfl rfl ?_
      refine er_k (pc' := 109) (nI 1) rfl rfl rfl ?_
      refine er_isub rfl rfl ?_
      rw [nI_s1 op]
      refine er_pfIZ (pc' := 113) 11 rfl rfl rfl rfl rfl rfl ?_
      rw [QZ_o]
      refine er_vret rfl rfl ?_
      rw [if_pos hlt]
      exact PY_inr rfl hq1 (wrC_le hq2) (hca2.wr (Or.inr (Or.inr (Or.inl rfl))) (cM_3 rfl))
  · have h5e : op = 5 := nIj (by omega) (by omega) h5
    refine er_loc (pc' := 9) rfl rfl rfl ?_
    refine er_k (pc' := 10) (nI 1) rfl rfl rfl ?_
    refine er_pfIZ (pc' := 13) 12 rfl rfl rfl rfl rfl rfl ?_
    rw [show (nI 1 : Int32) = bI true from rfl, QZ_b]
    refine er_vret rfl rfl ?_
    rw [if_neg (show ¬ op < 5 by omega)]
    exact PY_inl rfl hy50 hp0
set_option maxRecDepth 100000 in
set_option maxHeartbeats 4000000 in
theorem l_yO40 (d : Nat) (X Z : Nat → Nat → Int32) {u op e p : Nat} {f : PS → PT} (hop : op ≤ 5) (he : X 64 5 = nI e) (he50 : e ≤ 50) (H0 : op < 5 → ∀ (p : Nat) (s : Nat × (Nat → Int32)) (y : YS), p ≤ e → s.1 ≤ 50 → CA s y → EC (d + 1) 153 [.ref 63] (Wd X (QZ Z u (op + 1) false p y)) (PY X Z u e (op + 1) (f (p, s)))) (s : Nat × (Nat → Int32)) (y : YS) (hp0 : p ≤ e) (Hp : op < 5 → p + 1 ≤ e) (hs : s.1 ≤ 50) (hca : CA s y) : EC (d + 2) 162 [.ref 63, .int (nI 40)] (Wd X (QZ Z u op false p y)) (PY X Z u e op (if op < 5 then (mB40 (jm (X 64) 9) e (f (p + 1, s))) else .inl p)) := by
  have hy50 := hca.le hs
  refine er_enter (L := [(0, _), (1, _)]) rfl rfl rfl ?_
  refine er_loc (pc' := 1) rfl rfl rfl ?_
  refine er_gf (pc' := 4) (.int (nI op)) rfl rfl rfl rfl rfl ?_
  refine er_k (pc' := 5) (nI 5) rfl rfl rfl ?_
  refine er_cm_ne (pc' := 8) rfl rfl (fun h5 => ?_) (fun h5 => ?_)
  · have hlt : op < 5 := by
      rcases Nat.lt_or_ge op 5 with h | h
      · exact h
      · exact absurd (by rw [show op = 5 by omega]) h5
    have hp := Hp hlt
    have H := H0 hlt
    refine er_loc (pc' := 15) rfl rfl rfl ?_
    refine er_pure (pc' := 16) rfl rfl rfl ?_
    refine er_gf (pc' := 19) (.int (nI op)) rfl rfl rfl rfl rfl ?_
    refine er_k (pc' := 20) (nI 1) rfl rfl rfl ?_
    refine er_iadd (pc' := 21) rfl rfl ?_
    rw [nI_add op 1]
    refine er_pfIZ (pc' := 24) 11 rfl rfl rfl rfl rfl rfl ?_
    rw [QZ_o]
    refine er_loc (pc' := 25) rfl rfl rfl ?_
    refine er_pure (pc' := 26) rfl rfl rfl ?_
    refine er_gf (pc' := 29) (.int (nI p)) rfl rfl rfl rfl rfl ?_
    refine er_k (pc' := 30) (nI 1) rfl rfl rfl ?_
    refine er_iadd (pc' := 31) rfl rfl ?_
    rw [nI_add p 1]
    refine er_pfIZ (pc' := 34) 10 rfl rfl rfl rfl rfl rfl ?_
    rw [QZ_p]
    refine er_loc (pc' := 35) rfl rfl rfl ?_
    refine er_k (pc' := 37) (nI 33) rfl rfl rfl ?_
    refine er_cm_neT rfl (by decide +kernel) ?_
    refine er_loc (pc' := 54) rfl rfl rfl ?_
    refine er_cIP (pc' := 57) (rest := []) 12 rfl rfl rfl rfl rfl rfl (H (p + 1) s y hp hs hca) (fun r hr => ?_)
    cases h1 : f (p + 1, s) with
    | inl x =>
      rw [h1] at hr
      obtain ⟨y2, hy2, hx2, rfl⟩ := hr
      refine er_loc (pc' := 58) rfl rfl rfl ?_
      refine er_loc (pc' := 59) rfl rfl rfl ?_
      refine er_gf (pc' := 62) (.int (bI true)) rfl rfl rfl rfl rfl ?_
      refine er_if_neT rfl (by decide +kernel) ?_
      refine er_k (pc' := 75) (nI 1) rfl rfl rfl ?_
      refine er_goto rfl ?_
      refine er_pfIZ (pc' := 82) 12 rfl rfl rfl rfl rfl rfl ?_
      rw [show (nI 1 : Int32) = bI true from rfl, QZ_b]
      refine er_loc (pc' := 83) rfl rfl rfl ?_
      refine er_pure (pc' := 84) rfl rfl rfl ?_
      refine er_gf (pc' := 87) (.int (nI x)) rfl rfl rfl rfl rfl ?_
      refine er_loc (pc' := 88) rfl rfl rfl ?_
      refine er_gf (pc' := 91) (.int (bI true)) rfl rfl rfl rfl rfl ?_
      refine er_if_eqF (pc' := 94) rfl (by decide +kernel) rfl ?_
      refine er_k (pc' := 95) (nI 0) rfl rfl rfl ?_
      refine er_goto rfl ?_
      refine er_iadd (pc' := 100) rfl rfl ?_
      rw [nI_add x 0]
      refine er_pfIZ (pc' := 103) 10 rfl rfl rfl rfl rfl rfl ?_
      rw [QZ_p]
      refine er_loc (pc' := 104) rfl rfl rfl ?_
      refine er_pure (pc' := 105) rfl rfl rfl ?_
      refine er_gf (pc' := 108) (.int (nI (op + 1))) rfl rfl rfl rfl rfl ?_
      refine er_k (pc' := 109) (nI 1) rfl rfl rfl ?_
      refine er_isub rfl rfl ?_
      rw [nI_s1 op]
      refine er_pfIZ (pc' := 113) 11 rfl rfl rfl rfl rfl rfl ?_
      rw [QZ_o]
      refine er_vret rfl rfl ?_
      rw [if_pos hlt]
      exact PY_inl rfl hy2 hx2
    | inr s1 =>
      rw [h1] at hr
      obtain ⟨hq1, hq2, y2, hca2, rfl⟩ := hr
      refine er_loc (pc' := 58) rfl rfl rfl ?_
      refine er_loc (pc' := 59) rfl rfl rfl ?_
      refine er_gf (pc' := 62) (.int (bI false)) rfl rfl rfl rfl rfl ?_
      refine er_if_neF (pc' := 65) rfl (by decide +kernel) rfl ?_
      refine er_loc (pc' := 66) rfl rfl rfl ?_
      refine er_cIi (pc' := 69) (rest := [_]) 12 rfl rfl rfl rfl rfl rfl (l_yByte _ X _ he he50 hq1) ?_
      refine er_k (pc' := 71) (nI 41) rfl rfl rfl ?_
      refine er_cm_eq (pc' := 74) rfl rfl (fun h71 => ?_) (fun h71 => ?_)
      · refine er_k (pc' := 79) (nI 0) rfl rfl rfl ?_
        refine er_pfIZ (pc' := 82) 12 rfl rfl rfl rfl rfl rfl ?_
        rw [show (nI 0 : Int32) = bI false from rfl, QZ_b]
        refine er_loc (pc' := 83) rfl rfl rfl ?_
        refine er_pure (pc' := 84) rfl rfl rfl ?_
        refine er_gf (pc' := 87) (.int (nI s1.1)) rfl rfl rfl rfl rfl ?_
        refine er_loc (pc' := 88) rfl rfl rfl ?_
        refine er_gf (pc' := 91) (.int (bI false)) rfl rfl rfl rfl rfl ?_
        refine er_if_eqT rfl (by decide +kernel) ?_
        refine er_k (pc' := 99) (nI 1) rfl rfl rfl ?_
        refine er_iadd (pc' := 100) rfl rfl ?_
        rw [nI_add s1.1 1]
        refine er_pfIZ (pc' := 103) 10 rfl rfl rfl rfl rfl rfl ?_
        rw [QZ_p]
        refine er_loc (pc' := 104) rfl rfl rfl ?_
        refine er_pure (pc' := 105) rfl rfl rfl ?_
        refine er_gf (pc' := 108) (.int (nI (op + 1))) rfl rfl rfl rfl rfl ?_
        refine er_k (pc' := 109) (nI 1) rfl rfl rfl ?_
        refine er_isub rfl rfl ?_
        rw [nI_s1 op]
        refine er_pfIZ (pc' := 113) 11 rfl rfl rfl rfl rfl rfl ?_
        rw [QZ_o]
        refine er_vret rfl rfl ?_
        rw [if_pos hlt]
        exact PY_inr (if_pos h71) (pkq_lt h71 (by decide +kernel)) hq2 hca2
      · refine er_k (pc' := 75) (nI 1) rfl rfl rfl ?_
        refine er_goto rfl ?_
        refine er_pfIZ (pc' := 82) 12 rfl rfl rfl rfl rfl rfl ?_
        rw [show (nI 1 : Int32) = bI true from rfl, QZ_b]
        refine er_loc (pc' := 83) rfl rfl rfl ?_
        refine er_pure (pc' := 84) rfl rfl rfl ?_
        refine er_gf (pc' := 87) (.int (nI s1.1)) rfl rfl rfl rfl rfl ?_
        refine er_loc (pc' := 88) rfl rfl rfl ?_
        refine er_gf (pc' := 91) (.int (bI true)) rfl rfl rfl rfl rfl ?_
        refine er_if_eqF (pc' := 94) rfl (by decide +kernel) rfl ?_
        refine er_k (pc' := 95) (nI 0) rfl rfl rfl ?_
        refine er_goto rfl ?_
        refine er_iadd (pc' := 100) rfl rfl ?_
        rw [nI_add s1.1 0]
        refine er_pfIZ (pc' := 103) 10 rfl rfl rfl rfl rfl rfl ?_
        rw [QZ_p]
        refine er_loc (pc' := 104) rfl rfl rfl ?_
        refine er_pure (pc' := 105) rfl rfl rfl ?_
        refine er_gf (pc' := 108) (.int (nI (op + 1))) rfl rfl rfl rfl rfl ?_
        refine er_k (pc' := 109) (nI 1) rfl rfl rfl ?_
        refine er_isub rfl rfl ?_
        rw [nI_s1 op]
        refine er_pfIZ (pc' := 113) 11 rfl rfl rfl rfl rfl rfl ?_
        rw [QZ_o]
        refine er_vret rfl rfl ?_
        rw [if_pos hlt]
        exact PY_inl (if_neg h71) (hca2.le hq2) hq1
  · have h5e : op = 5 := nIj (by omega) (by omega) h5
    refine er_loc (pc' := 9) rfl rfl rfl ?_
    refine er_k (pc' := 10) (nI 1) rfl rfl rfl ?_
    refine er_pfIZ (pc' := 13) 12 rfl rfl rfl rfl rfl rfl ?_
    rw [show (nI 1 : Int32) = bI true from rfl, QZ_b]
    refine er_vret rfl rfl ?_
    rw [if_neg (show ¬ op < 5 by omega)]
    exact PY_inl rfl hy50 hp0
