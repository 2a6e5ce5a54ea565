/-! THE REFERENCE reads: all of it -/
theorem nmQ_v {u : Nat} {b : Int32} (h : ¬ nmQ u b < 0) : nmQ u b = nI 0 ∨ nmQ u b = nI 1 ∨ nmQ u b = nI 2 := by
  have key : ∀ c : Nat, nmI u c = nI 0 ∨ nmI u c = nI 1 ∨ nmI u c = nI 2 ∨ nmI u c = -1 := by
    intro c
    unfold nmI
    (repeat' split) <;> simp
  unfold nmQ at h ⊢
  by_cases hb : b < 0
  · rw [if_pos hb] at h
    exact absurd (by decide +kernel) h
  · rw [if_neg hb] at h ⊢
    rcases key (nN b) with e | e | e | e
    · exact Or.inl e
    · exact Or.inr (Or.inl e)
    · exact Or.inr (Or.inr e)
    · rw [e] at h
      exact absurd (by decide +kernel) h
theorem nm_b {u : Nat} {b : Int32} (h : ¬ nmQ u b < 0) : b = 115 ∨ b = 109 ∨ b = 116 ∨ b = 107 := by
  by_cases h1 : b = 115
  · exact Or.inl h1
  · by_cases h2 : b = 109
    · exact Or.inr (Or.inl h2)
    · by_cases h3 : b = 116
      · exact Or.inr (Or.inr (Or.inl h3))
      · by_cases h4 : b = 107
        · exact Or.inr (Or.inr (Or.inr h4))
        · rw [nmQ_no h1 h2 h3 h4] at h
          exact absurd (by decide +kernel) h
theorem nm_dg {u : Nat} {b : Int32} (h : ¬ nmQ u b < 0) : ¬ dg b = true ∧ ¬ b = -1 := by
  rcases nm_b h with e | e | e | e <;> subst e <;> decide +kernel
section QP
variable {tp : Nat → Int32} {e u op p : Nat} {f : Nat → Nat → PS → PT} {s : Nat × (Nat → Int32)}
theorem qP_nm (h : ¬ nmQ u (pk tp e p) < 0) : qP tp e u f op (p, s) = .inr (p + 1, wrC s (-1 - nmQ u (pk tp e p))) := (if_neg (nm_dg h).1).trans (if_pos h)
theorem nm33 (hu : u = 0 ∨ u = 1) : ¬ ¬ nmQ u (nI 33) < 0 := by rcases hu with h | h <;> subst h <;> decide +kernel
theorem nm40 (hu : u = 0 ∨ u = 1) : ¬ ¬ nmQ u (nI 40) < 0 := by rcases hu with h | h <;> subst h <;> decide +kernel
theorem qP_33 (hu : u = 0 ∨ u = 1) (h : pk tp e p = nI 33) : qP tp e u f op (p, s) = if op < 5 then mB33 (f 5 (op + 1) (p + 1, s)) else .inl p := by
  unfold qP
  dsimp only
  rw [h, if_neg (show ¬ dg (nI 33) = true by decide +kernel), if_neg (nm33 hu)]
  by_cases hop : op < 5
  · rw [if_pos ⟨rfl, hop⟩, if_pos hop]
    cases f 5 (op + 1) (p + 1, s) <;> rfl
  · rw [if_neg (fun hh => hop hh.2), if_neg (fun hh => hop hh.2), if_neg hop]
theorem qP_40 (hu : u = 0 ∨ u = 1) (h : pk tp e p = nI 40) : qP tp e u f op (p, s) = if op < 5 then mB40 tp e (f 0 (op + 1) (p + 1, s)) else .inl p := by
  unfold qP
  dsimp only
  rw [h, if_neg (show ¬ dg (nI 40) = true by decide +kernel), if_neg (nm40 hu), if_neg (show ¬ (nI 40 = nI 33 ∧ op < 5) from fun hh => absurd hh.1 (by decide +kernel))]
  by_cases hop : op < 5
  · rw [if_pos ⟨rfl, hop⟩, if_pos hop]
    cases f 0 (op + 1) (p + 1, s) <;> rfl
  · rw [if_neg (fun hh => hop hh.2), if_neg hop]
theorem qP_nu (h1 : nmQ u (pk tp e p) < 0) (h2 : ¬ pk tp e p = nI 33) (h3 : ¬ pk tp e p = nI 40) : qP tp e u f op (p, s) = if dg (pk tp e p) = true then .inr ((pNum tp e 4 p (nI 0)).1, wrC s (pNum tp e 4 p (nI 0)).2) else .inl p := by
  unfold qP
  dsimp only
  by_cases hd : dg (pk tp e p) = true
  · rw [if_pos hd, if_pos hd]
  · rw [if_neg hd, if_neg hd, if_neg (fun hh => hh h1), if_neg (fun hh => h2 hh.1), if_neg (fun hh => h3 hh.1)]
end QP
theorem PY_none {X Z : Nat → Nat → Int32} {u e op : Nat} {t : PT} {r1 : Option Value} {r2 : ab_W} (h : PY X Z u e op t (r1, r2)) : r1 = none := by
  cases t with
  | inl x =>
    obtain ⟨y, _, _, e⟩ := h
    exact congrArg Prod.fst e
  | inr s =>
    obtain ⟨_, _, y, _, e⟩ := h
    exact congrArg Prod.fst e
set_option maxRecDepth 100000 in
set_option maxHeartbeats 4000000 in
theorem l_yPiece (d : Nat) (X Z : Nat → Nat → Int32) {u op e p : Nat} (hu : u = 0 ∨ u = 1) {f : Nat → Nat → PS → PT} (ht : ∀ k, isN ((jm (X 64) 9) k) 255) (hop : op ≤ 5) (he : X 64 5 = nI e) (he50 : e ≤ 50) (H5 : op < 5 → ∀ (p : Nat) (s : Nat × (Nat → Int32)) (y : YS), p ≤ e → s.1 ≤ 50 → CA s y → EC (d + 1) 158 [.ref 63] (Wd X (QZ Z u (op + 1) false p y)) (PY X Z u e (op + 1) (f 5 (op + 1) (p, s)))) (H0 : op < 5 → ∀ (p : Nat) (s : Nat × (Nat → Int32)) (y : YS), p ≤ e → s.1 ≤ 50 → CA s y → EC (d + 1) 153 [.ref 63] (Wd X (QZ Z u (op + 1) false p y)) (PY X Z u e (op + 1) (f 0 (op + 1) (p, s)))) (s : Nat × (Nat → Int32)) (y : YS) (hp : p ≤ e) (hs : s.1 ≤ 50) (hca : CA s y) : EC (d + 4) 158 [.ref 63] (Wd X (QZ Z u op false p y)) (PY X Z u e op (qP (jm (X 64) 9) e u f op (p, s))) := by
  refine er_enter (L := [(0, _)]) rfl rfl rfl ?_
  refine er_loc (pc' := 1) rfl rfl rfl ?_
  refine er_cIi (pc' := 4) (rest := []) 12 rfl rfl rfl rfl rfl rfl (l_yByte _ X _ he he50 hp) ?_
  refine er_loc (pc' := 5) (L' := [(1, _), (0, _)]) rfl rfl rfl ?_
  refine er_loc (pc' := 6) rfl rfl rfl ?_
  refine er_loc (pc' := 7) rfl rfl rfl ?_
  refine er_cIi (pc' := 10) (rest := []) 12 rfl rfl rfl rfl rfl rfl (l_yName _ X _ hu _) ?_
  refine er_loc (pc' := 11) (L' := [(2, _), (1, _), (0, _)]) rfl rfl rfl ?_
  refine er_loc (pc' := 12) rfl rfl rfl ?_
  refine er_if_lt (pc' := 15) rfl rfl (fun h12 => ?_) (fun h12 => ?_)
  · refine er_loc (pc' := 35) rfl rfl rfl ?_
    refine er_k (pc' := 37) (nI 33) rfl rfl rfl ?_
    refine er_cm_eq (pc' := 40) rfl rfl (fun h37 => ?_) (fun h37 => ?_)
    · refine er_loc (pc' := 47) rfl rfl rfl ?_
      refine er_loc (pc' := 48) rfl rfl rfl ?_
      rw [h37]
      refine er_cIP (pc' := 51) (rest := []) 12 rfl rfl rfl rfl rfl rfl ((l_yO33 d X Z hop he he50 H5 s y hp (fun _ => pkq_lt h37 (by decide +kernel)) hs hca).up (by omega)) (fun r hr => ?_)
      rw [← qP_33 (f := f) hu h37] at hr
      obtain ⟨r1, r2⟩ := r
      have hv : r1 = none := PY_none hr
      subst hv
      refine er_goto rfl ?_
      exact er_ret _ rfl rfl hr
    · refine er_loc (pc' := 41) rfl rfl rfl ?_
      refine er_k (pc' := 43) (nI 40) rfl rfl rfl ?_
      refine er_cm_ne (pc' := 46) rfl rfl (fun h43 => ?_) (fun h43 => ?_)
      · refine er_loc (pc' := 55) rfl rfl rfl ?_
        refine er_cIn (pc' := 58) (rest := []) 12 rfl rfl rfl rfl rfl rfl (l_yNum d X Z he he50 hp (hca.le hs)) ?_
        refine er_vret rfl rfl ?_
        rw [qP_nu h12 h37 h43]
        by_cases hd : dg (pk (jm (X 64) 9) e p) = true
        · rw [if_pos hd, if_pos hd]
          obtain ⟨_, q, _, hq⟩ := pNum_v ht 4 p 0 (by omega) (by omega)
          have hnn : ¬ (pNum (jm (X 64) 9) e 4 p (nI 0)).2 < 0 := by rw [hq]; exact nI_pos (by omega)
          exact PY_inr rfl (pNum_le 4 p (nI 0) hp) (wrC_le hs) (hca.wr (Or.inl ⟨rfl, hnn⟩) (cM_1 rfl))
        · rw [if_neg hd, if_neg hd]
          exact PY_inl rfl (wrY_le (hca.le hs)) hp
      · refine er_loc (pc' := 47) rfl rfl rfl ?_
        refine er_loc (pc' := 48) rfl rfl rfl ?_
        rw [h43]
        refine er_cIP (pc' := 51) (rest := []) 12 rfl rfl rfl rfl rfl rfl ((l_yO40 d X Z hop he he50 H0 s y hp (fun _ => pkq_lt h43 (by decide +kernel)) hs hca).up (by omega)) (fun r hr => ?_)
        rw [← qP_40 (f := f) hu h43] at hr
        obtain ⟨r1, r2⟩ := r
        have hv : r1 = none := PY_none hr
        subst hv
        refine er_goto rfl ?_
        exact er_ret _ rfl rfl hr
  · refine er_loc (pc' := 16) rfl rfl rfl ?_
    refine er_pure (pc' := 17) rfl rfl rfl ?_
    refine er_gf (pc' := 20) (.int (nI p)) rfl rfl rfl rfl rfl ?_
    refine er_k (pc' := 21) (nI 1) rfl rfl rfl ?_
    refine er_iadd (pc' := 22) rfl rfl ?_
    rw [nI_add p 1]
    refine er_pfIZ (pc' := 25) 10 rfl rfl rfl rfl rfl rfl ?_
    rw [QZ_p]
    refine er_loc (pc' := 26) rfl rfl rfl ?_
    refine er_k (pc' := 27) (nI 2) rfl rfl rfl ?_
    refine er_loc (pc' := 28) rfl rfl rfl ?_
    refine er_cIn (pc' := 31) (rest := []) 12 rfl rfl rfl rfl rfl rfl ((l_yLays (d + 2) X _ (hca.le hs) _ _).up (by omega)) ?_
    refine er_goto rfl ?_
    refine er_vret rfl rfl ?_
    exact PY_inr (qP_nm h12) (pkq_lt rfl (nm_dg h12).2) (wrC_le hs) (hca.wr (Or.inr (Or.inl ⟨rfl, nmQ_v h12⟩)) (cM_2 rfl))
theorem l_yq (X Z : Nat → Nat → Int32) {u e : Nat} (hu : u = 0 ∨ u = 1) (ht : ∀ k, isN ((jm (X 64) 9) k) 255) (he : X 64 5 = nI e) (he50 : e ≤ 50) : ∀ (F D : Nat), 3 * F + 6 ≤ D → ∀ (rk op p : Nat) (s : Nat × (Nat → Int32)) (y : YS), rk ≤ 5 → op ≤ 5 → (5 - op) * 6 + (5 - rk) + 1 ≤ F → p ≤ e → s.1 ≤ 50 → CA s y → EC D (153 + rk) [.ref 63] (Wd X (QZ Z u op false p y)) (PY X Z u e op (qq (jm (X 64) 9) e u F rk op (p, s)))
  | 0, D, _ => fun rk op p s y _ _ h => by omega
  | F + 1, D, hD => by
    obtain ⟨D, rfl⟩ : ∃ D', D = D' + 6 := ⟨D - 6, by omega⟩
    intro rk op p s y hrk hop hF hp hs hca
    have ih := l_yq X Z hu ht he he50 F
    have Hr : ∀ d', 3 * F + 6 ≤ d' → rk < 5 → ∀ (p : Nat) (s : Nat × (Nat → Int32)) (y : YS), p ≤ e → s.1 ≤ 50 → CA s y → EC d' (153 + (rk + 1)) [.ref 63] (Wd X (QZ Z u op false p y)) (PY X Z u e op (qq (jm (X 64) 9) e u F (rk + 1) op (p, s))) := fun d' hd' hr5 p s y h1 h2 h3 => ih d' hd' (rk + 1) op p s y (by omega) hop (by omega) h1 h2 h3
    have Hle : ∀ p s s', qq (jm (X 64) 9) e u F (rk + 1) op (p, s) = .inr s' → p ≤ s'.1 := fun p s s' => qq_le F (rk + 1) op p s s'
    by_cases h5 : rk = 5
    · subst h5
      rw [qq_P]
      exact (l_yPiece (D + 2) X Z hu ht hop he he50 (fun hlt p s y h1 h2 h3 => ih (D + 2 + 1) (by omega) 5 (op + 1) p s y (by omega) (by omega) (by omega) h1 h2 h3) (fun hlt p s y h1 h2 h3 => ih (D + 2 + 1) (by omega) 0 (op + 1) p s y (by omega) (by omega) (by omega) h1 h2 h3) s y hp hs hca)
    · rw [qq_R (by omega)]
      have hr5 : rk < 5 := by omega
      rcases lt5 hr5 with e0 | e0 | e0 | e0 | e0 <;> subst e0
      · exact l_yR0 (D + 4) X Z rfl he he50 (Hr (D + 5) (by omega) (by omega)) Hle s y hp hs hca
      · exact l_yR1 (D + 4) X Z rfl he he50 (Hr (D + 5) (by omega) (by omega)) Hle s y hp hs hca
      · exact l_yR2 (D + 4) X Z rfl he he50 (Hr (D + 5) (by omega) (by omega)) s y hp hs hca
      · exact l_yR3 (D + 4) X Z rfl he he50 (Hr (D + 5) (by omega) (by omega)) Hle s y hp hs hca
      · exact l_yR4 (D + 4) X Z rfl he he50 (Hr (D + 5) (by omega) (by omega)) Hle s y hp hs hca
