/-! JOBS: kinds, how long, what may be -/
theorem jn8 {T : Nat} {J : Nat → Nat → Int32} (hI : IJ T J) : jn J ≤ 8 := hI.n.2
theorem kind7 {T : Nat} {J : Nat → Nat → Int32} (hI : IJ T J) (k : Nat) : sKind J k < 7 := Nat.lt_succ_of_le (hI.kind k).2
theorem kindX {T b k : Nat} {X : Nat → Nat → Int32} (hI : IJ T (jx X b)) (h : k < 8) : X (b + 1) k = nI (sKind (jx X b) k) := by
  rw [← jx1 (X := X) h]
  exact (hI.kind k).1
theorem sIn_nI {a b c : Nat} (ha : a < 2 ^ 31) (hb : b < 2 ^ 31) (hc : c < 2 ^ 31) : sIn (nI a) (nI b) (nI c) = (decide (b ≤ a) && decide (a ≤ c)) := by
  unfold sIn
  have e1 : decide (nI a < nI b) = decide (a < b) := decide_eq_decide.mpr (nI_ltI ha hb)
  have e2 : decide (nI c < nI a) = decide (c < a) := decide_eq_decide.mpr (nI_ltI hc ha)
  rw [e1, e2]
  simp only [← decide_not, Nat.not_lt]
set_option maxRecDepth 100000 in
set_option maxHeartbeats 4000000 in
theorem l_kindOf (d : Nat) {b : Nat} (hb : jb b) (X Z : Nat → Nat → Int32) {T : Nat} (hI : IJ T (jx X b)) {k : Nat} (hk : k < jn (jx X b)) : EC (d + 2) 39 [.ref b, .int (nI k)] (Wd X Z) (PR (2 + sKind (jx X b) k) (Wd X Z)) := by
  refine er_enter (L := [(0, _), (1, _)]) rfl rfl rfl ?_
  have h8 := jn8 hI
  have hk8 : k < 8 := by omega
  have hq := kind7 hI k
  refine er_loc (pc' := 1) rfl rfl rfl ?_
  refine er_loc (pc' := 2) rfl rfl rfl ?_
  refine er_cIi (pc' := 5) (rest := []) 7 rfl rfl rfl (blt_J hb 0 rfl) (cO_J0 hb _ _) rfl (l_has_t _ hb _ _ hI hk) ?_
  refine er_if_eqF (pc' := 8) rfl (by decide +kernel) rfl ?_
  refine er_loc (pc' := 9) rfl rfl rfl ?_
  refine er_gf (pc' := 12) (_) rfl (blt_J hb 0 rfl) (cO_J0 hb _ _) rfl rfl ?_
  refine er_loc (pc' := 13) rfl rfl rfl ?_
  refine er_ia (pc' := 14) (k) rfl (blt_J hb 1 rfl) (cO_J1 hb _ _) rfl (by omega) rfl rfl ?_
  rw [kindX hI hk8]
  refine er_goto rfl ?_
  refine er_loc (pc' := 19) (L' := [(2, _), (0, _), (1, _)]) rfl rfl rfl ?_
  refine er_loc (pc' := 20) rfl rfl rfl ?_
  refine er_gf (pc' := 23) (_) rfl (blt_J hb 0 rfl) (cO_J0 hb _ _) rfl rfl ?_
  refine er_loc (pc' := 24) rfl rfl rfl ?_
  refine er_k (pc' := 25) (nI 0) rfl rfl rfl ?_
  refine er_loc (pc' := 26) rfl rfl rfl ?_
  refine er_gf (pc' := 29) (_) rfl (blt_J hb 0 rfl) (cO_J0 hb _ _) rfl rfl ?_
  refine er_alq (pc' := 30) rfl rfl rfl rfl rfl ?_
  refine er_k (pc' := 31) (nI 1) rfl rfl rfl ?_
  refine er_isub (pc' := 32) rfl rfl ?_
  refine er_cSi (pc' := 35) (rest := [_]) rfl rfl rfl (l_within _ _ _ _ _) ?_
  rw [show nI 7 - nI 1 = nI 6 from by decide +kernel, sIn_nI (by omega) (by omega) (by omega), decide_eq_true (Nat.zero_le _), decide_eq_true (show sKind (jx X b) k ≤ 6 by omega)]
  refine er_if_eqF (pc' := 38) rfl (by decide +kernel) rfl ?_
  refine er_loc (pc' := 39) rfl rfl rfl ?_
  refine er_goto rfl ?_
  refine er_aa (pc' := 44) ((sKind (jx X b) k)) rfl rfl rfl rfl rfl hq rfl rfl ?_
  refine er_ret _ rfl rfl ?_
  exact rfl
set_option maxRecDepth 100000 in
set_option maxHeartbeats 4000000 in
theorem l_lasts (d : Nat) {b : Nat} (hb : jb b) (X Z : Nat → Nat → Int32) {T : Nat} (hI : IJ T (jx X b)) {k : Nat} (hk : k < jn (jx X b)) : EC (d + 4) 36 [.ref b, .int (nI k)] (Wd X Z) (RI (sLasts (jx X b) k) X) := by
  refine er_enter (L := [(0, _), (1, _)]) rfl rfl rfl ?_
  have h8 := jn8 hI
  have hk8 : k < 8 := by omega
  have hq := kind7 hI k
  refine er_loc (pc' := 1) rfl rfl rfl ?_
  refine er_loc (pc' := 2) rfl rfl rfl ?_
  refine er_cIi (pc' := 5) (rest := []) 7 rfl rfl rfl (blt_J hb 0 rfl) (cO_J0 hb _ _) rfl (l_has_t _ hb _ _ hI hk) ?_
  refine er_if_neT rfl (by decide +kernel) ?_
  refine er_loc (pc' := 11) rfl rfl rfl ?_
  refine er_loc (pc' := 12) rfl rfl rfl ?_
  refine er_gf (pc' := 15) (_) rfl (blt_J hb 0 rfl) (cO_J0 hb _ _) rfl rfl ?_
  refine er_loc (pc' := 16) rfl rfl rfl ?_
  refine er_ia (pc' := 17) (k) rfl (blt_J hb 3 rfl) (cO_J3 hb _ _) rfl (by omega) rfl rfl ?_
  refine er_loc (pc' := 18) rfl rfl rfl ?_
  refine er_gf (pc' := 21) (_) rfl (blt_J hb 0 rfl) (cO_J0 hb _ _) rfl rfl ?_
  refine er_loc (pc' := 22) rfl rfl rfl ?_
  refine er_ia (pc' := 23) (k) rfl (blt_J hb 2 rfl) (cO_J2 hb _ _) rfl (by omega) rfl rfl ?_
  refine er_loc (pc' := 24) rfl rfl rfl ?_
  refine er_cIi (pc' := 27) (rest := [_, _, _]) 7 rfl rfl rfl (blt_J hb 0 rfl) (cO_J0 hb _ _) rfl (l_tired _ hb _ _) ?_
  refine er_cIz (pc' := 30) (rest := []) 7 rfl rfl rfl (blt_J hb 0 rfl) (cO_J0 hb _ _) rfl (l_lastsBy _ hb _ _ hI _ _ _) ?_
  intro Z1
  refine er_loc (pc' := 31) (L' := [(2, _), (0, _), (1, _)]) rfl rfl rfl ?_
  refine er_loc (pc' := 32) rfl rfl rfl ?_
  refine er_loc (pc' := 33) rfl rfl rfl ?_
  refine er_cIr (pc' := 36) (rest := []) 7 rfl rfl rfl (blt_J hb 0 rfl) (cO_J0 hb _ _) rfl (l_kindOf _ hb _ _ hI hk) ?_
  refine er_loc (pc' := 37) rfl rfl rfl ?_
  refine er_loc (pc' := 38) rfl rfl rfl ?_
  refine er_gf (pc' := 41) (_) rfl (blt_J hb 0 rfl) (cO_J0 hb _ _) rfl rfl ?_
  refine er_loc (pc' := 42) rfl rfl rfl ?_
  refine er_gf (pc' := 45) (_) rfl (blt_J hb 0 rfl) (cO_J0 hb _ _) rfl rfl ?_
  refine er_loc (pc' := 46) rfl rfl rfl ?_
  refine er_ia (pc' := 47) (k) rfl (blt_J hb 2 rfl) (cO_J2 hb _ _) rfl (by omega) rfl rfl ?_
  refine er_loc (pc' := 48) rfl rfl rfl ?_
  refine er_gf (pc' := 51) (_) rfl (blt_J hb 0 rfl) (cO_J0 hb _ _) rfl rfl ?_
  refine er_loc (pc' := 52) rfl rfl rfl ?_
  refine er_ia (pc' := 53) (k) rfl (blt_J hb 3 rfl) (cO_J3 hb _ _) rfl (by omega) rfl rfl ?_
  refine er_cIi (pc' := 56) (rest := []) (sKind (jx X b) k) rfl rfl (by rcases lt7 hq with e | e | e | e | e | e | e <;> rw [e] <;> rfl) (blt_S hq) (cO_S hq _ _) rfl (l_lasting _ _ _ _ _ _ _ _ hq) ?_
  refine er_iret rfl rfl ?_
  refine RI_of ?_ rfl
  unfold sLasts
  rw [jx2 hk8, jx3 hk8]
  rfl
set_option maxRecDepth 100000 in
set_option maxHeartbeats 4000000 in
theorem l_takesBack (d : Nat) {b : Nat} (hb : jb b) (X Z : Nat → Nat → Int32) {T : Nat} (hI : IJ T (jx X b)) {k : Nat} (hk : k < jn (jx X b)) : EC (d + 5) 40 [.ref b, .int (nI k)] (Wd X Z) (RI (sBack (jx X b) k) X) := by
  refine er_enter (L := [(0, _), (1, _)]) rfl rfl rfl ?_
  have h8 := jn8 hI
  have hk8 : k < 8 := by omega
  have hq := kind7 hI k
  refine er_loc (pc' := 1) rfl rfl rfl ?_
  refine er_loc (pc' := 2) rfl rfl rfl ?_
  refine er_cIr (pc' := 5) (rest := []) 7 rfl rfl rfl (blt_J hb 0 rfl) (cO_J0 hb _ _) rfl (l_kindOf _ hb _ _ hI hk) ?_
  refine er_loc (pc' := 6) rfl rfl rfl ?_
  refine er_loc (pc' := 7) rfl rfl rfl ?_
  refine er_cIz (pc' := 10) (rest := [_]) 7 rfl rfl rfl (blt_J hb 0 rfl) (cO_J0 hb _ _) rfl (l_lasts _ hb _ _ hI hk) ?_
  intro Z2
  refine er_cIi (pc' := 13) (rest := []) (sKind (jx X b) k) rfl rfl (by rcases lt7 hq with e | e | e | e | e | e | e <;> rw [e] <;> rfl) (blt_S hq) (cO_S hq _ _) rfl (l_backOf _ _ _ _ hq) ?_
  refine er_iret rfl rfl ?_
  exact RI_of rfl rfl
set_option maxRecDepth 100000 in
set_option maxHeartbeats 4000000 in
theorem l_mayBeDone (d : Nat) {b : Nat} (hb : jb b) (X Z : Nat → Nat → Int32) {T : Nat} (hI : IJ T (jx X b)) {k : Nat} (hk : k < jn (jx X b)) : EC (d + 3) 41 [.ref b, .int (nI k)] (Wd X Z) (PI (bI (sMayDo (jx X b) k)) (Wd X Z)) := by
  refine er_enter (L := [(0, _), (1, _)]) rfl rfl rfl ?_
  have h8 := jn8 hI
  have hk8 : k < 8 := by omega
  have hq := kind7 hI k
  refine er_loc (pc' := 1) rfl rfl rfl ?_
  refine er_loc (pc' := 2) rfl rfl rfl ?_
  refine er_cIi (pc' := 5) (rest := []) 7 rfl rfl rfl (blt_J hb 0 rfl) (cO_J0 hb _ _) rfl (l_has_t _ hb _ _ hI hk) ?_
  refine er_if_eqF (pc' := 8) rfl (by decide +kernel) rfl ?_
  refine er_loc (pc' := 9) rfl rfl rfl ?_
  refine er_loc (pc' := 10) rfl rfl rfl ?_
  refine er_cIi (pc' := 13) (rest := []) 7 rfl rfl rfl (blt_J hb 0 rfl) (cO_J0 hb _ _) rfl (l_isDone _ hb _ _ _) ?_
  refine er_if_eqb (pc' := 16) rfl rfl (fun h13 => ?_) (fun h13 => ?_)
  · refine er_loc (pc' := 19) rfl rfl rfl ?_
    refine er_gf (pc' := 22) (_) rfl (blt_J hb 0 rfl) (cO_J0 hb _ _) rfl rfl ?_
    refine er_loc (pc' := 23) rfl rfl rfl ?_
    refine er_ia (pc' := 24) (k) rfl (blt_J hb 4 rfl) (cO_J4 hb _ _) rfl (by omega) rfl rfl ?_
    refine er_loc (pc' := 25) rfl rfl rfl ?_
    refine er_gf (pc' := 28) (_) rfl (blt_J hb 0 rfl) (cO_J0 hb _ _) rfl rfl ?_
    refine er_k (pc' := 29) (-1) rfl rfl rfl ?_
    refine er_ixor (pc' := 30) rfl rfl ?_
    refine er_iand (pc' := 31) rfl rfl ?_
    refine er_if_ne (pc' := 34) rfl rfl (fun h31 => ?_) (fun h31 => ?_)
    · refine er_k (pc' := 52) (nI 0) rfl rfl rfl ?_
      refine er_loc (pc' := 53) (L' := [(2, _), (0, _), (1, _)]) rfl rfl rfl ?_
      refine er_loc (pc' := 54) rfl rfl rfl ?_
      refine er_if_eqT rfl (by decide +kernel) ?_
      refine er_k (pc' := 77) (nI 0) rfl rfl rfl ?_
      refine er_ret _ rfl rfl ?_
      exact PI_of (bI_eq0 (by simp only [sMayDo, sReady, sDone, jx4 hk8, jx3 hk8, jx06, jx09, jx08]; simp_all))
    · refine er_loc (pc' := 35) rfl rfl rfl ?_
      refine er_gf (pc' := 38) (_) rfl (blt_J hb 0 rfl) (cO_J0 hb _ _) rfl rfl ?_
      refine er_loc (pc' := 39) rfl rfl rfl ?_
      refine er_gf (pc' := 42) (_) rfl (blt_J hb 0 rfl) (cO_J0 hb _ _) rfl rfl ?_
      refine er_loc (pc' := 43) rfl rfl rfl ?_
      refine er_ia (pc' := 44) (k) rfl (blt_J hb 3 rfl) (cO_J3 hb _ _) rfl (by omega) rfl rfl ?_
      refine er_cm_lt (pc' := 47) rfl rfl (fun h44 => ?_) (fun h44 => ?_)
      · refine er_k (pc' := 52) (nI 0) rfl rfl rfl ?_
        refine er_loc (pc' := 53) (L' := [(2, _), (0, _), (1, _)]) rfl rfl rfl ?_
        refine er_loc (pc' := 54) rfl rfl rfl ?_
        refine er_if_eqT rfl (by decide +kernel) ?_
        refine er_k (pc' := 77) (nI 0) rfl rfl rfl ?_
        refine er_ret _ rfl rfl ?_
        exact PI_of (bI_eq0 (by simp only [sMayDo, sReady, sDone, jx4 hk8, jx3 hk8, jx06, jx09, jx08]; simp_all))
      · refine er_k (pc' := 48) (nI 1) rfl rfl rfl ?_
        refine er_goto rfl ?_
        refine er_loc (pc' := 53) (L' := [(2, _), (0, _), (1, _)]) rfl rfl rfl ?_
        refine er_loc (pc' := 54) rfl rfl rfl ?_
        refine er_if_eqF (pc' := 57) rfl (by decide +kernel) rfl ?_
        refine er_loc (pc' := 58) rfl rfl rfl ?_
        refine er_gf (pc' := 61) (_) rfl (blt_J hb 0 rfl) (cO_J0 hb _ _) rfl rfl ?_
        refine er_loc (pc' := 62) rfl rfl rfl ?_
        refine er_loc (pc' := 63) rfl rfl rfl ?_
        refine er_cIr (pc' := 66) (rest := [_]) 7 rfl rfl rfl (blt_J hb 0 rfl) (cO_J0 hb _ _) rfl (l_kindOf _ hb _ _ hI hk) ?_
        refine er_cIi (pc' := 69) (rest := [_]) (sKind (jx X b) k) rfl rfl (by rcases lt7 hq with e | e | e | e | e | e | e <;> rw [e] <;> rfl) (blt_S hq) (cO_S hq _ _) rfl (l_handsOf _ _ _ hq) ?_
        refine er_cm_lt (pc' := 72) rfl rfl (fun h69 => ?_) (fun h69 => ?_)
        · refine er_k (pc' := 77) (nI 0) rfl rfl rfl ?_
          refine er_ret _ rfl rfl ?_
          exact PI_of (bI_eq0 (by simp only [sMayDo, sReady, sDone, jx4 hk8, jx3 hk8, jx06, jx09, jx08]; simp_all))
        · refine er_k (pc' := 73) (nI 1) rfl rfl rfl ?_
          refine er_goto rfl ?_
          refine er_ret _ rfl rfl ?_
          exact PI_of (bI_eq1 (by simp only [sMayDo, sReady, sDone, jx4 hk8, jx3 hk8, jx06, jx09, jx08]; rw [decide_eq_true hk, h13, decide_eq_true h31, decide_eq_false h44, decide_eq_false h69]; rfl))
  · refine er_k (pc' := 17) (nI 0) rfl rfl rfl ?_
    refine er_ret _ rfl rfl ?_
    exact PI_of (bI_eq0 (by simp only [sMayDo, sReady, sDone, jx4 hk8, jx3 hk8, jx06, jx09, jx08]; simp_all))
