/-! THE REFERENCE, its face: move, the trace, voices -/
def yMay (g e : Nat) (i j n : Int32) : Bool := !decide (n < 0) && !decide (i < 0) && !decide (j < 0) && !decide (nI g - i < n) && !decide (nI e - j < n)
theorem stand_nat {g : Nat} (hg : g ≤ 40) {i n : Int32} : sStand g i n = (!decide (n < 0) && !decide (i < 0) && !decide (nI g - i < n)) := by
  unfold sStand sIn
  have e0 : (nI 0 : Int32) = 0 := by decide +kernel
  rw [e0]
  by_cases hi : i < 0
  · rw [decide_eq_true hi]; simp
  · by_cases hn : n < 0
    · rw [decide_eq_true hn]; simp
    · rw [decide_eq_false hi, decide_eq_false hn]
      obtain ⟨a, ha, rfl⟩ := nI_of hi
      obtain ⟨b, hb, rfl⟩ := nI_of hn
      by_cases h : g < a
      · rw [decide_eq_true (nI_lt h ha)]
        have h2 : nI g - nI a < nI b := by
          rw [I_lt, Int32.toInt_sub, nI_toInt (by omega), nI_toInt ha, nI_toInt hb]
          rw [show ((g : Int) - (a : Int)).bmod (2 ^ 32) = (g : Int) - (a : Int) from Int.bmod_eq_of_le (by omega) (by omega)]
          omega
        rw [decide_eq_true h2]
        rfl
      · rw [decide_eq_false (nI_nlt (by omega) (by omega))]
        simp
theorem may_eq {g e : Nat} (hg : g ≤ 40) (he : e ≤ 40) {i j n : Int32} : yMay g e i j n = (sStand g i n && sStand e j n) := by
  rw [stand_nat hg, stand_nat he]
  unfold yMay
  cases decide (n < 0) <;> cases decide (i < 0) <;> cases decide (j < 0) <;> cases decide (nI g - i < n) <;> cases decide (nI e - j < n) <;> rfl
theorem stand_ex {g : Nat} (hg : g ≤ 40) {i n : Int32} (h : sStand g i n = true) : ∃ a b, a + b ≤ g ∧ i = nI a ∧ n = nI b := by
  unfold sStand at h
  rw [Bool.and_eq_true] at h
  obtain ⟨a, _, ha, rfl⟩ := sIn_ex (by omega) (by omega) h.1
  have h2 := h.2
  rw [nI_sub ha] at h2
  obtain ⟨b, _, hb, rfl⟩ := sIn_ex (by omega) (by omega) h2
  exact ⟨a, b, by omega, rfl, rfl⟩
set_option maxRecDepth 100000 in
set_option maxHeartbeats 4000000 in
theorem l_rNm_s (d : Nat) (X Z : Nat → Nat → Int32) (s i p j n : Int32) (hs : (sIn s (nI 0) (nI 3) && sIn p (nI 0) (nI 3)) = false) : EC (d + 3) 217 [.ref 63, .int s, .int i, .int p, .int j, .int n] (Wd X Z) (PI (-1000000001) (Wd X Z)) := by
  refine er_enter (L := [(0, _), (1, _), (2, _), (3, _), (4, _), (5, _)]) rfl rfl rfl ?_
  refine er_loc (pc' := 1) rfl rfl rfl ?_
  refine er_cSi (pc' := 4) (rest := []) rfl rfl rfl (l_mSheet _ _ _) ?_
  refine er_if_eqb (pc' := 7) rfl rfl (fun h4 => ?_) (fun h4 => ?_)
  · refine er_ldc (pc' := 16) (-1000000001) rfl rfl rfl rfl rfl ?_
    refine er_iret rfl rfl ?_
    exact PI_of rfl
  · refine er_loc (pc' := 8) rfl rfl rfl ?_
    refine er_cSi (pc' := 11) (rest := []) rfl rfl rfl (l_mSheet _ _ _) ?_
    refine er_if_neb (pc' := 14) rfl rfl (fun h11 => ?_) (fun h11 => ?_)
    · exact absurd hs (by rw [h4, h11]; decide)
    · refine er_ldc (pc' := 16) (-1000000001) rfl rfl rfl rfl rfl ?_
      refine er_iret rfl rfl ?_
      exact PI_of rfl
set_option maxRecDepth 100000 in
set_option maxHeartbeats 4000000 in
theorem l_rNm_0 (d : Nat) (X Z : Nat → Nat → Int32) {a p : Nat} (ha : a < 4) (hp : p < 4) (i j n : Int32) (hb : X 76 a = 0 ∨ X 76 p = 0) : EC (d + 3) 217 [.ref 63, .int (nI a), .int i, .int (nI p), .int j, .int n] (Wd X Z) (PI (-1000000002) (Wd X Z)) := by
  refine er_enter (L := [(0, _), (1, _), (2, _), (3, _), (4, _), (5, _)]) rfl rfl rfl ?_
  refine er_loc (pc' := 1) rfl rfl rfl ?_
  refine er_cSi (pc' := 4) (rest := []) rfl rfl rfl (l_mSheet _ _ _) ?_
  rw [sIn_t (Nat.zero_le _) (show _ ≤ 3 by omega) (by omega)]
  refine er_if_eqF (pc' := 7) rfl (by decide +kernel) rfl ?_
  refine er_loc (pc' := 8) rfl rfl rfl ?_
  refine er_cSi (pc' := 11) (rest := []) rfl rfl rfl (l_mSheet _ _ _) ?_
  rw [sIn_t (Nat.zero_le _) (show _ ≤ 3 by omega) (by omega)]
  refine er_if_neT rfl (by decide +kernel) ?_
  refine er_loc (pc' := 18) rfl rfl rfl ?_
  refine er_gf (pc' := 21) (_) rfl rfl rfl rfl rfl ?_
  refine er_loc (pc' := 22) rfl rfl rfl ?_
  refine er_ia (pc' := 23) (a) rfl rfl rfl rfl ha rfl rfl ?_
  refine er_if_eq (pc' := 26) rfl rfl (fun h23 => ?_) (fun h23 => ?_)
  · refine er_ldc (pc' := 37) (-1000000002) rfl rfl rfl rfl rfl ?_
    refine er_iret rfl rfl ?_
    exact PI_of rfl
  · refine er_loc (pc' := 27) rfl rfl rfl ?_
    refine er_gf (pc' := 30) (_) rfl rfl rfl rfl rfl ?_
    refine er_loc (pc' := 31) rfl rfl rfl ?_
    refine er_ia (pc' := 32) (p) rfl rfl rfl rfl hp rfl rfl ?_
    refine er_if_ne (pc' := 35) rfl rfl (fun h32 => ?_) (fun h32 => ?_)
    · rcases hb with hb | hb; exact absurd hb h23; exact absurd hb h32
    · refine er_ldc (pc' := 37) (-1000000002) rfl rfl rfl rfl rfl ?_
      refine er_iret rfl rfl ?_
      exact PI_of rfl
set_option maxRecDepth 100000 in
set_option maxHeartbeats 4000000 in
theorem l_rNm_k (d : Nat) (X Z : Nat → Nat → Int32) {a p : Nat} (ha : a < 4) (hp : p < 4) (i j n : Int32) (hb1 : ¬ X 76 a = 0) (hb2 : ¬ X 76 p = 0) (hne : ¬ X 76 a = X 76 p) : EC (d + 3) 217 [.ref 63, .int (nI a), .int i, .int (nI p), .int j, .int n] (Wd X Z) (PI (-1000000005) (Wd X Z)) := by
  refine er_enter (L := [(0, _), (1, _), (2, _), (3, _), (4, _), (5, _)]) rfl rfl rfl ?_
  refine er_loc (pc' := 1) rfl rfl rfl ?_
  refine er_cSi (pc' := 4) (rest := []) rfl rfl rfl (l_mSheet _ _ _) ?_
  rw [sIn_t (Nat.zero_le _) (show _ ≤ 3 by omega) (by omega)]
  refine er_if_eqF (pc' := 7) rfl (by decide +kernel) rfl ?_
  refine er_loc (pc' := 8) rfl rfl rfl ?_
  refine er_cSi (pc' := 11) (rest := []) rfl rfl rfl (l_mSheet _ _ _) ?_
  rw [sIn_t (Nat.zero_le _) (show _ ≤ 3 by omega) (by omega)]
  refine er_if_neT rfl (by decide +kernel) ?_
  refine er_loc (pc' := 18) rfl rfl rfl ?_
  refine er_gf (pc' := 21) (_) rfl rfl rfl rfl rfl ?_
  refine er_loc (pc' := 22) rfl rfl rfl ?_
  refine er_ia (pc' := 23) (a) rfl rfl rfl rfl ha rfl rfl ?_
  refine er_if_eqF (pc' := 26) rfl (hb1) rfl ?_
  refine er_loc (pc' := 27) rfl rfl rfl ?_
  refine er_gf (pc' := 30) (_) rfl rfl rfl rfl rfl ?_
  refine er_loc (pc' := 31) rfl rfl rfl ?_
  refine er_ia (pc' := 32) (p) rfl rfl rfl rfl hp rfl rfl ?_
  refine er_if_neT rfl (hb2) ?_
  refine er_loc (pc' := 39) rfl rfl rfl ?_
  refine er_gf (pc' := 42) (_) rfl rfl rfl rfl rfl ?_
  refine er_loc (pc' := 43) rfl rfl rfl ?_
  refine er_ia (pc' := 44) (a) rfl rfl rfl rfl (by omega) rfl rfl ?_
  refine er_loc (pc' := 45) rfl rfl rfl ?_
  refine er_gf (pc' := 48) (_) rfl rfl rfl rfl rfl ?_
  refine er_loc (pc' := 49) rfl rfl rfl ?_
  refine er_ia (pc' := 50) (p) rfl rfl rfl rfl hp rfl rfl ?_
  refine er_cm_eqF (pc' := 53) rfl (hne) rfl ?_
  refine er_ldc (pc' := 55) (-1000000005) rfl rfl rfl rfl rfl ?_
  refine er_iret rfl rfl ?_
  exact PI_of rfl
set_option maxRecDepth 100000 in
set_option maxHeartbeats 4000000 in
theorem l_rNm (d : Nat) (X Z : Nat → Nat → Int32) {a p : Nat} (ha : a < 4) (hp : p < 4) (i j n : Int32) (hb1 : ¬ X 76 a = 0) (hb2 : ¬ X 76 p = 0) (heq : X 76 a = X 76 p) {g e : Nat} (hg : X 77 a = nI g) (he : X 77 p = nI e) : EC (d + 3) 217 [.ref 63, .int (nI a), .int i, .int (nI p), .int j, .int n] (Wd X Z) (PI (cond (yMay g e i j n) (nI 0) (-1000000001)) (Wd X Z)) := by
  refine er_enter (L := [(0, _), (1, _), (2, _), (3, _), (4, _), (5, _)]) rfl rfl rfl ?_
  refine er_loc (pc' := 1) rfl rfl rfl ?_
  refine er_cSi (pc' := 4) (rest := []) rfl rfl rfl (l_mSheet _ _ _) ?_
  rw [sIn_t (Nat.zero_le _) (show _ ≤ 3 by omega) (by omega)]
  refine er_if_eqF (pc' := 7) rfl (by decide +kernel) rfl ?_
  refine er_loc (pc' := 8) rfl rfl rfl ?_
  refine er_cSi (pc' := 11) (rest := []) rfl rfl rfl (l_mSheet _ _ _) ?_
  rw [sIn_t (Nat.zero_le _) (show _ ≤ 3 by omega) (by omega)]
  refine er_if_neT rfl (by decide +kernel) ?_
  refine er_loc (pc' := 18) rfl rfl rfl ?_
  refine er_gf (pc' := 21) (_) rfl rfl rfl rfl rfl ?_
  refine er_loc (pc' := 22) rfl rfl rfl ?_
  refine er_ia (pc' := 23) (a) rfl rfl rfl rfl ha rfl rfl ?_
  refine er_if_eqF (pc' := 26) rfl (hb1) rfl ?_
  refine er_loc (pc' := 27) rfl rfl rfl ?_
  refine er_gf (pc' := 30) (_) rfl rfl rfl rfl rfl ?_
  refine er_loc (pc' := 31) rfl rfl rfl ?_
  refine er_ia (pc' := 32) (p) rfl rfl rfl rfl hp rfl rfl ?_
  refine er_if_neT rfl (hb2) ?_
  refine er_loc (pc' := 39) rfl rfl rfl ?_
  refine er_gf (pc' := 42) (_) rfl rfl rfl rfl rfl ?_
  refine er_loc (pc' := 43) rfl rfl rfl ?_
  refine er_ia (pc' := 44) (a) rfl rfl rfl rfl (by omega) rfl rfl ?_
  refine er_loc (pc' := 45) rfl rfl rfl ?_
  refine er_gf (pc' := 48) (_) rfl rfl rfl rfl rfl ?_
  refine er_loc (pc' := 49) rfl rfl rfl ?_
  refine er_ia (pc' := 50) (p) rfl rfl rfl rfl hp rfl rfl ?_
  refine er_cm_eqT rfl (heq) ?_
  refine er_loc (pc' := 58) rfl rfl rfl ?_
  refine er_if_lt (pc' := 61) rfl rfl (fun h58 => ?_) (fun h58 => ?_)
  · refine er_k (pc' := 102) (nI 0) rfl rfl rfl ?_
    refine er_loc (pc' := 104) (L' := [(6, _), (0, _), (1, _), (2, _), (3, _), (4, _), (5, _)]) rfl rfl rfl ?_
    refine er_loc (pc' := 106) rfl rfl rfl ?_
    refine er_if_eqT rfl (by decide +kernel) ?_
    refine er_ldc (pc' := 115) (-1000000001) rfl rfl rfl rfl rfl ?_
    refine er_iret rfl rfl ?_
    have e : yMay g e i j n = false := by unfold yMay; rw [decide_eq_true h58]; simp
    rw [e]
    exact PI_of rfl
  · refine er_loc (pc' := 62) rfl rfl rfl ?_
    refine er_if_lt (pc' := 65) rfl rfl (fun h62 => ?_) (fun h62 => ?_)
    · refine er_k (pc' := 102) (nI 0) rfl rfl rfl ?_
      refine er_loc (pc' := 104) (L' := [(6, _), (0, _), (1, _), (2, _), (3, _), (4, _), (5, _)]) rfl rfl rfl ?_
      refine er_loc (pc' := 106) rfl rfl rfl ?_
      refine er_if_eqT rfl (by decide +kernel) ?_
      refine er_ldc (pc' := 115) (-1000000001) rfl rfl rfl rfl rfl ?_
      refine er_iret rfl rfl ?_
      have e : yMay g e i j n = false := by unfold yMay; rw [decide_eq_true h62]; simp
      rw [e]
      exact PI_of rfl
    · refine er_loc (pc' := 67) rfl rfl rfl ?_
      refine er_if_lt (pc' := 70) rfl rfl (fun h67 => ?_) (fun h67 => ?_)
      · refine er_k (pc' := 102) (nI 0) rfl rfl rfl ?_
        refine er_loc (pc' := 104) (L' := [(6, _), (0, _), (1, _), (2, _), (3, _), (4, _), (5, _)]) rfl rfl rfl ?_
        refine er_loc (pc' := 106) rfl rfl rfl ?_
        refine er_if_eqT rfl (by decide +kernel) ?_
        refine er_ldc (pc' := 115) (-1000000001) rfl rfl rfl rfl rfl ?_
        refine er_iret rfl rfl ?_
        have e : yMay g e i j n = false := by unfold yMay; rw [decide_eq_true h67]; simp
        rw [e]
        exact PI_of rfl
      · refine er_loc (pc' := 72) rfl rfl rfl ?_
        refine er_loc (pc' := 73) rfl rfl rfl ?_
        refine er_gf (pc' := 76) (_) rfl rfl rfl rfl rfl ?_
        refine er_loc (pc' := 77) rfl rfl rfl ?_
        refine er_ia (pc' := 78) (a) rfl rfl rfl rfl (by omega) rfl rfl ?_
        rw [hg]
        refine er_loc (pc' := 79) rfl rfl rfl ?_
        refine er_isub (pc' := 80) rfl rfl ?_
        refine er_cm_gt (pc' := 83) rfl rfl (fun h80 => ?_) (fun h80 => ?_)
        · refine er_k (pc' := 102) (nI 0) rfl rfl rfl ?_
          refine er_loc (pc' := 104) (L' := [(6, _), (0, _), (1, _), (2, _), (3, _), (4, _), (5, _)]) rfl rfl rfl ?_
          refine er_loc (pc' := 106) rfl rfl rfl ?_
          refine er_if_eqT rfl (by decide +kernel) ?_
          refine er_ldc (pc' := 115) (-1000000001) rfl rfl rfl rfl rfl ?_
          refine er_iret rfl rfl ?_
          have e : yMay g e i j n = false := by unfold yMay; rw [decide_eq_true h80]; simp
          rw [e]
          exact PI_of rfl
        · refine er_loc (pc' := 85) rfl rfl rfl ?_
          refine er_loc (pc' := 86) rfl rfl rfl ?_
          refine er_gf (pc' := 89) (_) rfl rfl rfl rfl rfl ?_
          refine er_loc (pc' := 90) rfl rfl rfl ?_
          refine er_ia (pc' := 91) (p) rfl rfl rfl rfl (by omega) rfl rfl ?_
          rw [he]
          refine er_loc (pc' := 93) rfl rfl rfl ?_
          refine er_isub (pc' := 94) rfl rfl ?_
          refine er_cm_gt (pc' := 97) rfl rfl (fun h94 => ?_) (fun h94 => ?_)
          · refine er_k (pc' := 102) (nI 0) rfl rfl rfl ?_
            refine er_loc (pc' := 104) (L' := [(6, _), (0, _), (1, _), (2, _), (3, _), (4, _), (5, _)]) rfl rfl rfl ?_
            refine er_loc (pc' := 106) rfl rfl rfl ?_
            refine er_if_eqT rfl (by decide +kernel) ?_
            refine er_ldc (pc' := 115) (-1000000001) rfl rfl rfl rfl rfl ?_
            refine er_iret rfl rfl ?_
            have e : yMay g e i j n = false := by unfold yMay; rw [decide_eq_true h94]; simp
            rw [e]
            exact PI_of rfl
          · refine er_k (pc' := 98) (nI 1) rfl rfl rfl ?_
            refine er_goto rfl ?_
            refine er_loc (pc' := 104) (L' := [(6, _), (0, _), (1, _), (2, _), (3, _), (4, _), (5, _)]) rfl rfl rfl ?_
            refine er_loc (pc' := 106) rfl rfl rfl ?_
            refine er_if_eqF (pc' := 109) rfl (by decide +kernel) rfl ?_
            refine er_k (pc' := 110) (nI 0) rfl rfl rfl ?_
            refine er_goto rfl ?_
            refine er_iret rfl rfl ?_
            have e : yMay g e i j n = true := by unfold yMay; rw [decide_eq_false h58, decide_eq_false h62, decide_eq_false h67, decide_eq_false h80, decide_eq_false h94]; rfl
            rw [e]
            exact PI_of rfl
set_option maxRecDepth 100000 in
set_option maxHeartbeats 4000000 in
theorem l_rMove_no (d : Nat) (X Z : Nat → Nat → Int32) (s i p j n : Int32) (hs : (sIn s (nI 0) (nI 3) && sIn p (nI 0) (nI 3)) = false) : EC (d + 4) 216 [.ref 63, .int s, .int i, .int p, .int j, .int n] (Wd X Z) (RI (sErr 1) (yErr X 1)) := by
  refine er_enter (L := [(0, _), (1, _), (2, _), (3, _), (4, _), (5, _)]) rfl rfl rfl ?_
  refine er_loc (pc' := 1) rfl rfl rfl ?_
  refine er_loc (pc' := 2) rfl rfl rfl ?_
  refine er_loc (pc' := 3) rfl rfl rfl ?_
  refine er_loc (pc' := 4) rfl rfl rfl ?_
  refine er_loc (pc' := 6) rfl rfl rfl ?_
  refine er_loc (pc' := 8) rfl rfl rfl ?_
  refine er_cIi (pc' := 11) (rest := []) 12 rfl rfl rfl rfl rfl rfl (l_rNm_s _ _ _ _ _ _ _ _ hs) ?_
  refine er_loc (pc' := 13) (L' := [(6, _), (0, _), (1, _), (2, _), (3, _), (4, _), (5, _)]) rfl rfl rfl ?_
  refine er_loc (pc' := 15) rfl rfl rfl ?_
  refine er_if_eqF (pc' := 18) rfl (by decide +kernel) rfl ?_
  refine er_loc (pc' := 19) rfl rfl rfl ?_
  refine er_loc (pc' := 21) rfl rfl rfl ?_
  refine er_cIz (pc' := 24) (rest := []) 12 rfl rfl rfl rfl rfl rfl (l_rError1 _ _ _) ?_
  intro Z9
  refine er_iret rfl rfl ?_
  exact RI_of rfl rfl
set_option maxRecDepth 100000 in
set_option maxHeartbeats 4000000 in
theorem l_rMove_0 (d : Nat) (X Z : Nat → Nat → Int32) {a p : Nat} (ha : a < 4) (hp : p < 4) (i j n : Int32) (hb : X 76 a = 0 ∨ X 76 p = 0) : EC (d + 4) 216 [.ref 63, .int (nI a), .int i, .int (nI p), .int j, .int n] (Wd X Z) (RI (sErr 2) (yErr X 2)) := by
  refine er_enter (L := [(0, _), (1, _), (2, _), (3, _), (4, _), (5, _)]) rfl rfl rfl ?_
  refine er_loc (pc' := 1) rfl rfl rfl ?_
  refine er_loc (pc' := 2) rfl rfl rfl ?_
  refine er_loc (pc' := 3) rfl rfl rfl ?_
  refine er_loc (pc' := 4) rfl rfl rfl ?_
  refine er_loc (pc' := 6) rfl rfl rfl ?_
  refine er_loc (pc' := 8) rfl rfl rfl ?_
  refine er_cIi (pc' := 11) (rest := []) 12 rfl rfl rfl rfl rfl rfl (l_rNm_0 _ _ _ ha hp _ _ _ hb) ?_
  refine er_loc (pc' := 13) (L' := [(6, _), (0, _), (1, _), (2, _), (3, _), (4, _), (5, _)]) rfl rfl rfl ?_
  refine er_loc (pc' := 15) rfl rfl rfl ?_
  refine er_if_eqF (pc' := 18) rfl (by decide +kernel) rfl ?_
  refine er_loc (pc' := 19) rfl rfl rfl ?_
  refine er_loc (pc' := 21) rfl rfl rfl ?_
  refine er_cIz (pc' := 24) (rest := []) 12 rfl rfl rfl rfl rfl rfl (l_rError2 _ _ _) ?_
  intro Z9
  refine er_iret rfl rfl ?_
  exact RI_of rfl rfl
set_option maxRecDepth 100000 in
set_option maxHeartbeats 4000000 in
theorem l_rMove_k (d : Nat) (X Z : Nat → Nat → Int32) {a p : Nat} (ha : a < 4) (hp : p < 4) (i j n : Int32) (hb1 : ¬ X 76 a = 0) (hb2 : ¬ X 76 p = 0) (hne : ¬ X 76 a = X 76 p) : EC (d + 4) 216 [.ref 63, .int (nI a), .int i, .int (nI p), .int j, .int n] (Wd X Z) (RI (sErr 5) (yErr X 5)) := by
  refine er_enter (L := [(0, _), (1, _), (2, _), (3, _), (4, _), (5, _)]) rfl rfl rfl ?_
  refine er_loc (pc' := 1) rfl rfl rfl ?_
  refine er_loc (pc' := 2) rfl rfl rfl ?_
  refine er_loc (pc' := 3) rfl rfl rfl ?_
  refine er_loc (pc' := 4) rfl rfl rfl ?_
  refine er_loc (pc' := 6) rfl rfl rfl ?_
  refine er_loc (pc' := 8) rfl rfl rfl ?_
  refine er_cIi (pc' := 11) (rest := []) 12 rfl rfl rfl rfl rfl rfl (l_rNm_k _ _ _ ha hp _ _ _ hb1 hb2 hne) ?_
  refine er_loc (pc' := 13) (L' := [(6, _), (0, _), (1, _), (2, _), (3, _), (4, _), (5, _)]) rfl rfl rfl ?_
  refine er_loc (pc' := 15) rfl rfl rfl ?_
  refine er_if_eqF (pc' := 18) rfl (by decide +kernel) rfl ?_
  refine er_loc (pc' := 19) rfl rfl rfl ?_
  refine er_loc (pc' := 21) rfl rfl rfl ?_
  refine er_cIz (pc' := 24) (rest := []) 12 rfl rfl rfl rfl rfl rfl (l_rError5 _ _ _) ?_
  intro Z9
  refine er_iret rfl rfl ?_
  exact RI_of rfl rfl
set_option maxRecDepth 100000 in
set_option maxHeartbeats 4000000 in
theorem l_rMove_b (d : Nat) (X Z : Nat → Nat → Int32) {a p : Nat} (ha : a < 4) (hp : p < 4) (i j n : Int32) (hb1 : ¬ X 76 a = 0) (hb2 : ¬ X 76 p = 0) (heq : X 76 a = X 76 p) {g e : Nat} (hg : X 77 a = nI g) (he : X 77 p = nI e) (hm : yMay g e i j n = false) : EC (d + 4) 216 [.ref 63, .int (nI a), .int i, .int (nI p), .int j, .int n] (Wd X Z) (RI (sErr 1) (yErr X 1)) := by
  refine er_enter (L := [(0, _), (1, _), (2, _), (3, _), (4, _), (5, _)]) rfl rfl rfl ?_
  refine er_loc (pc' := 1) rfl rfl rfl ?_
  refine er_loc (pc' := 2) rfl rfl rfl ?_
  refine er_loc (pc' := 3) rfl rfl rfl ?_
  refine er_loc (pc' := 4) rfl rfl rfl ?_
  refine er_loc (pc' := 6) rfl rfl rfl ?_
  refine er_loc (pc' := 8) rfl rfl rfl ?_
  refine er_cIi (pc' := 11) (rest := []) 12 rfl rfl rfl rfl rfl rfl (l_rNm _ _ _ ha hp _ _ _ hb1 hb2 heq hg he) ?_
  rw [hm]
  refine er_loc (pc' := 13) (L' := [(6, _), (0, _), (1, _), (2, _), (3, _), (4, _), (5, _)]) rfl rfl rfl ?_
  refine er_loc (pc' := 15) rfl rfl rfl ?_
  refine er_if_eqF (pc' := 18) rfl (by decide +kernel) rfl ?_
  refine er_loc (pc' := 19) rfl rfl rfl ?_
  refine er_loc (pc' := 21) rfl rfl rfl ?_
  refine er_cIz (pc' := 24) (rest := []) 12 rfl rfl rfl rfl rfl rfl (l_rError1 _ _ _) ?_
  intro Z9
  refine er_iret rfl rfl ?_
  exact RI_of rfl rfl
theorem mv_f {f : Nat → Int32} {s q i : Nat} (h : ¬ (q ≤ s + i ∧ s + i < q + i)) : u1 (cpf f f s q i) (q + i) (cpf f f s q i (s + i)) = cpf f f s q (i + 1) := by
  rw [show cpf f f s q i (s + i) = f (s + i) from if_neg h]
  funext j
  rw [u1_at, cpf_at, cpf_at]
  by_cases h1 : j = q + i
  · subst h1
    rw [if_pos rfl, if_pos ⟨by omega, by omega⟩]
    congr 1
    omega
  · rw [if_neg h1]
    by_cases h2 : q ≤ j ∧ j < q + i
    · rw [if_pos h2, if_pos ⟨h2.1, by omega⟩]
    · rw [if_neg h2, if_neg (fun hh => h2 ⟨hh.1, by omega⟩)]
theorem mv_b {f : Nat → Int32} {s q i : Nat} (h : ¬ (q + 1 ≤ s ∧ s < q + 1 + i)) : u1 (cpf f f (s + 1) (q + 1) i) q (cpf f f (s + 1) (q + 1) i s) = cpf f f s q (i + 1) := by
  rw [show cpf f f (s + 1) (q + 1) i s = f s from if_neg h]
  funext j
  rw [u1_at, cpf_at, cpf_at]
  by_cases h1 : j = q
  · subst h1
    rw [if_pos rfl, if_pos ⟨by omega, by omega⟩]
    congr 1
    omega
  · rw [if_neg h1]
    by_cases h2 : q + 1 ≤ j ∧ j < q + 1 + i
    · rw [if_pos h2, if_pos ⟨by omega, by omega⟩]
      congr 1
      omega
    · rw [if_neg h2, if_neg (fun hh => h2 ⟨by omega, by omega⟩)]
set_option maxRecDepth 100000 in
set_option maxHeartbeats 4000000 in
theorem l_rMf_loop (d : Nat) (X Z : Nat → Nat → Int32) {a p i0 j0 n : Nat} (ha : a < 4) (hp : p < 4) (h1 : i0 + n ≤ 40) (h2 : j0 + n ≤ 40) (hge : j0 ≤ i0) : ∀ (m i : Nat) (x : Int32), i + m = n → x = nI i → ER (d + 1) tb_m216 28 [(0, .ref 63), (1, .int (nI a)), (2, .int (nI i0)), (3, .int (nI p)), (4, .int (nI j0)), (5, .int (nI n)), (7, .int x)] [] (Wd (uc X 78 (cpf (X 78) (X 78) (40 * a + i0) (40 * p + j0) i)) Z) (RI (nI n) (uc X 78 (cpf (X 78) (X 78) (40 * a + i0) (40 * p + j0) n)))
  | 0, i, x, hi, h0 => by
    have hi0 : i = n := by omega
    subst h0
    subst hi0
    refine er_loc (pc' := 30) rfl rfl rfl ?_
    refine er_loc (pc' := 32) rfl rfl rfl ?_
    refine er_cm_geT rfl (nI_nlt (by omega) (by omega)) ?_
    refine er_loc (pc' := 92) rfl rfl rfl ?_
    refine er_iret rfl rfl ?_
    exact RI_of rfl rfl
  | m + 1, i, x, hi, h0 => by
    subst h0
    refine er_loc (pc' := 30) rfl rfl rfl ?_
    refine er_loc (pc' := 32) rfl rfl rfl ?_
    refine er_cm_geF (pc' := 35) rfl (nI_lt (by omega) (by omega)) rfl ?_
    refine er_loc (pc' := 36) rfl rfl rfl ?_
    refine er_loc (pc' := 38) rfl rfl rfl ?_
    refine er_cm_geT rfl (nI_nlt hge (by omega)) ?_
    refine er_loc (pc' := 53) rfl rfl rfl ?_
    refine er_loc (pc' := 55) (L' := [(8, _), (0, _), (1, _), (2, _), (3, _), (4, _), (5, _), (7, _)]) rfl rfl rfl ?_
    refine er_loc (pc' := 56) rfl rfl rfl ?_
    refine er_gf (pc' := 59) (_) rfl rfl rfl rfl rfl ?_
    refine er_k (pc' := 61) (nI 40) rfl rfl rfl ?_
    refine er_loc (pc' := 62) rfl rfl rfl ?_
    refine er_imul (pc' := 63) rfl rfl ?_
    refine er_loc (pc' := 65) rfl rfl rfl ?_
    refine er_iadd (pc' := 66) rfl rfl ?_
    refine er_loc (pc' := 68) rfl rfl rfl ?_
    refine er_iadd (pc' := 69) rfl rfl ?_
    refine er_loc (pc' := 70) rfl rfl rfl ?_
    refine er_gf (pc' := 73) (_) rfl rfl rfl rfl rfl ?_
    refine er_k (pc' := 75) (nI 40) rfl rfl rfl ?_
    refine er_loc (pc' := 76) rfl rfl rfl ?_
    refine er_imul (pc' := 77) rfl rfl ?_
    refine er_loc (pc' := 78) rfl rfl rfl ?_
    refine er_iadd (pc' := 79) rfl rfl ?_
    refine er_loc (pc' := 81) rfl rfl rfl ?_
    refine er_iadd (pc' := 82) rfl rfl ?_
    refine er_ia (pc' := 83) ((((40 * a) + i0) + i)) rfl rfl rfl (by simp only [nI_add, nI_mul]) (by omega) rfl rfl ?_
    refine er_isX (pc' := 84) ((((40 * p) + j0) + i)) rfl rfl (fun _ => rfl) (by simp only [nI_add, nI_mul]) (by omega) rfl rfl ?_
    refine er_loc (L' := [(7, .int (_ + nI 1)), (8, _), (0, _), (1, _), (2, _), (3, _), (4, _), (5, _)]) rfl rfl rfl ?_
    refine er_goto rfl ?_
    refine ER_loc [(0, _), (1, _), (2, _), (3, _), (4, _), (5, _), (7, _)] rfl (List.forall_mem_cons.mpr ⟨rfl, List.forall_mem_cons.mpr ⟨rfl, List.forall_mem_cons.mpr ⟨rfl, List.forall_mem_cons.mpr ⟨rfl, List.forall_mem_cons.mpr ⟨rfl, List.forall_mem_cons.mpr ⟨rfl, List.forall_mem_cons.mpr ⟨rfl, fun _ h => absurd h List.not_mem_nil⟩⟩⟩⟩⟩⟩⟩) rfl rfl ?_
    have ih := l_rMf_loop d X Z ha hp h1 h2 hge m (i + 1) _ (by omega) (nI_add i 1)
    rw [show ud (uc X 78 (cpf (X 78) (X 78) (40 * a + i0) (40 * p + j0) i)) 78 (40 * p + j0 + i) (uc X 78 (cpf (X 78) (X 78) (40 * a + i0) (40 * p + j0) i) 78 (40 * a + i0 + i)) = uc X 78 (cpf (X 78) (X 78) (40 * a + i0) (40 * p + j0) (i + 1)) from by unfold ud; rw [uc_uc, uc_same, mv_f (by omega)]]
    exact ih
theorem nI_s1n {n : Nat} (h : 1 ≤ n) : nI n - nI 1 = nI (n - 1) := nI_sub h
set_option maxRecDepth 100000 in
set_option maxHeartbeats 4000000 in
theorem l_rMb_loop (d : Nat) (X Z : Nat → Nat → Int32) {a p i0 j0 n : Nat} (ha : a < 4) (hp : p < 4) (h1 : i0 + n ≤ 40) (h2 : j0 + n ≤ 40) (hge : i0 < j0) : ∀ (m i : Nat) (x : Int32), i + m = n → x = nI i → ER (d + 1) tb_m216 28 [(0, .ref 63), (1, .int (nI a)), (2, .int (nI i0)), (3, .int (nI p)), (4, .int (nI j0)), (5, .int (nI n)), (7, .int x)] [] (Wd (uc X 78 (cpf (X 78) (X 78) (40 * a + i0 + m) (40 * p + j0 + m) i)) Z) (RI (nI n) (uc X 78 (cpf (X 78) (X 78) (40 * a + i0) (40 * p + j0) n)))
  | 0, i, x, hi, h0 => by
    have hi0 : i = n := by omega
    subst h0
    subst hi0
    refine er_loc (pc' := 30) rfl rfl rfl ?_
    refine er_loc (pc' := 32) rfl rfl rfl ?_
    refine er_cm_geT rfl (nI_nlt (by omega) (by omega)) ?_
    refine er_loc (pc' := 92) rfl rfl rfl ?_
    refine er_iret rfl rfl ?_
    exact RI_of rfl rfl
  | m + 1, i, x, hi, h0 => by
    subst h0
    refine er_loc (pc' := 30) rfl rfl rfl ?_
    refine er_loc (pc' := 32) rfl rfl rfl ?_
    refine er_cm_geF (pc' := 35) rfl (nI_lt (by omega) (by omega)) rfl ?_
    refine er_loc (pc' := 36) rfl rfl rfl ?_
    refine er_loc (pc' := 38) rfl rfl rfl ?_
    refine er_cm_geF (pc' := 41) rfl (nI_lt hge (by omega)) rfl ?_
    refine er_loc (pc' := 43) rfl rfl rfl ?_
    refine er_k (pc' := 44) (nI 1) rfl rfl rfl ?_
    refine er_isub rfl rfl ?_
    refine er_loc (pc' := 47) rfl rfl rfl ?_
    refine er_isub rfl rfl ?_
    rw [nI_s1n (show 1 ≤ n by omega), nI_sub (show i ≤ n - 1 by omega), show n - 1 - i = m by omega]
    refine er_goto rfl ?_
    refine er_loc (pc' := 55) (L' := [(8, _), (0, _), (1, _), (2, _), (3, _), (4, _), (5, _), (7, _)]) rfl rfl rfl ?_
    refine er_loc (pc' := 56) rfl rfl rfl ?_
    refine er_gf (pc' := 59) (_) rfl rfl rfl rfl rfl ?_
    refine er_k (pc' := 61) (nI 40) rfl rfl rfl ?_
    refine er_loc (pc' := 62) rfl rfl rfl ?_
    refine er_imul (pc' := 63) rfl rfl ?_
    refine er_loc (pc' := 65) rfl rfl rfl ?_
    refine er_iadd (pc' := 66) rfl rfl ?_
    refine er_loc (pc' := 68) rfl rfl rfl ?_
    refine er_iadd (pc' := 69) rfl rfl ?_
    refine er_loc (pc' := 70) rfl rfl rfl ?_
    refine er_gf (pc' := 73) (_) rfl rfl rfl rfl rfl ?_
    refine er_k (pc' := 75) (nI 40) rfl rfl rfl ?_
    refine er_loc (pc' := 76) rfl rfl rfl ?_
    refine er_imul (pc' := 77) rfl rfl ?_
    refine er_loc (pc' := 78) rfl rfl rfl ?_
    refine er_iadd (pc' := 79) rfl rfl ?_
    refine er_loc (pc' := 81) rfl rfl rfl ?_
    refine er_iadd (pc' := 82) rfl rfl ?_
    refine er_ia (pc' := 83) ((((40 * a) + i0) + m)) rfl rfl rfl (by simp only [nI_add, nI_mul]) (by omega) rfl rfl ?_
    refine er_isX (pc' := 84) ((((40 * p) + j0) + m)) rfl rfl (fun _ => rfl) (by simp only [nI_add, nI_mul]) (by omega) rfl rfl ?_
    refine er_loc (L' := [(7, .int (_ + nI 1)), (8, _), (0, _), (1, _), (2, _), (3, _), (4, _), (5, _)]) rfl rfl rfl ?_
    refine er_goto rfl ?_
    refine ER_loc [(0, _), (1, _), (2, _), (3, _), (4, _), (5, _), (7, _)] rfl (List.forall_mem_cons.mpr ⟨rfl, List.forall_mem_cons.mpr ⟨rfl, List.forall_mem_cons.mpr ⟨rfl, List.forall_mem_cons.mpr ⟨rfl, List.forall_mem_cons.mpr ⟨rfl, List.forall_mem_cons.mpr ⟨rfl, List.forall_mem_cons.mpr ⟨rfl, fun _ h => absurd h List.not_mem_nil⟩⟩⟩⟩⟩⟩⟩) rfl rfl ?_
    have ih := l_rMb_loop d X Z ha hp h1 h2 hge m (i + 1) _ (by omega) (nI_add i 1)
    rw [show ud (uc X 78 (cpf (X 78) (X 78) (40 * a + i0 + (m + 1)) (40 * p + j0 + (m + 1)) i)) 78 (40 * p + j0 + m) (uc X 78 (cpf (X 78) (X 78) (40 * a + i0 + (m + 1)) (40 * p + j0 + (m + 1)) i) 78 (40 * a + i0 + m)) = uc X 78 (cpf (X 78) (X 78) (40 * a + i0 + m) (40 * p + j0 + m) (i + 1)) from by unfold ud; rw [uc_uc, uc_same]; exact congrArg _ (mv_b (s := 40 * a + i0 + m) (q := 40 * p + j0 + m) (by omega))]
    exact ih
set_option maxRecDepth 100000 in
set_option maxHeartbeats 4000000 in
theorem l_rMove (d : Nat) (X Z : Nat → Nat → Int32) {a p : Nat} (ha : a < 4) (hp : p < 4) (i j n : Int32) (hb1 : ¬ X 76 a = 0) (hb2 : ¬ X 76 p = 0) (heq : X 76 a = X 76 p) {g e : Nat} (hg : X 77 a = nI g) (hg40 : g ≤ 40) (he : X 77 p = nI e) (he40 : e ≤ 40) (hm : (sStand g i n && sStand e j n) = true) : EC (d + 4) 216 [.ref 63, .int (nI a), .int i, .int (nI p), .int j, .int n] (Wd X Z) (RI n (uc X 78 (cpf (X 78) (X 78) (40 * a + nN i) (40 * p + nN j) (nN n)))) := by
  have hm2 := hm
  rw [Bool.and_eq_true] at hm2
  obtain ⟨i0, n0, q1, rfl, rfl⟩ := stand_ex hg40 hm2.1
  obtain ⟨j0, n1, q2, rfl, e1⟩ := stand_ex he40 hm2.2
  have hn01 : n0 = n1 := nIj (by omega) (by omega) e1
  rw [nN_nI (by omega), nN_nI (by omega), nN_nI (by omega)]
  refine er_enter (L := [(0, _), (1, _), (2, _), (3, _), (4, _), (5, _)]) rfl rfl rfl ?_
  refine er_loc (pc' := 1) rfl rfl rfl ?_
  refine er_loc (pc' := 2) rfl rfl rfl ?_
  refine er_loc (pc' := 3) rfl rfl rfl ?_
  refine er_loc (pc' := 4) rfl rfl rfl ?_
  refine er_loc (pc' := 6) rfl rfl rfl ?_
  refine er_loc (pc' := 8) rfl rfl rfl ?_
  refine er_cIi (pc' := 11) (rest := []) 12 rfl rfl rfl rfl rfl rfl (l_rNm _ _ _ ha hp _ _ _ hb1 hb2 heq hg he) ?_
  rw [may_eq hg40 he40, hm]
  refine er_loc (pc' := 13) (L' := [(6, _), (0, _), (1, _), (2, _), (3, _), (4, _), (5, _)]) rfl rfl rfl ?_
  refine er_loc (pc' := 15) rfl rfl rfl ?_
  refine er_if_eqT rfl (by decide +kernel) ?_
  refine er_k (pc' := 26) (nI 0) rfl rfl rfl ?_
  refine er_loc (pc' := 28) (L' := [(7, _), (6, _), (0, _), (1, _), (2, _), (3, _), (4, _), (5, _)]) rfl rfl rfl ?_
  refine ER_loc [(0, _), (1, _), (2, _), (3, _), (4, _), (5, _), (7, _)] rfl (List.forall_mem_cons.mpr ⟨rfl, List.forall_mem_cons.mpr ⟨rfl, List.forall_mem_cons.mpr ⟨rfl, List.forall_mem_cons.mpr ⟨rfl, List.forall_mem_cons.mpr ⟨rfl, List.forall_mem_cons.mpr ⟨rfl, List.forall_mem_cons.mpr ⟨rfl, fun _ h => absurd h List.not_mem_nil⟩⟩⟩⟩⟩⟩⟩) rfl rfl ?_
  rcases Nat.lt_or_ge i0 j0 with hlt | hge
  · have h := l_rMb_loop (d + 2) X Z ha hp (n := n0) (i0 := i0) (j0 := j0) (by omega) (by omega) hlt n0 0 (nI 0) (by omega) rfl
    rw [cpf_z, uc_id] at h
    exact h
  · have h := l_rMf_loop (d + 2) X Z ha hp (n := n0) (i0 := i0) (j0 := j0) (by omega) (by omega) hge n0 0 (nI 0) (by omega) rfl
    rw [cpf_z, uc_id] at h
    exact h
set_option maxRecDepth 100000 in
set_option maxHeartbeats 4000000 in
theorem l_rTrace (d : Nat) (X Z : Nat → Nat → Int32) (i : Int32) (g : Nat) (hg : X 63 21 = nI g) (h40 : g ≤ 40) : EC (d + 3) 212 [.ref 63, .int i] (Wd X Z) (fun r => if sIn i (nI 0) (nI g - nI 1) = true then RI (X 75 (nN i)) X r else RI (sErr 2) (yErr X 2) r) := by
  refine er_enter (L := [(0, _), (1, _)]) rfl rfl rfl ?_
  refine er_loc (pc' := 1) rfl rfl rfl ?_
  refine er_k (pc' := 2) (nI 0) rfl rfl rfl ?_
  refine er_loc (pc' := 3) rfl rfl rfl ?_
  refine er_gf (pc' := 6) (.int (X 63 21)) rfl rfl rfl rfl rfl ?_
  rw [hg]
  refine er_k (pc' := 7) (nI 1) rfl rfl rfl ?_
  refine er_isub (pc' := 8) rfl rfl ?_
  refine er_cSi (pc' := 11) (rest := []) rfl rfl rfl (l_in _ _ _ _ _) ?_
  refine er_if_eqb (pc' := 14) rfl rfl (fun h11 => ?_) (fun h11 => ?_)
  · refine er_loc (pc' := 24) rfl rfl rfl ?_
    refine er_ldc (pc' := 26) (-1000000002) rfl rfl rfl rfl rfl ?_
    refine er_cIz (pc' := 29) (rest := []) 12 rfl rfl rfl rfl rfl rfl (l_rError2 _ _ _) ?_
    intro Z9
    refine er_iret rfl rfl ?_
    rw [if_neg (by rw [h11]; decide)]
    exact RI_of rfl rfl
  · obtain ⟨j, hj, hij⟩ := sIn_lt (by omega) h11
    have hj2 : nN i = j := by rw [hij]; exact nN_nI (by omega)
    have hkn : i = nI (nN i) := by rw [hj2, hij]
    refine er_loc (pc' := 15) rfl rfl rfl ?_
    refine er_gf (pc' := 18) (_) rfl rfl rfl rfl rfl ?_
    refine er_loc (pc' := 19) rfl rfl rfl ?_
    refine er_ia (pc' := 20) (nN i) rfl rfl rfl hkn (by omega) rfl rfl ?_
    refine er_goto rfl ?_
    refine er_iret rfl rfl ?_
    rw [if_pos h11]
    exact RI_of rfl rfl
