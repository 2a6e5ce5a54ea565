/-! THE REFERENCE, its face: steps, the bag, kinds, laws, doing -/
theorem sIn_01 {u : Int32} : sIn u (nI 0) (nI 1) = sUse u := by
  cases hb : sIn u (nI 0) (nI 1) with
  | true =>
    obtain ⟨j, h1, h2, rfl⟩ := sIn_ex (by omega) (by omega) hb
    have : j = 0 ∨ j = 1 := by omega
    rcases this with rfl | rfl <;> decide +kernel
  | false =>
    cases hu : sUse u with
    | false => rfl
    | true =>
      unfold sUse at hu
      simp only [Bool.or_eq_true, decide_eq_true_eq] at hu
      rcases hu with hu | hu <;> subst hu <;> rw [← hb] <;> decide +kernel
theorem sIn_m1 {v : Int32} : sIn v (nI 0) (-1) = false := by
  unfold sIn
  by_cases h : v < nI 0
  · rw [decide_eq_true h]; rfl
  · have h2 : (-1 : Int32) < v := by
      rw [I_lt] at h ⊢
      have e0 : (nI 0).toInt = 0 := by decide +kernel
      have e1 : (-1 : Int32).toInt = -1 := by decide +kernel
      omega
    rw [decide_eq_true h2]
    simp
theorem bt_nI {j i : Nat} : bt (nI j) i = (decide (i < 32) && j.testBit i) := by
  unfold bt
  rw [show (nI j).toBitVec = BitVec.ofNat 32 j from rfl, BitVec.getLsbD_ofNat]
theorem pow_k {k : Nat} (h : k ≤ 8) : nI 1 <<< (nI k &&& 31) - nI 1 = nI (2 ^ k - 1) := fin_le (m := 8) (p := fun k => nI 1 <<< (nI k &&& 31) - nI 1 = nI (2 ^ k - 1)) h (by decide +kernel)
theorem needs_lt {v : Int32} {k : Nat} (hk : k ≤ 8) (h : sIn v (nI 0) (nI 1 <<< (nI k &&& 31) - nI 1) = true) : ∀ i, bt v i = true → i < k := by
  rw [pow_k hk] at h
  have hp := pow_le hk
  obtain ⟨j, _, h2, rfl⟩ := sIn_ex (by omega) (by omega) h
  intro i hi
  rw [bt_nI, Bool.and_eq_true] at hi
  rcases Nat.lt_or_ge i k with h3 | h3
  · exact h3
  · have h4 : j < 2 ^ i := Nat.lt_of_lt_of_le (show j < 2 ^ k by have := Nat.two_pow_pos k; omega) (Nat.pow_le_pow_right (by omega) h3)
    rw [Nat.testBit_lt_two_pow h4] at hi
    exact absurd hi.2 (by decide)
theorem sIn_isN {v : Int32} {a b : Nat} (ha : a < 2 ^ 31) (hb : b < 2 ^ 31) (h : sIn v (nI a) (nI b) = true) : isN v b := by
  obtain ⟨j, _, h2, rfl⟩ := sIn_ex hb ha h
  exact isN.of h2 hb
theorem sIn_b {v : Int32} (h : sIn v (nI 0) (nI 1) = true) : v = bI (decide (v = nI 1)) := by
  obtain ⟨j, _, h2, rfl⟩ := sIn_ex (by omega) (by omega) h
  have : j = 0 ∨ j = 1 := by omega
  rcases this with rfl | rfl <;> decide +kernel
theorem km_q {v : Int32} (h : sIn v (nI 0) (nI 69) = true) : isN (v / nI 10) 6 ∧ isN (v - v / nI 10 * nI 10) 9 := by
  obtain ⟨j, _, h2, rfl⟩ := sIn_ex (by omega) (by omega) h
  exact ⟨(isN_iff (by omega)).mpr ⟨j / 10, by omega, fin_le (m := 69) (p := fun j => nI j / nI 10 = nI (j / 10)) h2 (by decide +kernel)⟩, (isN_iff (by omega)).mpr ⟨j % 10, by omega, fin_le (m := 69) (p := fun j => nI j - nI j / nI 10 * nI 10 = nI (j % 10)) h2 (by decide +kernel)⟩⟩
theorem RK.n_eq {T : Nat} {R : Nat → Int32} (h : RK T R) : nN (R 2) = jn (jm R) := rfl
set_option maxRecDepth 100000 in
set_option maxHeartbeats 4000000 in
theorem l_rOfStep_no (d : Nat) (X Z : Nat → Nat → Int32) {T : Nat} (hI : RK T (X 64)) (s w : Int32) (hs : jHas (jm (X 64)) s = false) : EC (d + 3) 131 [.ref 63, .int s, .int w] (Wd X Z) (RI (sErr 1) (yErr X 1)) := by
  refine er_enter (L := [(0, _), (1, _), (2, _)]) rfl rfl rfl ?_
  refine er_loc (pc' := 1) rfl rfl rfl ?_
  refine er_loc (pc' := 2) rfl rfl rfl ?_
  refine er_cIi (pc' := 5) (rest := []) 12 rfl rfl rfl rfl rfl rfl (l_rHas_f _ X _ hI hs) ?_
  refine er_if_eqT rfl (by decide +kernel) ?_
  refine er_loc (pc' := 19) rfl rfl rfl ?_
  refine er_ldc (pc' := 21) (-1000000001) rfl rfl rfl rfl rfl ?_
  refine er_cIz (pc' := 24) (rest := []) 12 rfl rfl rfl rfl rfl rfl (l_rError1 _ _ _) ?_
  intro Z9
  refine er_iret rfl rfl ?_
  exact RI_of rfl rfl
set_option maxRecDepth 100000 in
set_option maxHeartbeats 4000000 in
theorem l_rOf_0 (d : Nat) (X Z : Nat → Nat → Int32) {T : Nat} (hI : RK T (X 64)) (hT : T < 2000000000) {k : Nat} (hk : k < jn (jm (X 64))) : EC (d + 6) 131 [.ref 63, .int (nI k), .int (nI 0)] (Wd X Z) (RI (jm (X 64) 1 k) X) := by
  refine er_enter (L := [(0, _), (1, _), (2, _)]) rfl rfl rfl ?_
  have h8 := jn8 hI.ij
  have hk8 : k < 8 := by omega
  have hq := kind7 hI.ij k
  refine er_loc (pc' := 1) rfl rfl rfl ?_
  refine er_loc (pc' := 2) rfl rfl rfl ?_
  refine er_cIi (pc' := 5) (rest := []) 12 rfl rfl rfl rfl rfl rfl (l_rHas_t _ X _ hI hk) ?_
  refine er_if_eqF (pc' := 8) rfl (by decide +kernel) rfl ?_
  refine er_loc (pc' := 9) rfl rfl rfl ?_
  refine er_k (pc' := 10) (nI 0) rfl rfl rfl ?_
  refine er_k (pc' := 12) (nI 9) rfl rfl rfl ?_
  refine er_cSi (pc' := 15) (rest := []) rfl rfl rfl (l_in _ _ _ _ _) ?_
  rw [show sIn (nI 0) (nI 0) (nI 9) = true from by decide +kernel]
  refine er_if_neT rfl (by decide +kernel) ?_
  refine er_loc (pc' := 26) rfl rfl rfl ?_
  refine er_k (pc' := 28) (nI 6) rfl rfl rfl ?_
  refine er_cm_geF (pc' := 31) rfl (by decide +kernel) rfl ?_
  refine er_loc (pc' := 32) rfl rfl rfl ?_
  refine er_loc (pc' := 33) rfl rfl rfl ?_
  refine er_loc (pc' := 34) rfl rfl rfl ?_
  refine er_cIi (pc' := 37) (rest := []) 12 rfl rfl rfl rfl rfl rfl (l_of0 _ X _ hI (by omega)) ?_
  refine er_iret rfl rfl ?_
  exact RI_of (by rw [show jm (X 64) 1 k = nI (sKind (jm (X 64)) k) from (hI.ij.kind k).1]) rfl
set_option maxRecDepth 100000 in
set_option maxHeartbeats 4000000 in
theorem l_rOf_1 (d : Nat) (X Z : Nat → Nat → Int32) {T : Nat} (hI : RK T (X 64)) (hT : T < 2000000000) {k : Nat} (hk : k < jn (jm (X 64))) : EC (d + 6) 131 [.ref 63, .int (nI k), .int (nI 1)] (Wd X Z) (RI (jm (X 64) 2 k) X) := by
  refine er_enter (L := [(0, _), (1, _), (2, _)]) rfl rfl rfl ?_
  have h8 := jn8 hI.ij
  have hk8 : k < 8 := by omega
  have hq := kind7 hI.ij k
  refine er_loc (pc' := 1) rfl rfl rfl ?_
  refine er_loc (pc' := 2) rfl rfl rfl ?_
  refine er_cIi (pc' := 5) (rest := []) 12 rfl rfl rfl rfl rfl rfl (l_rHas_t _ X _ hI hk) ?_
  refine er_if_eqF (pc' := 8) rfl (by decide +kernel) rfl ?_
  refine er_loc (pc' := 9) rfl rfl rfl ?_
  refine er_k (pc' := 10) (nI 0) rfl rfl rfl ?_
  refine er_k (pc' := 12) (nI 9) rfl rfl rfl ?_
  refine er_cSi (pc' := 15) (rest := []) rfl rfl rfl (l_in _ _ _ _ _) ?_
  rw [show sIn (nI 1) (nI 0) (nI 9) = true from by decide +kernel]
  refine er_if_neT rfl (by decide +kernel) ?_
  refine er_loc (pc' := 26) rfl rfl rfl ?_
  refine er_k (pc' := 28) (nI 6) rfl rfl rfl ?_
  refine er_cm_geF (pc' := 31) rfl (by decide +kernel) rfl ?_
  refine er_loc (pc' := 32) rfl rfl rfl ?_
  refine er_loc (pc' := 33) rfl rfl rfl ?_
  refine er_loc (pc' := 34) rfl rfl rfl ?_
  refine er_cIi (pc' := 37) (rest := []) 12 rfl rfl rfl rfl rfl rfl (l_of1 _ X _ (by omega)) ?_
  refine er_iret rfl rfl ?_
  exact RI_of rfl rfl
set_option maxRecDepth 100000 in
set_option maxHeartbeats 4000000 in
theorem l_rOf_2 (d : Nat) (X Z : Nat → Nat → Int32) {T : Nat} (hI : RK T (X 64)) (hT : T < 2000000000) {k : Nat} (hk : k < jn (jm (X 64))) : EC (d + 6) 131 [.ref 63, .int (nI k), .int (nI 2)] (Wd X Z) (RI (jm (X 64) 3 k) X) := by
  refine er_enter (L := [(0, _), (1, _), (2, _)]) rfl rfl rfl ?_
  have h8 := jn8 hI.ij
  have hk8 : k < 8 := by omega
  have hq := kind7 hI.ij k
  refine er_loc (pc' := 1) rfl rfl rfl ?_
  refine er_loc (pc' := 2) rfl rfl rfl ?_
  refine er_cIi (pc' := 5) (rest := []) 12 rfl rfl rfl rfl rfl rfl (l_rHas_t _ X _ hI hk) ?_
  refine er_if_eqF (pc' := 8) rfl (by decide +kernel) rfl ?_
  refine er_loc (pc' := 9) rfl rfl rfl ?_
  refine er_k (pc' := 10) (nI 0) rfl rfl rfl ?_
  refine er_k (pc' := 12) (nI 9) rfl rfl rfl ?_
  refine er_cSi (pc' := 15) (rest := []) rfl rfl rfl (l_in _ _ _ _ _) ?_
  rw [show sIn (nI 2) (nI 0) (nI 9) = true from by decide +kernel]
  refine er_if_neT rfl (by decide +kernel) ?_
  refine er_loc (pc' := 26) rfl rfl rfl ?_
  refine er_k (pc' := 28) (nI 6) rfl rfl rfl ?_
  refine er_cm_geF (pc' := 31) rfl (by decide +kernel) rfl ?_
  refine er_loc (pc' := 32) rfl rfl rfl ?_
  refine er_loc (pc' := 33) rfl rfl rfl ?_
  refine er_loc (pc' := 34) rfl rfl rfl ?_
  refine er_cIi (pc' := 37) (rest := []) 12 rfl rfl rfl rfl rfl rfl (l_of2 _ X _ (by omega)) ?_
  refine er_iret rfl rfl ?_
  exact RI_of rfl rfl
set_option maxRecDepth 100000 in
set_option maxHeartbeats 4000000 in
theorem l_rOf_3 (d : Nat) (X Z : Nat → Nat → Int32) {T : Nat} (hI : RK T (X 64)) (hT : T < 2000000000) {k : Nat} (hk : k < jn (jm (X 64))) : EC (d + 6) 131 [.ref 63, .int (nI k), .int (nI 3)] (Wd X Z) (RI (jm (X 64) 4 k) X) := by
  refine er_enter (L := [(0, _), (1, _), (2, _)]) rfl rfl rfl ?_
  have h8 := jn8 hI.ij
  have hk8 : k < 8 := by omega
  have hq := kind7 hI.ij k
  refine er_loc (pc' := 1) rfl rfl rfl ?_
  refine er_loc (pc' := 2) rfl rfl rfl ?_
  refine er_cIi (pc' := 5) (rest := []) 12 rfl rfl rfl rfl rfl rfl (l_rHas_t _ X _ hI hk) ?_
  refine er_if_eqF (pc' := 8) rfl (by decide +kernel) rfl ?_
  refine er_loc (pc' := 9) rfl rfl rfl ?_
  refine er_k (pc' := 10) (nI 0) rfl rfl rfl ?_
  refine er_k (pc' := 12) (nI 9) rfl rfl rfl ?_
  refine er_cSi (pc' := 15) (rest := []) rfl rfl rfl (l_in _ _ _ _ _) ?_
  rw [show sIn (nI 3) (nI 0) (nI 9) = true from by decide +kernel]
  refine er_if_neT rfl (by decide +kernel) ?_
  refine er_loc (pc' := 26) rfl rfl rfl ?_
  refine er_k (pc' := 28) (nI 6) rfl rfl rfl ?_
  refine er_cm_geF (pc' := 31) rfl (by decide +kernel) rfl ?_
  refine er_loc (pc' := 32) rfl rfl rfl ?_
  refine er_loc (pc' := 33) rfl rfl rfl ?_
  refine er_loc (pc' := 34) rfl rfl rfl ?_
  refine er_cIi (pc' := 37) (rest := []) 12 rfl rfl rfl rfl rfl rfl (l_of3 _ X _ (by omega)) ?_
  refine er_iret rfl rfl ?_
  exact RI_of rfl rfl
set_option maxRecDepth 100000 in
set_option maxHeartbeats 4000000 in
theorem l_rOf_4 (d : Nat) (X Z : Nat → Nat → Int32) {T : Nat} (hI : RK T (X 64)) (hT : T < 2000000000) {k : Nat} (hk : k < jn (jm (X 64))) : EC (d + 6) 131 [.ref 63, .int (nI k), .int (nI 4)] (Wd X Z) (RI (bI (sDone (jm (X 64)) k)) X) := by
  refine er_enter (L := [(0, _), (1, _), (2, _)]) rfl rfl rfl ?_
  have h8 := jn8 hI.ij
  have hk8 : k < 8 := by omega
  have hq := kind7 hI.ij k
  refine er_loc (pc' := 1) rfl rfl rfl ?_
  refine er_loc (pc' := 2) rfl rfl rfl ?_
  refine er_cIi (pc' := 5) (rest := []) 12 rfl rfl rfl rfl rfl rfl (l_rHas_t _ X _ hI hk) ?_
  refine er_if_eqF (pc' := 8) rfl (by decide +kernel) rfl ?_
  refine er_loc (pc' := 9) rfl rfl rfl ?_
  refine er_k (pc' := 10) (nI 0) rfl rfl rfl ?_
  refine er_k (pc' := 12) (nI 9) rfl rfl rfl ?_
  refine er_cSi (pc' := 15) (rest := []) rfl rfl rfl (l_in _ _ _ _ _) ?_
  rw [show sIn (nI 4) (nI 0) (nI 9) = true from by decide +kernel]
  refine er_if_neT rfl (by decide +kernel) ?_
  refine er_loc (pc' := 26) rfl rfl rfl ?_
  refine er_k (pc' := 28) (nI 6) rfl rfl rfl ?_
  refine er_cm_geF (pc' := 31) rfl (by decide +kernel) rfl ?_
  refine er_loc (pc' := 32) rfl rfl rfl ?_
  refine er_loc (pc' := 33) rfl rfl rfl ?_
  refine er_loc (pc' := 34) rfl rfl rfl ?_
  refine er_cIi (pc' := 37) (rest := []) 12 rfl rfl rfl rfl rfl rfl (l_of4 _ X _ hI (by omega)) ?_
  refine er_iret rfl rfl ?_
  exact RI_of rfl rfl
set_option maxRecDepth 100000 in
set_option maxHeartbeats 4000000 in
theorem l_rOf_5 (d : Nat) (X Z : Nat → Nat → Int32) {T : Nat} (hI : RK T (X 64)) (hT : T < 2000000000) {k : Nat} (hk : k < jn (jm (X 64))) : EC (d + 6) 131 [.ref 63, .int (nI k), .int (nI 5)] (Wd X Z) (RI (bI (sBit (jm (X 64) 0 7) (nI k))) X) := by
  refine er_enter (L := [(0, _), (1, _), (2, _)]) rfl rfl rfl ?_
  have h8 := jn8 hI.ij
  have hk8 : k < 8 := by omega
  have hq := kind7 hI.ij k
  refine er_loc (pc' := 1) rfl rfl rfl ?_
  refine er_loc (pc' := 2) rfl rfl rfl ?_
  refine er_cIi (pc' := 5) (rest := []) 12 rfl rfl rfl rfl rfl rfl (l_rHas_t _ X _ hI hk) ?_
  refine er_if_eqF (pc' := 8) rfl (by decide +kernel) rfl ?_
  refine er_loc (pc' := 9) rfl rfl rfl ?_
  refine er_k (pc' := 10) (nI 0) rfl rfl rfl ?_
  refine er_k (pc' := 12) (nI 9) rfl rfl rfl ?_
  refine er_cSi (pc' := 15) (rest := []) rfl rfl rfl (l_in _ _ _ _ _) ?_
  rw [show sIn (nI 5) (nI 0) (nI 9) = true from by decide +kernel]
  refine er_if_neT rfl (by decide +kernel) ?_
  refine er_loc (pc' := 26) rfl rfl rfl ?_
  refine er_k (pc' := 28) (nI 6) rfl rfl rfl ?_
  refine er_cm_geF (pc' := 31) rfl (by decide +kernel) rfl ?_
  refine er_loc (pc' := 32) rfl rfl rfl ?_
  refine er_loc (pc' := 33) rfl rfl rfl ?_
  refine er_loc (pc' := 34) rfl rfl rfl ?_
  refine er_cIi (pc' := 37) (rest := []) 12 rfl rfl rfl rfl rfl rfl (l_of5 _ X _ hI (by omega)) ?_
  refine er_iret rfl rfl ?_
  exact RI_of rfl rfl
set_option maxRecDepth 100000 in
set_option maxHeartbeats 4000000 in
theorem l_rOf_6 (d : Nat) (X Z : Nat → Nat → Int32) {T : Nat} (hI : RK T (X 64)) (hT : T < 2000000000) {k : Nat} (hk : k < jn (jm (X 64))) : EC (d + 6) 131 [.ref 63, .int (nI k), .int (nI 6)] (Wd X Z) (RI (sLasts (jm (X 64)) k) X) := by
  refine er_enter (L := [(0, _), (1, _), (2, _)]) rfl rfl rfl ?_
  have h8 := jn8 hI.ij
  have hk8 : k < 8 := by omega
  have hq := kind7 hI.ij k
  refine er_loc (pc' := 1) rfl rfl rfl ?_
  refine er_loc (pc' := 2) rfl rfl rfl ?_
  refine er_cIi (pc' := 5) (rest := []) 12 rfl rfl rfl rfl rfl rfl (l_rHas_t _ X _ hI hk) ?_
  refine er_if_eqF (pc' := 8) rfl (by decide +kernel) rfl ?_
  refine er_loc (pc' := 9) rfl rfl rfl ?_
  refine er_k (pc' := 10) (nI 0) rfl rfl rfl ?_
  refine er_k (pc' := 12) (nI 9) rfl rfl rfl ?_
  refine er_cSi (pc' := 15) (rest := []) rfl rfl rfl (l_in _ _ _ _ _) ?_
  rw [show sIn (nI 6) (nI 0) (nI 9) = true from by decide +kernel]
  refine er_if_neT rfl (by decide +kernel) ?_
  refine er_loc (pc' := 26) rfl rfl rfl ?_
  refine er_k (pc' := 28) (nI 6) rfl rfl rfl ?_
  refine er_cm_geT rfl (by decide +kernel) ?_
  refine er_loc (pc' := 39) rfl rfl rfl ?_
  refine er_k (pc' := 41) (nI 8) rfl rfl rfl ?_
  refine er_cm_neT rfl (by decide +kernel) ?_
  refine er_loc (pc' := 53) rfl rfl rfl ?_
  refine er_loc (pc' := 54) rfl rfl rfl ?_
  refine er_cIi (pc' := 57) (rest := []) 12 rfl rfl rfl rfl rfl rfl (l_rMayUn _ X _ hI hk) ?_
  refine er_loc (pc' := 58) (L' := [(3, _), (0, _), (1, _), (2, _)]) rfl rfl rfl ?_
  refine er_loc (pc' := 59) rfl rfl rfl ?_
  refine er_k (pc' := 61) (nI 6) rfl rfl rfl ?_
  refine er_cm_neF (pc' := 64) rfl (rfl) rfl ?_
  refine er_loc (pc' := 65) rfl rfl rfl ?_
  refine er_loc (pc' := 66) rfl rfl rfl ?_
  refine er_cIz (pc' := 69) (rest := []) 12 rfl rfl rfl rfl rfl rfl (l_rLastsOf _ X _ hI (by omega) hk) ?_
  intro Z2
  refine er_goto rfl ?_
  refine er_iret rfl rfl ?_
  exact RI_of rfl rfl
set_option maxRecDepth 100000 in
set_option maxHeartbeats 4000000 in
theorem l_rOf_7 (d : Nat) (X Z : Nat → Nat → Int32) {T : Nat} (hI : RK T (X 64)) (hT : T < 2000000000) {k : Nat} (hk : k < jn (jm (X 64))) : EC (d + 6) 131 [.ref 63, .int (nI k), .int (nI 7)] (Wd X Z) (RI (sBack (jm (X 64)) k) X) := by
  refine er_enter (L := [(0, _), (1, _), (2, _)]) rfl rfl rfl ?_
  have h8 := jn8 hI.ij
  have hk8 : k < 8 := by omega
  have hq := kind7 hI.ij k
  refine er_loc (pc' := 1) rfl rfl rfl ?_
  refine er_loc (pc' := 2) rfl rfl rfl ?_
  refine er_cIi (pc' := 5) (rest := []) 12 rfl rfl rfl rfl rfl rfl (l_rHas_t _ X _ hI hk) ?_
  refine er_if_eqF (pc' := 8) rfl (by decide +kernel) rfl ?_
  refine er_loc (pc' := 9) rfl rfl rfl ?_
  refine er_k (pc' := 10) (nI 0) rfl rfl rfl ?_
  refine er_k (pc' := 12) (nI 9) rfl rfl rfl ?_
  refine er_cSi (pc' := 15) (rest := []) rfl rfl rfl (l_in _ _ _ _ _) ?_
  rw [show sIn (nI 7) (nI 0) (nI 9) = true from by decide +kernel]
  refine er_if_neT rfl (by decide +kernel) ?_
  refine er_loc (pc' := 26) rfl rfl rfl ?_
  refine er_k (pc' := 28) (nI 6) rfl rfl rfl ?_
  refine er_cm_geT rfl (by decide +kernel) ?_
  refine er_loc (pc' := 39) rfl rfl rfl ?_
  refine er_k (pc' := 41) (nI 8) rfl rfl rfl ?_
  refine er_cm_neT rfl (by decide +kernel) ?_
  refine er_loc (pc' := 53) rfl rfl rfl ?_
  refine er_loc (pc' := 54) rfl rfl rfl ?_
  refine er_cIi (pc' := 57) (rest := []) 12 rfl rfl rfl rfl rfl rfl (l_rMayUn _ X _ hI hk) ?_
  refine er_loc (pc' := 58) (L' := [(3, _), (0, _), (1, _), (2, _)]) rfl rfl rfl ?_
  refine er_loc (pc' := 59) rfl rfl rfl ?_
  refine er_k (pc' := 61) (nI 6) rfl rfl rfl ?_
  refine er_cm_neT rfl (by decide +kernel) ?_
  refine er_loc (pc' := 73) rfl rfl rfl ?_
  refine er_k (pc' := 75) (nI 7) rfl rfl rfl ?_
  refine er_cm_neF (pc' := 78) rfl (rfl) rfl ?_
  refine er_loc (pc' := 79) rfl rfl rfl ?_
  refine er_loc (pc' := 80) rfl rfl rfl ?_
  refine er_cIz (pc' := 83) (rest := []) 12 rfl rfl rfl rfl rfl rfl (l_rBackOf _ X _ hI (by omega) hk) ?_
  intro Z2
  refine er_goto rfl ?_
  refine er_iret rfl rfl ?_
  exact RI_of rfl rfl
set_option maxRecDepth 100000 in
set_option maxHeartbeats 4000000 in
theorem l_rOf_8 (d : Nat) (X Z : Nat → Nat → Int32) {T : Nat} (hI : RK T (X 64)) (hT : T < 2000000000) {k : Nat} (hk : k < jn (jm (X 64))) : EC (d + 6) 131 [.ref 63, .int (nI k), .int (nI 8)] (Wd X Z) (RI (bI (sMayDo (jm (X 64)) k)) X) := by
  refine er_enter (L := [(0, _), (1, _), (2, _)]) rfl rfl rfl ?_
  have h8 := jn8 hI.ij
  have hk8 : k < 8 := by omega
  have hq := kind7 hI.ij k
  refine er_loc (pc' := 1) rfl rfl rfl ?_
  refine er_loc (pc' := 2) rfl rfl rfl ?_
  refine er_cIi (pc' := 5) (rest := []) 12 rfl rfl rfl rfl rfl rfl (l_rHas_t _ X _ hI hk) ?_
  refine er_if_eqF (pc' := 8) rfl (by decide +kernel) rfl ?_
  refine er_loc (pc' := 9) rfl rfl rfl ?_
  refine er_k (pc' := 10) (nI 0) rfl rfl rfl ?_
  refine er_k (pc' := 12) (nI 9) rfl rfl rfl ?_
  refine er_cSi (pc' := 15) (rest := []) rfl rfl rfl (l_in _ _ _ _ _) ?_
  rw [show sIn (nI 8) (nI 0) (nI 9) = true from by decide +kernel]
  refine er_if_neT rfl (by decide +kernel) ?_
  refine er_loc (pc' := 26) rfl rfl rfl ?_
  refine er_k (pc' := 28) (nI 6) rfl rfl rfl ?_
  refine er_cm_geT rfl (by decide +kernel) ?_
  refine er_loc (pc' := 39) rfl rfl rfl ?_
  refine er_k (pc' := 41) (nI 8) rfl rfl rfl ?_
  refine er_cm_neF (pc' := 44) rfl (rfl) rfl ?_
  refine er_loc (pc' := 45) rfl rfl rfl ?_
  refine er_loc (pc' := 46) rfl rfl rfl ?_
  refine er_cIi (pc' := 49) (rest := []) 12 rfl rfl rfl rfl rfl rfl (l_rMayDo _ X _ hI hk) ?_
  refine er_goto rfl ?_
  refine er_loc (pc' := 58) (L' := [(3, _), (0, _), (1, _), (2, _)]) rfl rfl rfl ?_
  refine er_loc (pc' := 59) rfl rfl rfl ?_
  refine er_k (pc' := 61) (nI 6) rfl rfl rfl ?_
  refine er_cm_neT rfl (by decide +kernel) ?_
  refine er_loc (pc' := 73) rfl rfl rfl ?_
  refine er_k (pc' := 75) (nI 7) rfl rfl rfl ?_
  refine er_cm_neT rfl (by decide +kernel) ?_
  refine er_loc (pc' := 87) rfl rfl rfl ?_
  refine er_if_eqb (pc' := 90) rfl rfl (fun h87 => ?_) (fun h87 => ?_)
  · refine er_k (pc' := 95) (nI 0) rfl rfl rfl ?_
    refine er_iret rfl rfl ?_
    exact RI_of (bI_eq0 h87) rfl
  · refine er_k (pc' := 91) (nI 1) rfl rfl rfl ?_
    refine er_goto rfl ?_
    refine er_iret rfl rfl ?_
    exact RI_of (bI_eq1 h87) rfl
set_option maxRecDepth 100000 in
set_option maxHeartbeats 4000000 in
theorem l_rOf_9 (d : Nat) (X Z : Nat → Nat → Int32) {T : Nat} (hI : RK T (X 64)) (hT : T < 2000000000) {k : Nat} (hk : k < jn (jm (X 64))) : EC (d + 6) 131 [.ref 63, .int (nI k), .int (nI 9)] (Wd X Z) (RI (bI (sMayUn (jm (X 64)) k)) X) := by
  refine er_enter (L := [(0, _), (1, _), (2, _)]) rfl rfl rfl ?_
  have h8 := jn8 hI.ij
  have hk8 : k < 8 := by omega
  have hq := kind7 hI.ij k
  refine er_loc (pc' := 1) rfl rfl rfl ?_
  refine er_loc (pc' := 2) rfl rfl rfl ?_
  refine er_cIi (pc' := 5) (rest := []) 12 rfl rfl rfl rfl rfl rfl (l_rHas_t _ X _ hI hk) ?_
  refine er_if_eqF (pc' := 8) rfl (by decide +kernel) rfl ?_
  refine er_loc (pc' := 9) rfl rfl rfl ?_
  refine er_k (pc' := 10) (nI 0) rfl rfl rfl ?_
  refine er_k (pc' := 12) (nI 9) rfl rfl rfl ?_
  refine er_cSi (pc' := 15) (rest := []) rfl rfl rfl (l_in _ _ _ _ _) ?_
  rw [show sIn (nI 9) (nI 0) (nI 9) = true from by decide +kernel]
  refine er_if_neT rfl (by decide +kernel) ?_
  refine er_loc (pc' := 26) rfl rfl rfl ?_
  refine er_k (pc' := 28) (nI 6) rfl rfl rfl ?_
  refine er_cm_geT rfl (by decide +kernel) ?_
  refine er_loc (pc' := 39) rfl rfl rfl ?_
  refine er_k (pc' := 41) (nI 8) rfl rfl rfl ?_
  refine er_cm_neT rfl (by decide +kernel) ?_
  refine er_loc (pc' := 53) rfl rfl rfl ?_
  refine er_loc (pc' := 54) rfl rfl rfl ?_
  refine er_cIi (pc' := 57) (rest := []) 12 rfl rfl rfl rfl rfl rfl (l_rMayUn _ X _ hI hk) ?_
  refine er_loc (pc' := 58) (L' := [(3, _), (0, _), (1, _), (2, _)]) rfl rfl rfl ?_
  refine er_loc (pc' := 59) rfl rfl rfl ?_
  refine er_k (pc' := 61) (nI 6) rfl rfl rfl ?_
  refine er_cm_neT rfl (by decide +kernel) ?_
  refine er_loc (pc' := 73) rfl rfl rfl ?_
  refine er_k (pc' := 75) (nI 7) rfl rfl rfl ?_
  refine er_cm_neT rfl (by decide +kernel) ?_
  refine er_loc (pc' := 87) rfl rfl rfl ?_
  refine er_if_eqb (pc' := 90) rfl rfl (fun h87 => ?_) (fun h87 => ?_)
  · refine er_k (pc' := 95) (nI 0) rfl rfl rfl ?_
    refine er_iret rfl rfl ?_
    exact RI_of (bI_eq0 h87) rfl
  · refine er_k (pc' := 91) (nI 1) rfl rfl rfl ?_
    refine er_goto rfl ?_
    refine er_iret rfl rfl ?_
    exact RI_of (bI_eq1 h87) rfl
theorem l_rOfStep (d : Nat) (X Z : Nat → Nat → Int32) {T : Nat} (hI : RK T (X 64)) (hT : T < 2000000000) {k : Nat} (hk : k < jn (jm (X 64))) (w : Int32) : EC (d + 6) 131 [.ref 63, .int (nI k), .int w] (Wd X Z) (fun r => if sIn w (nI 0) (nI 9) = true then RI (sOf (jm (X 64)) k w) X r else RI (sErr 1) (yErr X 1) r) := by
  by_cases hw : sIn w (nI 0) (nI 9) = true
  · refine EC.mono (P := RI (sOf (jm (X 64)) k w) X) ?_ (fun r hr => by rw [if_pos hw]; exact hr)
    obtain ⟨j, _, h2, rfl⟩ := sIn_ex (by omega) (by omega) hw
    have : j = 0 ∨ j = 1 ∨ j = 2 ∨ j = 3 ∨ j = 4 ∨ j = 5 ∨ j = 6 ∨ j = 7 ∨ j = 8 ∨ j = 9 := by omega
    rcases this with rfl | rfl | rfl | rfl | rfl | rfl | rfl | rfl | rfl | rfl
    · exact l_rOf_0 d X Z hI hT hk
    · exact l_rOf_1 d X Z hI hT hk
    · exact l_rOf_2 d X Z hI hT hk
    · exact l_rOf_3 d X Z hI hT hk
    · exact l_rOf_4 d X Z hI hT hk
    · exact l_rOf_5 d X Z hI hT hk
    · exact l_rOf_6 d X Z hI hT hk
    · exact l_rOf_7 d X Z hI hT hk
    · exact l_rOf_8 d X Z hI hT hk
    · exact l_rOf_9 d X Z hI hT hk
  · refine EC.mono (P := RI (sErr 1) (yErr X 1)) ?_ (fun r hr => by rw [if_neg hw]; exact hr)
    have hw2 : sIn w (nI 0) (nI 9) = false := by simpa using hw
    refine er_enter (L := [(0, _), (1, _), (2, _)]) rfl rfl rfl ?_
    refine er_loc (pc' := 1) rfl rfl rfl ?_
    refine er_loc (pc' := 2) rfl rfl rfl ?_
    refine er_cIi (pc' := 5) (rest := []) 12 rfl rfl rfl rfl rfl rfl (l_rHas_t _ X _ hI hk) ?_
    refine er_if_eqF (pc' := 8) rfl (by decide +kernel) rfl ?_
    refine er_loc (pc' := 9) rfl rfl rfl ?_
    refine er_k (pc' := 10) (nI 0) rfl rfl rfl ?_
    refine er_k (pc' := 12) (nI 9) rfl rfl rfl ?_
    refine er_cSi (pc' := 15) (rest := []) rfl rfl rfl (l_in _ _ _ _ _) ?_
    rw [hw2]
    refine er_if_neF (pc' := 18) rfl (by decide +kernel) rfl ?_
    refine er_loc (pc' := 19) rfl rfl rfl ?_
    refine er_ldc (pc' := 21) (-1000000001) rfl rfl rfl rfl rfl ?_
    refine er_cIz (pc' := 24) (rest := []) 12 rfl rfl rfl rfl rfl rfl (l_rError1 _ _ _) ?_
    intro Z9
    refine er_iret rfl rfl ?_
    exact RI_of rfl rfl
set_option maxRecDepth 100000 in
set_option maxHeartbeats 4000000 in
theorem l_rChange_no (d : Nat) (X Z : Nat → Nat → Int32) {T : Nat} (hI : RK T (X 64)) (s w v : Int32) (hs : jHas (jm (X 64)) s = false) : EC (d + 3) 146 [.ref 63, .int s, .int w, .int v] (Wd X Z) (RI (sErr 1) (yErr X 1)) := by
  refine er_enter (L := [(0, _), (1, _), (2, _), (3, _)]) rfl rfl rfl ?_
  refine er_loc (pc' := 1) rfl rfl rfl ?_
  refine er_loc (pc' := 2) rfl rfl rfl ?_
  refine er_cIi (pc' := 5) (rest := []) 12 rfl rfl rfl rfl rfl rfl (l_rHas_f _ X _ hI hs) ?_
  refine er_if_eqT rfl (by decide +kernel) ?_
  refine er_loc (pc' := 49) rfl rfl rfl ?_
  refine er_ldc (pc' := 51) (-1000000001) rfl rfl rfl rfl rfl ?_
  refine er_cIz (pc' := 54) (rest := []) 12 rfl rfl rfl rfl rfl rfl (l_rError1 _ _ _) ?_
  intro Z9
  refine er_iret rfl rfl ?_
  exact RI_of rfl rfl
set_option maxRecDepth 100000 in
set_option maxHeartbeats 4000000 in
theorem l_rChange0 (d : Nat) (X Z : Nat → Nat → Int32) {T : Nat} (hI : RK T (X 64)) {k : Nat} (hk : k < jn (jm (X 64))) (v : Int32) : EC (d + 3) 146 [.ref 63, .int (nI k), .int (nI 0), .int v] (Wd X Z) (fun r => if sIn v (nI 0) (nI 9) = true then (RNJ (jm (X 64) 3 k) (ud (jm (X 64)) 3 k v) T X r) else RI (sErr 1) (yErr X 1) r) := by
  refine er_enter (L := [(0, _), (1, _), (2, _), (3, _)]) rfl rfl rfl ?_
  have h8 := jn8 hI.ij
  have hk8 : k < 8 := by omega
  have hq := kind7 hI.ij k
  refine er_loc (pc' := 1) rfl rfl rfl ?_
  refine er_loc (pc' := 2) rfl rfl rfl ?_
  refine er_cIi (pc' := 5) (rest := []) 12 rfl rfl rfl rfl rfl rfl (l_rHas_t _ X _ hI hk) ?_
  refine er_if_eqF (pc' := 8) rfl (by decide +kernel) rfl ?_
  refine er_loc (pc' := 9) rfl rfl rfl ?_
  refine er_k (pc' := 10) (nI 0) rfl rfl rfl ?_
  refine er_k (pc' := 11) (nI 2) rfl rfl rfl ?_
  refine er_cSi (pc' := 14) (rest := []) rfl rfl rfl (l_in _ _ _ _ _) ?_
  rw [show sIn (nI 0) (nI 0) (nI 2) = true from by decide +kernel]
  refine er_if_eqF (pc' := 17) rfl (by decide +kernel) rfl ?_
  refine er_loc (pc' := 18) rfl rfl rfl ?_
  refine er_k (pc' := 19) (nI 0) rfl rfl rfl ?_
  refine er_loc (pc' := 20) rfl rfl rfl ?_
  refine er_if_neF (pc' := 23) rfl (rfl) rfl ?_
  refine er_k (pc' := 25) (nI 9) rfl rfl rfl ?_
  refine er_goto rfl ?_
  refine er_cSi (pc' := 45) (rest := []) rfl rfl rfl (l_in _ _ _ _ _) ?_
  refine er_if_neb (pc' := 48) rfl rfl (fun h45 => ?_) (fun h45 => ?_)
  · refine er_loc (pc' := 56) rfl rfl rfl ?_
    refine er_k (pc' := 57) (nI 2) rfl rfl rfl ?_
    refine er_cm_neT rfl (by decide +kernel) ?_
    refine er_loc (pc' := 77) rfl rfl rfl ?_
    refine er_k (pc' := 79) (nI 7) rfl rfl rfl ?_
    refine er_k (pc' := 81) (nI 6) rfl rfl rfl ?_
    refine er_loc (pc' := 82) rfl rfl rfl ?_
    refine er_imul (pc' := 83) rfl rfl ?_
    refine er_iadd (pc' := 84) rfl rfl ?_
    refine er_loc (pc' := 85) rfl rfl rfl ?_
    refine er_k (pc' := 86) (nI 2) rfl rfl rfl ?_
    refine er_cm_neT rfl (by decide +kernel) ?_
    refine er_k (pc' := 94) (nI 2) rfl rfl rfl ?_
    refine er_loc (pc' := 95) rfl rfl rfl ?_
    refine er_iadd (pc' := 96) rfl rfl ?_
    refine er_iadd (pc' := 97) rfl rfl ?_
    rw [show nI 7 + nI 6 * nI k + (nI 2 + nI 0) = nI (9 + 6 * k) from by simp only [nI_add, nI_mul]; congr 1; omega]
    refine er_loc (pc' := 98) rfl rfl rfl ?_
    refine er_cIz (pc' := 101) (rest := []) 12 rfl rfl rfl rfl rfl rfl (l_rBecomes _ _ _ (by omega) _) ?_
    intro Z2
    refine er_iret rfl rfl ?_
    rw [if_pos h45]
    exact RNJ_of (jm3 hk8).symm (wSc hI rfl hk8 (sIn_isN (by omega) (by omega) h45) rfl)
  · refine er_loc (pc' := 49) rfl rfl rfl ?_
    refine er_ldc (pc' := 51) (-1000000001) rfl rfl rfl rfl rfl ?_
    refine er_cIz (pc' := 54) (rest := []) 12 rfl rfl rfl rfl rfl rfl (l_rError1 _ _ _) ?_
    intro Z9
    refine er_iret rfl rfl ?_
    rw [if_neg (by rw [h45]; decide)]
    exact RI_of rfl rfl
set_option maxRecDepth 100000 in
set_option maxHeartbeats 4000000 in
theorem l_rChange1 (d : Nat) (X Z : Nat → Nat → Int32) {T : Nat} (hI : RK T (X 64)) {k : Nat} (hk : k < jn (jm (X 64))) (v : Int32) : EC (d + 3) 146 [.ref 63, .int (nI k), .int (nI 1), .int v] (Wd X Z) (fun r => if sIn v (nI 0) (nI 1 <<< (nI k &&& 31) - nI 1) = true then (RNJ (jm (X 64) 4 k) (ud (jm (X 64)) 4 k v) T X r) else RI (sErr 1) (yErr X 1) r) := by
  refine er_enter (L := [(0, _), (1, _), (2, _), (3, _)]) rfl rfl rfl ?_
  have h8 := jn8 hI.ij
  have hk8 : k < 8 := by omega
  have hq := kind7 hI.ij k
  refine er_loc (pc' := 1) rfl rfl rfl ?_
  refine er_loc (pc' := 2) rfl rfl rfl ?_
  refine er_cIi (pc' := 5) (rest := []) 12 rfl rfl rfl rfl rfl rfl (l_rHas_t _ X _ hI hk) ?_
  refine er_if_eqF (pc' := 8) rfl (by decide +kernel) rfl ?_
  refine er_loc (pc' := 9) rfl rfl rfl ?_
  refine er_k (pc' := 10) (nI 0) rfl rfl rfl ?_
  refine er_k (pc' := 11) (nI 2) rfl rfl rfl ?_
  refine er_cSi (pc' := 14) (rest := []) rfl rfl rfl (l_in _ _ _ _ _) ?_
  rw [show sIn (nI 1) (nI 0) (nI 2) = true from by decide +kernel]
  refine er_if_eqF (pc' := 17) rfl (by decide +kernel) rfl ?_
  refine er_loc (pc' := 18) rfl rfl rfl ?_
  refine er_k (pc' := 19) (nI 0) rfl rfl rfl ?_
  refine er_loc (pc' := 20) rfl rfl rfl ?_
  refine er_if_neT rfl (by decide +kernel) ?_
  refine er_loc (pc' := 29) rfl rfl rfl ?_
  refine er_k (pc' := 30) (nI 1) rfl rfl rfl ?_
  refine er_cm_neF (pc' := 33) rfl (rfl) rfl ?_
  refine er_k (pc' := 34) (nI 1) rfl rfl rfl ?_
  refine er_loc (pc' := 35) rfl rfl rfl ?_
  refine er_ishl (pc' := 36) rfl rfl ?_
  refine er_k (pc' := 37) (nI 1) rfl rfl rfl ?_
  refine er_isub (pc' := 38) rfl rfl ?_
  refine er_goto rfl ?_
  refine er_cSi (pc' := 45) (rest := []) rfl rfl rfl (l_in _ _ _ _ _) ?_
  refine er_if_neb (pc' := 48) rfl rfl (fun h45 => ?_) (fun h45 => ?_)
  · refine er_loc (pc' := 56) rfl rfl rfl ?_
    refine er_k (pc' := 57) (nI 2) rfl rfl rfl ?_
    refine er_cm_neT rfl (by decide +kernel) ?_
    refine er_loc (pc' := 77) rfl rfl rfl ?_
    refine er_k (pc' := 79) (nI 7) rfl rfl rfl ?_
    refine er_k (pc' := 81) (nI 6) rfl rfl rfl ?_
    refine er_loc (pc' := 82) rfl rfl rfl ?_
    refine er_imul (pc' := 83) rfl rfl ?_
    refine er_iadd (pc' := 84) rfl rfl ?_
    refine er_loc (pc' := 85) rfl rfl rfl ?_
    refine er_k (pc' := 86) (nI 2) rfl rfl rfl ?_
    refine er_cm_neT rfl (by decide +kernel) ?_
    refine er_k (pc' := 94) (nI 2) rfl rfl rfl ?_
    refine er_loc (pc' := 95) rfl rfl rfl ?_
    refine er_iadd (pc' := 96) rfl rfl ?_
    refine er_iadd (pc' := 97) rfl rfl ?_
    rw [show nI 7 + nI 6 * nI k + (nI 2 + nI 1) = nI (10 + 6 * k) from by simp only [nI_add, nI_mul]; congr 1; omega]
    refine er_loc (pc' := 98) rfl rfl rfl ?_
    refine er_cIz (pc' := 101) (rest := []) 12 rfl rfl rfl rfl rfl rfl (l_rBecomes _ _ _ (by omega) _) ?_
    intro Z2
    refine er_iret rfl rfl ?_
    rw [if_pos h45]
    exact RNJ_of (jm4 hk8).symm (wNeeds hI rfl hk8 (needs_lt (by omega) h45) rfl)
  · refine er_loc (pc' := 49) rfl rfl rfl ?_
    refine er_ldc (pc' := 51) (-1000000001) rfl rfl rfl rfl rfl ?_
    refine er_cIz (pc' := 54) (rest := []) 12 rfl rfl rfl rfl rfl rfl (l_rError1 _ _ _) ?_
    intro Z9
    refine er_iret rfl rfl ?_
    rw [if_neg (by rw [h45]; decide)]
    exact RI_of rfl rfl
set_option maxRecDepth 100000 in
set_option maxHeartbeats 4000000 in
theorem l_rChange2 (d : Nat) (X Z : Nat → Nat → Int32) {T : Nat} (hI : RK T (X 64)) {k : Nat} (hk : k < jn (jm (X 64))) (v : Int32) : EC (d + 3) 146 [.ref 63, .int (nI k), .int (nI 2), .int v] (Wd X Z) (fun r => if sIn v (nI 0) (nI 1) = true then (if sDone (jm (X 64)) k = true then RNJ (bI (sBit (jm (X 64) 0 7) (nI k))) (ud (jm (X 64)) 0 7 (sWith (jm (X 64) 0 7) (nI k) (decide (v = nI 1)))) T X r else RI (sErr 3) (yErr X 3) r) else RI (sErr 1) (yErr X 1) r) := by
  refine er_enter (L := [(0, _), (1, _), (2, _), (3, _)]) rfl rfl rfl ?_
  have h8 := jn8 hI.ij
  have hk8 : k < 8 := by omega
  have hq := kind7 hI.ij k
  refine er_loc (pc' := 1) rfl rfl rfl ?_
  refine er_loc (pc' := 2) rfl rfl rfl ?_
  refine er_cIi (pc' := 5) (rest := []) 12 rfl rfl rfl rfl rfl rfl (l_rHas_t _ X _ hI hk) ?_
  refine er_if_eqF (pc' := 8) rfl (by decide +kernel) rfl ?_
  refine er_loc (pc' := 9) rfl rfl rfl ?_
  refine er_k (pc' := 10) (nI 0) rfl rfl rfl ?_
  refine er_k (pc' := 11) (nI 2) rfl rfl rfl ?_
  refine er_cSi (pc' := 14) (rest := []) rfl rfl rfl (l_in _ _ _ _ _) ?_
  rw [show sIn (nI 2) (nI 0) (nI 2) = true from by decide +kernel]
  refine er_if_eqF (pc' := 17) rfl (by decide +kernel) rfl ?_
  refine er_loc (pc' := 18) rfl rfl rfl ?_
  refine er_k (pc' := 19) (nI 0) rfl rfl rfl ?_
  refine er_loc (pc' := 20) rfl rfl rfl ?_
  refine er_if_neT rfl (by decide +kernel) ?_
  refine er_loc (pc' := 29) rfl rfl rfl ?_
  refine er_k (pc' := 30) (nI 1) rfl rfl rfl ?_
  refine er_cm_neT rfl (by decide +kernel) ?_
  refine er_k (pc' := 42) (nI 1) rfl rfl rfl ?_
  refine er_cSi (pc' := 45) (rest := []) rfl rfl rfl (l_in _ _ _ _ _) ?_
  refine er_if_neb (pc' := 48) rfl rfl (fun h45 => ?_) (fun h45 => ?_)
  · refine er_loc (pc' := 56) rfl rfl rfl ?_
    refine er_k (pc' := 57) (nI 2) rfl rfl rfl ?_
    refine er_cm_neF (pc' := 60) rfl (rfl) rfl ?_
    refine er_loc (pc' := 61) rfl rfl rfl ?_
    refine er_loc (pc' := 62) rfl rfl rfl ?_
    refine er_k (pc' := 63) (nI 4) rfl rfl rfl ?_
    refine er_cIi (pc' := 66) (rest := []) 12 rfl rfl rfl rfl rfl rfl (l_of4 _ X _ hI (by omega)) ?_
    refine er_if_neb (pc' := 69) rfl rfl (fun h66 => ?_) (fun h66 => ?_)
    · refine er_loc (pc' := 77) rfl rfl rfl ?_
      refine er_k (pc' := 79) (nI 7) rfl rfl rfl ?_
      refine er_k (pc' := 81) (nI 6) rfl rfl rfl ?_
      refine er_loc (pc' := 82) rfl rfl rfl ?_
      refine er_imul (pc' := 83) rfl rfl ?_
      refine er_iadd (pc' := 84) rfl rfl ?_
      refine er_loc (pc' := 85) rfl rfl rfl ?_
      refine er_k (pc' := 86) (nI 2) rfl rfl rfl ?_
      refine er_cm_neF (pc' := 89) rfl (rfl) rfl ?_
      refine er_k (pc' := 90) (nI 5) rfl rfl rfl ?_
      refine er_goto rfl ?_
      refine er_iadd (pc' := 97) rfl rfl ?_
      rw [show nI 7 + nI 6 * nI k + nI 5 = nI (12 + 6 * k) from by simp only [nI_add, nI_mul]; congr 1; omega]
      refine er_loc (pc' := 98) rfl rfl rfl ?_
      refine er_cIz (pc' := 101) (rest := []) 12 rfl rfl rfl rfl rfl rfl (l_rBecomes _ _ _ (by omega) _) ?_
      intro Z2
      refine er_iret rfl rfl ?_
      rw [if_pos h45, if_pos h66]
      have e := wWrong (c := decide (v = nI 1)) hI rfl hk (p := 12 + 6 * k) rfl
      rw [← sIn_b h45] at e
      exact RNJ_of (hI.wrong hk) e
    · refine er_loc (pc' := 70) rfl rfl rfl ?_
      refine er_ldc (pc' := 72) (-1000000003) rfl rfl rfl rfl rfl ?_
      refine er_cIz (pc' := 75) (rest := []) 12 rfl rfl rfl rfl rfl rfl (l_rError3 _ _ _) ?_
      intro Z9
      refine er_iret rfl rfl ?_
      rw [if_pos h45, if_neg (by rw [h66]; decide)]
      exact RI_of rfl rfl
  · refine er_loc (pc' := 49) rfl rfl rfl ?_
    refine er_ldc (pc' := 51) (-1000000001) rfl rfl rfl rfl rfl ?_
    refine er_cIz (pc' := 54) (rest := []) 12 rfl rfl rfl rfl rfl rfl (l_rError1 _ _ _) ?_
    intro Z9
    refine er_iret rfl rfl ?_
    rw [if_neg (by rw [h45]; decide)]
    exact RI_of rfl rfl
theorem l_rChange (d : Nat) (X Z : Nat → Nat → Int32) {T : Nat} (hI : RK T (X 64)) {k : Nat} (hk : k < jn (jm (X 64))) (w v : Int32) : EC (d + 3) 146 [.ref 63, .int (nI k), .int w, .int v] (Wd X Z) (fun r => if sIn v (nI 0) (sMost k w) = true then (if w = 0 then RNJ (jm (X 64) 3 k) (ud (jm (X 64)) 3 k v) T X r else if w = nI 1 then RNJ (jm (X 64) 4 k) (ud (jm (X 64)) 4 k v) T X r else if sDone (jm (X 64)) k = true then RNJ (bI (sBit (jm (X 64) 0 7) (nI k))) (ud (jm (X 64)) 0 7 (sWith (jm (X 64) 0 7) (nI k) (decide (v = nI 1)))) T X r else RI (sErr 3) (yErr X 3) r) else RI (sErr 1) (yErr X 1) r) := by
  by_cases hw : sIn w (nI 0) (nI 2) = true
  · obtain ⟨j, _, h2, rfl⟩ := sIn_ex (by omega) (by omega) hw
    have : j = 0 ∨ j = 1 ∨ j = 2 := by omega
    rcases this with rfl | rfl | rfl
    · exact l_rChange0 d X Z hI hk v
    · exact l_rChange1 d X Z hI hk v
    · exact l_rChange2 d X Z hI hk v
  · have hw2 : sIn w (nI 0) (nI 2) = false := by simpa using hw
    have e : sMost k w = -1 := by
      unfold sMost
      rw [if_neg (fun e => by subst e; exact absurd hw (by decide +kernel)), if_neg (fun e => by subst e; exact absurd hw (by decide +kernel)), if_neg (fun e => by subst e; exact absurd hw (by decide +kernel))]
    refine EC.mono (P := RI (sErr 1) (yErr X 1)) ?_ (fun r hr => by rw [e, sIn_m1, if_neg (by decide)]; exact hr)
    refine er_enter (L := [(0, _), (1, _), (2, _), (3, _)]) rfl rfl rfl ?_
    refine er_loc (pc' := 1) rfl rfl rfl ?_
    refine er_loc (pc' := 2) rfl rfl rfl ?_
    refine er_cIi (pc' := 5) (rest := []) 12 rfl rfl rfl rfl rfl rfl (l_rHas_t _ X _ hI hk) ?_
    refine er_if_eqF (pc' := 8) rfl (by decide +kernel) rfl ?_
    refine er_loc (pc' := 9) rfl rfl rfl ?_
    refine er_k (pc' := 10) (nI 0) rfl rfl rfl ?_
    refine er_k (pc' := 11) (nI 2) rfl rfl rfl ?_
    refine er_cSi (pc' := 14) (rest := []) rfl rfl rfl (l_in _ _ _ _ _) ?_
    rw [hw2]
    refine er_if_eqT rfl (by decide +kernel) ?_
    refine er_loc (pc' := 49) rfl rfl rfl ?_
    refine er_ldc (pc' := 51) (-1000000001) rfl rfl rfl rfl rfl ?_
    refine er_cIz (pc' := 54) (rest := []) 12 rfl rfl rfl rfl rfl rfl (l_rError1 _ _ _) ?_
    intro Z9
    refine er_iret rfl rfl ?_
    exact RI_of rfl rfl
set_option maxRecDepth 100000 in
set_option maxHeartbeats 4000000 in
theorem l_rSet (d : Nat) (X Z : Nat → Nat → Int32) {T : Nat} (hI : RK T (X 64)) (w v : Int32) : EC (d + 3) 148 [.ref 63, .int w, .int v] (Wd X Z) (fun r => if w = 0 ∧ sIn v (nI 1) (nI 2) = true then RNJ (X 64 3) (ud (jm (X 64)) 0 8 v) T X r else if w = nI 1 ∧ sIn v (nI 0) (nI 999) = true then RNJ (X 64 4) (ud (jm (X 64)) 0 9 v) T X r else if w = nI 2 ∧ sIn v (nI 0) 99999 = true then RNJ (X 64 0) (ud (jm (X 64)) 0 10 v) 99999 X r else RI (sErr 1) (yErr X 1) r) := by
  refine er_enter (L := [(0, _), (1, _), (2, _)]) rfl rfl rfl ?_
  refine er_loc (pc' := 1) rfl rfl rfl ?_
  refine er_sw (0) rfl rfl (fun s1_0 => ?_) (fun s1_0 => ?_)
  · refine er_loc (pc' := 29) rfl rfl rfl ?_
    refine er_k (pc' := 30) (nI 1) rfl rfl rfl ?_
    refine er_k (pc' := 31) (nI 2) rfl rfl rfl ?_
    refine er_cSi (pc' := 34) (rest := []) rfl rfl rfl (l_in _ _ _ _ _) ?_
    refine er_if_eqb (pc' := 37) rfl rfl (fun h34 => ?_) (fun h34 => ?_)
    · refine er_loc (pc' := 47) rfl rfl rfl ?_
      refine er_ldc (pc' := 49) (-1000000001) rfl rfl rfl rfl rfl ?_
      refine er_cIz (pc' := 52) (rest := []) 12 rfl rfl rfl rfl rfl rfl (l_rError1 _ _ _) ?_
      intro Z9
      refine er_iret rfl rfl ?_
      rw [if_neg (fun hh => by rw [h34] at hh; exact absurd hh.2 (by decide)), if_neg (fun hh => absurd (s1_0.symm.trans hh.1) (by decide +kernel)), if_neg (fun hh => absurd (s1_0.symm.trans hh.1) (by decide +kernel))]
      exact RI_of rfl rfl
    · refine er_loc (pc' := 38) rfl rfl rfl ?_
      refine er_k (pc' := 39) (nI 3) rfl rfl rfl ?_
      refine er_loc (pc' := 40) rfl rfl rfl ?_
      refine er_cIz (pc' := 43) (rest := []) 12 rfl rfl rfl rfl rfl rfl (l_rBecomes _ _ _ (by omega) _) ?_
      intro Z2
      refine er_goto rfl ?_
      refine er_iret rfl rfl ?_
      subst s1_0
      rw [if_pos ⟨rfl, h34⟩]
      exact RNJ_of rfl (wHands hI rfl (by
        obtain ⟨j, h1, h2, rfl⟩ := sIn_ex (by omega) (by omega) h34
        have : j = 1 ∨ j = 2 := by omega
        rcases this with rfl | rfl
        · exact Or.inl rfl
        · exact Or.inr rfl) rfl)
  refine er_sw (1) rfl rfl (fun s1_1 => ?_) (fun s1_1 => ?_)
  · refine er_loc (pc' := 54) rfl rfl rfl ?_
    refine er_k (pc' := 55) (nI 0) rfl rfl rfl ?_
    refine er_k (pc' := 58) (nI 999) rfl rfl rfl ?_
    refine er_cSi (pc' := 61) (rest := []) rfl rfl rfl (l_in _ _ _ _ _) ?_
    refine er_if_eqb (pc' := 64) rfl rfl (fun h61 => ?_) (fun h61 => ?_)
    · refine er_loc (pc' := 74) rfl rfl rfl ?_
      refine er_ldc (pc' := 76) (-1000000001) rfl rfl rfl rfl rfl ?_
      refine er_cIz (pc' := 79) (rest := []) 12 rfl rfl rfl rfl rfl rfl (l_rError1 _ _ _) ?_
      intro Z9
      refine er_iret rfl rfl ?_
      rw [if_neg (fun hh => absurd (s1_1.symm.trans hh.1) (by decide +kernel)), if_neg (fun hh => by rw [h61] at hh; exact absurd hh.2 (by decide)), if_neg (fun hh => absurd (s1_1.symm.trans hh.1) (by decide +kernel))]
      exact RI_of rfl rfl
    · refine er_loc (pc' := 65) rfl rfl rfl ?_
      refine er_k (pc' := 66) (nI 4) rfl rfl rfl ?_
      refine er_loc (pc' := 67) rfl rfl rfl ?_
      refine er_cIz (pc' := 70) (rest := []) 12 rfl rfl rfl rfl rfl rfl (l_rBecomes _ _ _ (by omega) _) ?_
      intro Z2
      refine er_goto rfl ?_
      refine er_iret rfl rfl ?_
      subst s1_1
      rw [if_neg (fun hh => absurd hh.1 (by decide +kernel)), if_pos ⟨rfl, h61⟩]
      exact RNJ_of rfl (wBag hI rfl (sIn_isN (by omega) (by omega) h61) rfl)
  refine er_sw (2) rfl rfl (fun s1_2 => ?_) (fun s1_2 => ?_)
  · refine er_loc (pc' := 81) rfl rfl rfl ?_
    refine er_k (pc' := 82) (nI 0) rfl rfl rfl ?_
    refine er_ldc (pc' := 84) (99999) rfl rfl rfl rfl rfl ?_
    refine er_cSi (pc' := 87) (rest := []) rfl rfl rfl (l_in _ _ _ _ _) ?_
    refine er_if_eqb (pc' := 90) rfl rfl (fun h87 => ?_) (fun h87 => ?_)
    · refine er_loc (pc' := 100) rfl rfl rfl ?_
      refine er_ldc (pc' := 102) (-1000000001) rfl rfl rfl rfl rfl ?_
      refine er_cIz (pc' := 105) (rest := []) 12 rfl rfl rfl rfl rfl rfl (l_rError1 _ _ _) ?_
      intro Z9
      refine er_iret rfl rfl ?_
      rw [if_neg (fun hh => absurd (s1_2.symm.trans hh.1) (by decide +kernel)), if_neg (fun hh => absurd (s1_2.symm.trans hh.1) (by decide +kernel)), if_neg (fun hh => by rw [h87] at hh; exact absurd hh.2 (by decide))]
      exact RI_of rfl rfl
    · refine er_loc (pc' := 91) rfl rfl rfl ?_
      refine er_k (pc' := 92) (nI 0) rfl rfl rfl ?_
      refine er_loc (pc' := 93) rfl rfl rfl ?_
      refine er_cIz (pc' := 96) (rest := []) 12 rfl rfl rfl rfl rfl rfl (l_rBecomes _ _ _ (by omega) _) ?_
      intro Z2
      refine er_goto rfl ?_
      refine er_iret rfl rfl ?_
      subst s1_2
      rw [if_neg (fun hh => absurd hh.1 (by decide +kernel)), if_neg (fun hh => absurd hh.1 (by decide +kernel)), if_pos ⟨rfl, h87⟩]
      exact RNJ_of rfl (wMin (T' := 99999) hI rfl (sIn_isN (by omega) (by omega) h87) rfl)
  refine er_tsD [0, 1, 2] rfl rfl rfl rfl (List.forall_mem_cons.mpr ⟨ne_toInt s1_0 rfl, List.forall_mem_cons.mpr ⟨ne_toInt s1_1 rfl, List.forall_mem_cons.mpr ⟨ne_toInt s1_2 rfl, fun _ h => absurd h List.not_mem_nil⟩⟩⟩) ?_
  refine er_loc (pc' := 107) rfl rfl rfl ?_
  refine er_ldc (pc' := 109) (-1000000001) rfl rfl rfl rfl rfl ?_
  refine er_cIz (pc' := 112) (rest := []) 12 rfl rfl rfl rfl rfl rfl (l_rError1 _ _ _) ?_
  intro Z9
  refine er_iret rfl rfl ?_
  rw [if_neg (fun hh => s1_0 (hh.1.trans (by decide +kernel))), if_neg (fun hh => s1_1 (hh.1.trans (by decide +kernel))), if_neg (fun hh => s1_2 (hh.1.trans (by decide +kernel)))]
  exact RI_of rfl rfl
set_option maxRecDepth 100000 in
set_option maxHeartbeats 4000000 in
theorem l_rBecome_no (d : Nat) (X Z : Nat → Nat → Int32) {T : Nat} (hI : RK T (X 64)) (s km : Int32) (hs : jHas (jm (X 64)) s = false) : EC (d + 3) 149 [.ref 63, .int s, .int km] (Wd X Z) (RI (sErr 1) (yErr X 1)) := by
  refine er_enter (L := [(0, _), (1, _), (2, _)]) rfl rfl rfl ?_
  refine er_loc (pc' := 1) rfl rfl rfl ?_
  refine er_loc (pc' := 2) rfl rfl rfl ?_
  refine er_cIi (pc' := 5) (rest := []) 12 rfl rfl rfl rfl rfl rfl (l_rHas_f _ X _ hI hs) ?_
  refine er_if_eqT rfl (by decide +kernel) ?_
  refine er_loc (pc' := 16) rfl rfl rfl ?_
  refine er_ldc (pc' := 18) (-1000000001) rfl rfl rfl rfl rfl ?_
  refine er_cIz (pc' := 21) (rest := []) 12 rfl rfl rfl rfl rfl rfl (l_rError1 _ _ _) ?_
  intro Z9
  refine er_iret rfl rfl ?_
  exact RI_of rfl rfl
set_option maxRecDepth 100000 in
set_option maxHeartbeats 4000000 in
theorem l_rBecome (d : Nat) (X Z : Nat → Nat → Int32) {T : Nat} (hI : RK T (X 64)) {k : Nat} (hk : k < jn (jm (X 64))) (km : Int32) : EC (d + 3) 149 [.ref 63, .int (nI k), .int km] (Wd X Z) (fun r => if sIn km (nI 0) (nI 69) = true then RNJ (jm (X 64) 1 k) (ud (ud (jm (X 64)) 1 k (km / nI 10)) 2 k (km - km / nI 10 * nI 10)) T X r else RI (sErr 1) (yErr X 1) r) := by
  refine er_enter (L := [(0, _), (1, _), (2, _)]) rfl rfl rfl ?_
  have h8 := jn8 hI.ij
  have hk8 : k < 8 := by omega
  have hq := kind7 hI.ij k
  refine er_loc (pc' := 1) rfl rfl rfl ?_
  refine er_loc (pc' := 2) rfl rfl rfl ?_
  refine er_cIi (pc' := 5) (rest := []) 12 rfl rfl rfl rfl rfl rfl (l_rHas_t _ X _ hI hk) ?_
  refine er_if_eqF (pc' := 8) rfl (by decide +kernel) rfl ?_
  refine er_loc (pc' := 9) rfl rfl rfl ?_
  refine er_cSi (pc' := 12) (rest := []) rfl rfl rfl (l_isKm _ _ _) ?_
  refine er_if_neb (pc' := 15) rfl rfl (fun h12 => ?_) (fun h12 => ?_)
  · refine er_loc (pc' := 23) rfl rfl rfl ?_
    refine er_loc (pc' := 24) rfl rfl rfl ?_
    refine er_k (pc' := 25) (nI 1) rfl rfl rfl ?_
    refine er_loc (pc' := 26) rfl rfl rfl ?_
    refine er_k (pc' := 28) (nI 10) rfl rfl rfl ?_
    refine er_irem (pc' := 29) rfl rfl (by decide) ?_
    refine er_cIv (pc' := 32) (rest := []) 12 rfl rfl rfl rfl rfl rfl (l_rLets _ _ _ (show _ < 8 by omega) (show 1 < 6 by omega) _) ?_
    intro Z7
    refine er_loc (pc' := 33) rfl rfl rfl ?_
    refine er_k (pc' := 35) (nI 7) rfl rfl rfl ?_
    refine er_k (pc' := 37) (nI 6) rfl rfl rfl ?_
    refine er_loc (pc' := 38) rfl rfl rfl ?_
    refine er_imul (pc' := 39) rfl rfl ?_
    refine er_iadd (pc' := 40) rfl rfl ?_
    rw [show nI 7 + nI 6 * nI k = nI (7 + 6 * k) from by simp only [nI_add, nI_mul]]
    refine er_loc (pc' := 41) rfl rfl rfl ?_
    refine er_k (pc' := 43) (nI 10) rfl rfl rfl ?_
    refine er_idiv (pc' := 44) rfl rfl (by decide) ?_
    refine er_cIz (pc' := 47) (rest := []) 12 rfl rfl rfl rfl rfl rfl (l_rBecomes _ _ _ (by omega) _) ?_
    intro Z2
    refine er_iret rfl rfl ?_
    rw [if_pos h12]
    obtain ⟨g1, g2⟩ := km_q h12
    have h1 := wM (p := 7 + 6 * k + 1) hI rfl hk8 g2 (by omega)
    have h2 := wKind (p := 7 + 6 * k) h1.rk h1.j hk8 g1 rfl
    rw [ud_comm2 (by omega)] at h2
    exact RNJ_of (by rw [jm1 hk8, ud_same, u1_ne (by omega)]) (h1.trans h2)
  · refine er_loc (pc' := 16) rfl rfl rfl ?_
    refine er_ldc (pc' := 18) (-1000000001) rfl rfl rfl rfl rfl ?_
    refine er_cIz (pc' := 21) (rest := []) 12 rfl rfl rfl rfl rfl rfl (l_rError1 _ _ _) ?_
    intro Z9
    refine er_iret rfl rfl ?_
    rw [if_neg (by rw [h12]; decide)]
    exact RI_of rfl rfl
set_option maxRecDepth 100000 in
set_option maxHeartbeats 4000000 in
theorem l_rAs_no (d : Nat) (X Z : Nat → Nat → Int32) {T : Nat} (hI : RK T (X 64)) (s w : Int32) (hs : jHas (jm (X 64)) s = false) : EC (d + 3) 150 [.ref 63, .int s, .int w] (Wd X Z) (RI (sErr 1) (yErr X 1)) := by
  refine er_enter (L := [(0, _), (1, _), (2, _)]) rfl rfl rfl ?_
  refine er_loc (pc' := 1) rfl rfl rfl ?_
  refine er_loc (pc' := 2) rfl rfl rfl ?_
  refine er_cIi (pc' := 5) (rest := []) 12 rfl rfl rfl rfl rfl rfl (l_rHas_f _ X _ hI hs) ?_
  refine er_if_eqT rfl (by decide +kernel) ?_
  refine er_loc (pc' := 19) rfl rfl rfl ?_
  refine er_ldc (pc' := 21) (-1000000001) rfl rfl rfl rfl rfl ?_
  refine er_cIz (pc' := 24) (rest := []) 12 rfl rfl rfl rfl rfl rfl (l_rError1 _ _ _) ?_
  intro Z9
  refine er_iret rfl rfl ?_
  exact RI_of rfl rfl
set_option maxRecDepth 100000 in
set_option maxHeartbeats 4000000 in
theorem l_rAs (d : Nat) (X Z : Nat → Nat → Int32) {T : Nat} (hI : RK T (X 64)) {k : Nat} (hk : k < jn (jm (X 64))) (w : Int32) : EC (d + 3) 150 [.ref 63, .int (nI k), .int w] (Wd X Z) (fun r => if sIn w (nI 0) (nI 6) = true then (if sIsOf (sKind (jm (X 64)) k) w = true then RI (jm (X 64) 2 k) X r else RI (sErr 5) (yErr X 5) r) else RI (sErr 1) (yErr X 1) r) := by
  have h8 := jn8 hI.ij
  have hk8 : k < 8 := by omega
  have hq := kind7 hI.ij k
  rcases lt7 hq with e | e | e | e | e | e | e
  · refine er_enter (L := [(0, _), (1, _), (2, _)]) rfl rfl rfl ?_
    refine er_loc (pc' := 1) rfl rfl rfl ?_
    refine er_loc (pc' := 2) rfl rfl rfl ?_
    refine er_cIi (pc' := 5) (rest := []) 12 rfl rfl rfl rfl rfl rfl (l_rHas_t _ X _ hI hk) ?_
    refine er_if_eqF (pc' := 8) rfl (by decide +kernel) rfl ?_
    refine er_loc (pc' := 9) rfl rfl rfl ?_
    refine er_k (pc' := 10) (nI 0) rfl rfl rfl ?_
    refine er_k (pc' := 12) (nI 6) rfl rfl rfl ?_
    refine er_cSi (pc' := 15) (rest := []) rfl rfl rfl (l_in _ _ _ _ _) ?_
    refine er_if_neb (pc' := 18) rfl rfl (fun h15 => ?_) (fun h15 => ?_)
    · refine er_loc (pc' := 26) rfl rfl rfl ?_
      refine er_loc (pc' := 27) rfl rfl rfl ?_
      refine er_k (pc' := 28) (nI 0) rfl rfl rfl ?_
      refine er_cIi (pc' := 31) (rest := []) 12 rfl rfl rfl rfl rfl rfl (l_of0 _ X _ hI (by omega)) ?_
      rw [e]
      refine er_loc (pc' := 32) (L' := [(3, _), (0, _), (1, _), (2, _)]) rfl rfl rfl ?_
      refine er_loc (pc' := 33) rfl rfl rfl ?_
      refine er_if_eq (pc' := 36) rfl rfl (fun h33 => ?_) (fun h33 => ?_)
      · refine er_k (pc' := 73) (nI 1) rfl rfl rfl ?_
        refine er_goto rfl ?_
        refine er_loc (pc' := 79) (L' := [(4, _), (3, _), (0, _), (1, _), (2, _)]) rfl rfl rfl ?_
        refine er_loc (pc' := 81) rfl rfl rfl ?_
        refine er_if_eqF (pc' := 84) rfl (by decide +kernel) rfl ?_
        refine er_loc (pc' := 85) rfl rfl rfl ?_
        refine er_loc (pc' := 86) rfl rfl rfl ?_
        refine er_k (pc' := 87) (nI 1) rfl rfl rfl ?_
        refine er_cIi (pc' := 90) (rest := []) 12 rfl rfl rfl rfl rfl rfl (l_of1 _ X _ (by omega)) ?_
        refine er_goto rfl ?_
        refine er_iret rfl rfl ?_
        have e3 : sIsOf 0 w = true := by unfold sIsOf; rw [decide_eq_true h33]; simp
        rw [if_pos h15, if_pos e3]
        exact RI_of rfl rfl
      · refine er_loc (pc' := 37) rfl rfl rfl ?_
        refine er_loc (pc' := 38) rfl rfl rfl ?_
        refine er_cm_eq (pc' := 41) rfl rfl (fun h38 => ?_) (fun h38 => ?_)
        · refine er_k (pc' := 73) (nI 1) rfl rfl rfl ?_
          refine er_goto rfl ?_
          refine er_loc (pc' := 79) (L' := [(4, _), (3, _), (0, _), (1, _), (2, _)]) rfl rfl rfl ?_
          refine er_loc (pc' := 81) rfl rfl rfl ?_
          refine er_if_eqF (pc' := 84) rfl (by decide +kernel) rfl ?_
          refine er_loc (pc' := 85) rfl rfl rfl ?_
          refine er_loc (pc' := 86) rfl rfl rfl ?_
          refine er_k (pc' := 87) (nI 1) rfl rfl rfl ?_
          refine er_cIi (pc' := 90) (rest := []) 12 rfl rfl rfl rfl rfl rfl (l_of1 _ X _ (by omega)) ?_
          refine er_goto rfl ?_
          refine er_iret rfl rfl ?_
          have e3 : sIsOf 0 w = true := by unfold sIsOf; rw [decide_eq_true h38.symm]; simp
          rw [if_pos h15, if_pos e3]
          exact RI_of rfl rfl
        · refine er_loc (pc' := 42) rfl rfl rfl ?_
          refine er_k (pc' := 43) (nI 1) rfl rfl rfl ?_
          refine er_cm_ne (pc' := 46) rfl rfl (fun h43 => ?_) (fun h43 => ?_)
          · refine er_loc (pc' := 52) rfl rfl rfl ?_
            refine er_k (pc' := 53) (nI 2) rfl rfl rfl ?_
            refine er_cm_ne (pc' := 56) rfl rfl (fun h53 => ?_) (fun h53 => ?_)
            · refine er_loc (pc' := 62) rfl rfl rfl ?_
              refine er_k (pc' := 63) (nI 3) rfl rfl rfl ?_
              refine er_cm_ne (pc' := 66) rfl rfl (fun h63 => ?_) (fun h63 => ?_)
              · refine er_k (pc' := 77) (nI 0) rfl rfl rfl ?_
                refine er_loc (pc' := 79) (L' := [(4, _), (3, _), (0, _), (1, _), (2, _)]) rfl rfl rfl ?_
                refine er_loc (pc' := 81) rfl rfl rfl ?_
                refine er_if_eqT rfl (by decide +kernel) ?_
                refine er_loc (pc' := 94) rfl rfl rfl ?_
                refine er_ldc (pc' := 96) (-1000000005) rfl rfl rfl rfl rfl ?_
                refine er_cIz (pc' := 99) (rest := []) 12 rfl rfl rfl rfl rfl rfl (l_rError5 _ _ _) ?_
                intro Z9
                refine er_iret rfl rfl ?_
                have e3 : sIsOf 0 w = false := by unfold sIsOf; rw [decide_eq_false (fun hh => h38 hh.symm), decide_eq_false (fun hh => h33 hh.symm), decide_eq_false h33]; rfl
                rw [if_pos h15, if_neg (by rw [e3]; decide)]
                exact RI_of rfl rfl
              · refine er_loc (pc' := 67) rfl rfl rfl ?_
                refine er_k (pc' := 69) (nI 6) rfl rfl rfl ?_
                refine er_cm_neT rfl (by decide +kernel) ?_
                refine er_k (pc' := 77) (nI 0) rfl rfl rfl ?_
                refine er_loc (pc' := 79) (L' := [(4, _), (3, _), (0, _), (1, _), (2, _)]) rfl rfl rfl ?_
                refine er_loc (pc' := 81) rfl rfl rfl ?_
                refine er_if_eqT rfl (by decide +kernel) ?_
                refine er_loc (pc' := 94) rfl rfl rfl ?_
                refine er_ldc (pc' := 96) (-1000000005) rfl rfl rfl rfl rfl ?_
                refine er_cIz (pc' := 99) (rest := []) 12 rfl rfl rfl rfl rfl rfl (l_rError5 _ _ _) ?_
                intro Z9
                refine er_iret rfl rfl ?_
                have e3 : sIsOf 0 w = false := by unfold sIsOf; rw [decide_eq_false (fun hh => h38 hh.symm), decide_eq_false (fun hh => h33 hh.symm), decide_eq_false h33]; rfl
                rw [if_pos h15, if_neg (by rw [e3]; decide)]
                exact RI_of rfl rfl
            · refine er_loc (pc' := 57) rfl rfl rfl ?_
              refine er_k (pc' := 58) (nI 5) rfl rfl rfl ?_
              refine er_cm_eqF (pc' := 61) rfl (by decide +kernel) rfl ?_
              refine er_loc (pc' := 62) rfl rfl rfl ?_
              refine er_k (pc' := 63) (nI 3) rfl rfl rfl ?_
              refine er_cm_ne (pc' := 66) rfl rfl (fun h63 => ?_) (fun h63 => ?_)
              · refine er_k (pc' := 77) (nI 0) rfl rfl rfl ?_
                refine er_loc (pc' := 79) (L' := [(4, _), (3, _), (0, _), (1, _), (2, _)]) rfl rfl rfl ?_
                refine er_loc (pc' := 81) rfl rfl rfl ?_
                refine er_if_eqT rfl (by decide +kernel) ?_
                refine er_loc (pc' := 94) rfl rfl rfl ?_
                refine er_ldc (pc' := 96) (-1000000005) rfl rfl rfl rfl rfl ?_
                refine er_cIz (pc' := 99) (rest := []) 12 rfl rfl rfl rfl rfl rfl (l_rError5 _ _ _) ?_
                intro Z9
                refine er_iret rfl rfl ?_
                have e3 : sIsOf 0 w = false := by unfold sIsOf; rw [decide_eq_false (fun hh => h38 hh.symm), decide_eq_false (fun hh => h33 hh.symm), decide_eq_false h33]; rfl
                rw [if_pos h15, if_neg (by rw [e3]; decide)]
                exact RI_of rfl rfl
              · refine er_loc (pc' := 67) rfl rfl rfl ?_
                refine er_k (pc' := 69) (nI 6) rfl rfl rfl ?_
                refine er_cm_neT rfl (by decide +kernel) ?_
                refine er_k (pc' := 77) (nI 0) rfl rfl rfl ?_
                refine er_loc (pc' := 79) (L' := [(4, _), (3, _), (0, _), (1, _), (2, _)]) rfl rfl rfl ?_
                refine er_loc (pc' := 81) rfl rfl rfl ?_
                refine er_if_eqT rfl (by decide +kernel) ?_
                refine er_loc (pc' := 94) rfl rfl rfl ?_
                refine er_ldc (pc' := 96) (-1000000005) rfl rfl rfl rfl rfl ?_
                refine er_cIz (pc' := 99) (rest := []) 12 rfl rfl rfl rfl rfl rfl (l_rError5 _ _ _) ?_
                intro Z9
                refine er_iret rfl rfl ?_
                have e3 : sIsOf 0 w = false := by unfold sIsOf; rw [decide_eq_false (fun hh => h38 hh.symm), decide_eq_false (fun hh => h33 hh.symm), decide_eq_false h33]; rfl
                rw [if_pos h15, if_neg (by rw [e3]; decide)]
                exact RI_of rfl rfl
          · refine er_loc (pc' := 47) rfl rfl rfl ?_
            refine er_k (pc' := 48) (nI 4) rfl rfl rfl ?_
            refine er_cm_eqF (pc' := 51) rfl (by decide +kernel) rfl ?_
            refine er_loc (pc' := 52) rfl rfl rfl ?_
            refine er_k (pc' := 53) (nI 2) rfl rfl rfl ?_
            refine er_cm_ne (pc' := 56) rfl rfl (fun h53 => ?_) (fun h53 => ?_)
            · refine er_loc (pc' := 62) rfl rfl rfl ?_
              refine er_k (pc' := 63) (nI 3) rfl rfl rfl ?_
              refine er_cm_ne (pc' := 66) rfl rfl (fun h63 => ?_) (fun h63 => ?_)
              · refine er_k (pc' := 77) (nI 0) rfl rfl rfl ?_
                refine er_loc (pc' := 79) (L' := [(4, _), (3, _), (0, _), (1, _), (2, _)]) rfl rfl rfl ?_
                refine er_loc (pc' := 81) rfl rfl rfl ?_
                refine er_if_eqT rfl (by decide +kernel) ?_
                refine er_loc (pc' := 94) rfl rfl rfl ?_
                refine er_ldc (pc' := 96) (-1000000005) rfl rfl rfl rfl rfl ?_
                refine er_cIz (pc' := 99) (rest := []) 12 rfl rfl rfl rfl rfl rfl (l_rError5 _ _ _) ?_
                intro Z9
                refine er_iret rfl rfl ?_
                have e3 : sIsOf 0 w = false := by unfold sIsOf; rw [decide_eq_false (fun hh => h38 hh.symm), decide_eq_false (fun hh => h33 hh.symm), decide_eq_false h33]; rfl
                rw [if_pos h15, if_neg (by rw [e3]; decide)]
                exact RI_of rfl rfl
              · refine er_loc (pc' := 67) rfl rfl rfl ?_
                refine er_k (pc' := 69) (nI 6) rfl rfl rfl ?_
                refine er_cm_neT rfl (by decide +kernel) ?_
                refine er_k (pc' := 77) (nI 0) rfl rfl rfl ?_
                refine er_loc (pc' := 79) (L' := [(4, _), (3, _), (0, _), (1, _), (2, _)]) rfl rfl rfl ?_
                refine er_loc (pc' := 81) rfl rfl rfl ?_
                refine er_if_eqT rfl (by decide +kernel) ?_
                refine er_loc (pc' := 94) rfl rfl rfl ?_
                refine er_ldc (pc' := 96) (-1000000005) rfl rfl rfl rfl rfl ?_
                refine er_cIz (pc' := 99) (rest := []) 12 rfl rfl rfl rfl rfl rfl (l_rError5 _ _ _) ?_
                intro Z9
                refine er_iret rfl rfl ?_
                have e3 : sIsOf 0 w = false := by unfold sIsOf; rw [decide_eq_false (fun hh => h38 hh.symm), decide_eq_false (fun hh => h33 hh.symm), decide_eq_false h33]; rfl
                rw [if_pos h15, if_neg (by rw [e3]; decide)]
                exact RI_of rfl rfl
            · refine er_loc (pc' := 57) rfl rfl rfl ?_
              refine er_k (pc' := 58) (nI 5) rfl rfl rfl ?_
              refine er_cm_eqF (pc' := 61) rfl (by decide +kernel) rfl ?_
              refine er_loc (pc' := 62) rfl rfl rfl ?_
              refine er_k (pc' := 63) (nI 3) rfl rfl rfl ?_
              refine er_cm_ne (pc' := 66) rfl rfl (fun h63 => ?_) (fun h63 => ?_)
              · refine er_k (pc' := 77) (nI 0) rfl rfl rfl ?_
                refine er_loc (pc' := 79) (L' := [(4, _), (3, _), (0, _), (1, _), (2, _)]) rfl rfl rfl ?_
                refine er_loc (pc' := 81) rfl rfl rfl ?_
                refine er_if_eqT rfl (by decide +kernel) ?_
                refine er_loc (pc' := 94) rfl rfl rfl ?_
                refine er_ldc (pc' := 96) (-1000000005) rfl rfl rfl rfl rfl ?_
                refine er_cIz (pc' := 99) (rest := []) 12 rfl rfl rfl rfl rfl rfl (l_rError5 _ _ _) ?_
                intro Z9
                refine er_iret rfl rfl ?_
                have e3 : sIsOf 0 w = false := by unfold sIsOf; rw [decide_eq_false (fun hh => h38 hh.symm), decide_eq_false (fun hh => h33 hh.symm), decide_eq_false h33]; rfl
                rw [if_pos h15, if_neg (by rw [e3]; decide)]
                exact RI_of rfl rfl
              · refine er_loc (pc' := 67) rfl rfl rfl ?_
                refine er_k (pc' := 69) (nI 6) rfl rfl rfl ?_
                refine er_cm_neT rfl (by decide +kernel) ?_
                refine er_k (pc' := 77) (nI 0) rfl rfl rfl ?_
                refine er_loc (pc' := 79) (L' := [(4, _), (3, _), (0, _), (1, _), (2, _)]) rfl rfl rfl ?_
                refine er_loc (pc' := 81) rfl rfl rfl ?_
                refine er_if_eqT rfl (by decide +kernel) ?_
                refine er_loc (pc' := 94) rfl rfl rfl ?_
                refine er_ldc (pc' := 96) (-1000000005) rfl rfl rfl rfl rfl ?_
                refine er_cIz (pc' := 99) (rest := []) 12 rfl rfl rfl rfl rfl rfl (l_rError5 _ _ _) ?_
                intro Z9
                refine er_iret rfl rfl ?_
                have e3 : sIsOf 0 w = false := by unfold sIsOf; rw [decide_eq_false (fun hh => h38 hh.symm), decide_eq_false (fun hh => h33 hh.symm), decide_eq_false h33]; rfl
                rw [if_pos h15, if_neg (by rw [e3]; decide)]
                exact RI_of rfl rfl
    · refine er_loc (pc' := 19) rfl rfl rfl ?_
      refine er_ldc (pc' := 21) (-1000000001) rfl rfl rfl rfl rfl ?_
      refine er_cIz (pc' := 24) (rest := []) 12 rfl rfl rfl rfl rfl rfl (l_rError1 _ _ _) ?_
      intro Z9
      refine er_iret rfl rfl ?_
      rw [if_neg (by rw [h15]; decide)]
      exact RI_of rfl rfl
  · refine er_enter (L := [(0, _), (1, _), (2, _)]) rfl rfl rfl ?_
    refine er_loc (pc' := 1) rfl rfl rfl ?_
    refine er_loc (pc' := 2) rfl rfl rfl ?_
    refine er_cIi (pc' := 5) (rest := []) 12 rfl rfl rfl rfl rfl rfl (l_rHas_t _ X _ hI hk) ?_
    refine er_if_eqF (pc' := 8) rfl (by decide +kernel) rfl ?_
    refine er_loc (pc' := 9) rfl rfl rfl ?_
    refine er_k (pc' := 10) (nI 0) rfl rfl rfl ?_
    refine er_k (pc' := 12) (nI 6) rfl rfl rfl ?_
    refine er_cSi (pc' := 15) (rest := []) rfl rfl rfl (l_in _ _ _ _ _) ?_
    refine er_if_neb (pc' := 18) rfl rfl (fun h15 => ?_) (fun h15 => ?_)
    · refine er_loc (pc' := 26) rfl rfl rfl ?_
      refine er_loc (pc' := 27) rfl rfl rfl ?_
      refine er_k (pc' := 28) (nI 0) rfl rfl rfl ?_
      refine er_cIi (pc' := 31) (rest := []) 12 rfl rfl rfl rfl rfl rfl (l_of0 _ X _ hI (by omega)) ?_
      rw [e]
      refine er_loc (pc' := 32) (L' := [(3, _), (0, _), (1, _), (2, _)]) rfl rfl rfl ?_
      refine er_loc (pc' := 33) rfl rfl rfl ?_
      refine er_if_eq (pc' := 36) rfl rfl (fun h33 => ?_) (fun h33 => ?_)
      · refine er_k (pc' := 73) (nI 1) rfl rfl rfl ?_
        refine er_goto rfl ?_
        refine er_loc (pc' := 79) (L' := [(4, _), (3, _), (0, _), (1, _), (2, _)]) rfl rfl rfl ?_
        refine er_loc (pc' := 81) rfl rfl rfl ?_
        refine er_if_eqF (pc' := 84) rfl (by decide +kernel) rfl ?_
        refine er_loc (pc' := 85) rfl rfl rfl ?_
        refine er_loc (pc' := 86) rfl rfl rfl ?_
        refine er_k (pc' := 87) (nI 1) rfl rfl rfl ?_
        refine er_cIi (pc' := 90) (rest := []) 12 rfl rfl rfl rfl rfl rfl (l_of1 _ X _ (by omega)) ?_
        refine er_goto rfl ?_
        refine er_iret rfl rfl ?_
        have e3 : sIsOf 1 w = true := by unfold sIsOf; rw [decide_eq_true h33]; simp
        rw [if_pos h15, if_pos e3]
        exact RI_of rfl rfl
      · refine er_loc (pc' := 37) rfl rfl rfl ?_
        refine er_loc (pc' := 38) rfl rfl rfl ?_
        refine er_cm_eq (pc' := 41) rfl rfl (fun h38 => ?_) (fun h38 => ?_)
        · refine er_k (pc' := 73) (nI 1) rfl rfl rfl ?_
          refine er_goto rfl ?_
          refine er_loc (pc' := 79) (L' := [(4, _), (3, _), (0, _), (1, _), (2, _)]) rfl rfl rfl ?_
          refine er_loc (pc' := 81) rfl rfl rfl ?_
          refine er_if_eqF (pc' := 84) rfl (by decide +kernel) rfl ?_
          refine er_loc (pc' := 85) rfl rfl rfl ?_
          refine er_loc (pc' := 86) rfl rfl rfl ?_
          refine er_k (pc' := 87) (nI 1) rfl rfl rfl ?_
          refine er_cIi (pc' := 90) (rest := []) 12 rfl rfl rfl rfl rfl rfl (l_of1 _ X _ (by omega)) ?_
          refine er_goto rfl ?_
          refine er_iret rfl rfl ?_
          have e3 : sIsOf 1 w = true := by unfold sIsOf; rw [decide_eq_true h38.symm]; simp
          rw [if_pos h15, if_pos e3]
          exact RI_of rfl rfl
        · refine er_loc (pc' := 42) rfl rfl rfl ?_
          refine er_k (pc' := 43) (nI 1) rfl rfl rfl ?_
          refine er_cm_ne (pc' := 46) rfl rfl (fun h43 => ?_) (fun h43 => ?_)
          · refine er_loc (pc' := 52) rfl rfl rfl ?_
            refine er_k (pc' := 53) (nI 2) rfl rfl rfl ?_
            refine er_cm_ne (pc' := 56) rfl rfl (fun h53 => ?_) (fun h53 => ?_)
            · refine er_loc (pc' := 62) rfl rfl rfl ?_
              refine er_k (pc' := 63) (nI 3) rfl rfl rfl ?_
              refine er_cm_ne (pc' := 66) rfl rfl (fun h63 => ?_) (fun h63 => ?_)
              · refine er_k (pc' := 77) (nI 0) rfl rfl rfl ?_
                refine er_loc (pc' := 79) (L' := [(4, _), (3, _), (0, _), (1, _), (2, _)]) rfl rfl rfl ?_
                refine er_loc (pc' := 81) rfl rfl rfl ?_
                refine er_if_eqT rfl (by decide +kernel) ?_
                refine er_loc (pc' := 94) rfl rfl rfl ?_
                refine er_ldc (pc' := 96) (-1000000005) rfl rfl rfl rfl rfl ?_
                refine er_cIz (pc' := 99) (rest := []) 12 rfl rfl rfl rfl rfl rfl (l_rError5 _ _ _) ?_
                intro Z9
                refine er_iret rfl rfl ?_
                have e3 : sIsOf 1 w = false := by unfold sIsOf; rw [decide_eq_false (fun hh => h38 hh.symm), decide_eq_false (fun hh => h33 hh.symm), decide_eq_false h33]; rfl
                rw [if_pos h15, if_neg (by rw [e3]; decide)]
                exact RI_of rfl rfl
              · refine er_loc (pc' := 67) rfl rfl rfl ?_
                refine er_k (pc' := 69) (nI 6) rfl rfl rfl ?_
                refine er_cm_neT rfl (by decide +kernel) ?_
                refine er_k (pc' := 77) (nI 0) rfl rfl rfl ?_
                refine er_loc (pc' := 79) (L' := [(4, _), (3, _), (0, _), (1, _), (2, _)]) rfl rfl rfl ?_
                refine er_loc (pc' := 81) rfl rfl rfl ?_
                refine er_if_eqT rfl (by decide +kernel) ?_
                refine er_loc (pc' := 94) rfl rfl rfl ?_
                refine er_ldc (pc' := 96) (-1000000005) rfl rfl rfl rfl rfl ?_
                refine er_cIz (pc' := 99) (rest := []) 12 rfl rfl rfl rfl rfl rfl (l_rError5 _ _ _) ?_
                intro Z9
                refine er_iret rfl rfl ?_
                have e3 : sIsOf 1 w = false := by unfold sIsOf; rw [decide_eq_false (fun hh => h38 hh.symm), decide_eq_false (fun hh => h33 hh.symm), decide_eq_false h33]; rfl
                rw [if_pos h15, if_neg (by rw [e3]; decide)]
                exact RI_of rfl rfl
            · refine er_loc (pc' := 57) rfl rfl rfl ?_
              refine er_k (pc' := 58) (nI 5) rfl rfl rfl ?_
              refine er_cm_eqF (pc' := 61) rfl (by decide +kernel) rfl ?_
              refine er_loc (pc' := 62) rfl rfl rfl ?_
              refine er_k (pc' := 63) (nI 3) rfl rfl rfl ?_
              refine er_cm_ne (pc' := 66) rfl rfl (fun h63 => ?_) (fun h63 => ?_)
              · refine er_k (pc' := 77) (nI 0) rfl rfl rfl ?_
                refine er_loc (pc' := 79) (L' := [(4, _), (3, _), (0, _), (1, _), (2, _)]) rfl rfl rfl ?_
                refine er_loc (pc' := 81) rfl rfl rfl ?_
                refine er_if_eqT rfl (by decide +kernel) ?_
                refine er_loc (pc' := 94) rfl rfl rfl ?_
                refine er_ldc (pc' := 96) (-1000000005) rfl rfl rfl rfl rfl ?_
                refine er_cIz (pc' := 99) (rest := []) 12 rfl rfl rfl rfl rfl rfl (l_rError5 _ _ _) ?_
                intro Z9
                refine er_iret rfl rfl ?_
                have e3 : sIsOf 1 w = false := by unfold sIsOf; rw [decide_eq_false (fun hh => h38 hh.symm), decide_eq_false (fun hh => h33 hh.symm), decide_eq_false h33]; rfl
                rw [if_pos h15, if_neg (by rw [e3]; decide)]
                exact RI_of rfl rfl
              · refine er_loc (pc' := 67) rfl rfl rfl ?_
                refine er_k (pc' := 69) (nI 6) rfl rfl rfl ?_
                refine er_cm_neT rfl (by decide +kernel) ?_
                refine er_k (pc' := 77) (nI 0) rfl rfl rfl ?_
                refine er_loc (pc' := 79) (L' := [(4, _), (3, _), (0, _), (1, _), (2, _)]) rfl rfl rfl ?_
                refine er_loc (pc' := 81) rfl rfl rfl ?_
                refine er_if_eqT rfl (by decide +kernel) ?_
                refine er_loc (pc' := 94) rfl rfl rfl ?_
                refine er_ldc (pc' := 96) (-1000000005) rfl rfl rfl rfl rfl ?_
                refine er_cIz (pc' := 99) (rest := []) 12 rfl rfl rfl rfl rfl rfl (l_rError5 _ _ _) ?_
                intro Z9
                refine er_iret rfl rfl ?_
                have e3 : sIsOf 1 w = false := by unfold sIsOf; rw [decide_eq_false (fun hh => h38 hh.symm), decide_eq_false (fun hh => h33 hh.symm), decide_eq_false h33]; rfl
                rw [if_pos h15, if_neg (by rw [e3]; decide)]
                exact RI_of rfl rfl
          · refine er_loc (pc' := 47) rfl rfl rfl ?_
            refine er_k (pc' := 48) (nI 4) rfl rfl rfl ?_
            refine er_cm_eqF (pc' := 51) rfl (by decide +kernel) rfl ?_
            refine er_loc (pc' := 52) rfl rfl rfl ?_
            refine er_k (pc' := 53) (nI 2) rfl rfl rfl ?_
            refine er_cm_ne (pc' := 56) rfl rfl (fun h53 => ?_) (fun h53 => ?_)
            · refine er_loc (pc' := 62) rfl rfl rfl ?_
              refine er_k (pc' := 63) (nI 3) rfl rfl rfl ?_
              refine er_cm_ne (pc' := 66) rfl rfl (fun h63 => ?_) (fun h63 => ?_)
              · refine er_k (pc' := 77) (nI 0) rfl rfl rfl ?_
                refine er_loc (pc' := 79) (L' := [(4, _), (3, _), (0, _), (1, _), (2, _)]) rfl rfl rfl ?_
                refine er_loc (pc' := 81) rfl rfl rfl ?_
                refine er_if_eqT rfl (by decide +kernel) ?_
                refine er_loc (pc' := 94) rfl rfl rfl ?_
                refine er_ldc (pc' := 96) (-1000000005) rfl rfl rfl rfl rfl ?_
                refine er_cIz (pc' := 99) (rest := []) 12 rfl rfl rfl rfl rfl rfl (l_rError5 _ _ _) ?_
                intro Z9
                refine er_iret rfl rfl ?_
                have e3 : sIsOf 1 w = false := by unfold sIsOf; rw [decide_eq_false (fun hh => h38 hh.symm), decide_eq_false (fun hh => h33 hh.symm), decide_eq_false h33]; rfl
                rw [if_pos h15, if_neg (by rw [e3]; decide)]
                exact RI_of rfl rfl
              · refine er_loc (pc' := 67) rfl rfl rfl ?_
                refine er_k (pc' := 69) (nI 6) rfl rfl rfl ?_
                refine er_cm_neT rfl (by decide +kernel) ?_
                refine er_k (pc' := 77) (nI 0) rfl rfl rfl ?_
                refine er_loc (pc' := 79) (L' := [(4, _), (3, _), (0, _), (1, _), (2, _)]) rfl rfl rfl ?_
                refine er_loc (pc' := 81) rfl rfl rfl ?_
                refine er_if_eqT rfl (by decide +kernel) ?_
                refine er_loc (pc' := 94) rfl rfl rfl ?_
                refine er_ldc (pc' := 96) (-1000000005) rfl rfl rfl rfl rfl ?_
                refine er_cIz (pc' := 99) (rest := []) 12 rfl rfl rfl rfl rfl rfl (l_rError5 _ _ _) ?_
                intro Z9
                refine er_iret rfl rfl ?_
                have e3 : sIsOf 1 w = false := by unfold sIsOf; rw [decide_eq_false (fun hh => h38 hh.symm), decide_eq_false (fun hh => h33 hh.symm), decide_eq_false h33]; rfl
                rw [if_pos h15, if_neg (by rw [e3]; decide)]
                exact RI_of rfl rfl
            · refine er_loc (pc' := 57) rfl rfl rfl ?_
              refine er_k (pc' := 58) (nI 5) rfl rfl rfl ?_
              refine er_cm_eqF (pc' := 61) rfl (by decide +kernel) rfl ?_
              refine er_loc (pc' := 62) rfl rfl rfl ?_
              refine er_k (pc' := 63) (nI 3) rfl rfl rfl ?_
              refine er_cm_ne (pc' := 66) rfl rfl (fun h63 => ?_) (fun h63 => ?_)
              · refine er_k (pc' := 77) (nI 0) rfl rfl rfl ?_
                refine er_loc (pc' := 79) (L' := [(4, _), (3, _), (0, _), (1, _), (2, _)]) rfl rfl rfl ?_
                refine er_loc (pc' := 81) rfl rfl rfl ?_
                refine er_if_eqT rfl (by decide +kernel) ?_
                refine er_loc (pc' := 94) rfl rfl rfl ?_
                refine er_ldc (pc' := 96) (-1000000005) rfl rfl rfl rfl rfl ?_
                refine er_cIz (pc' := 99) (rest := []) 12 rfl rfl rfl rfl rfl rfl (l_rError5 _ _ _) ?_
                intro Z9
                refine er_iret rfl rfl ?_
                have e3 : sIsOf 1 w = false := by unfold sIsOf; rw [decide_eq_false (fun hh => h38 hh.symm), decide_eq_false (fun hh => h33 hh.symm), decide_eq_false h33]; rfl
                rw [if_pos h15, if_neg (by rw [e3]; decide)]
                exact RI_of rfl rfl
              · refine er_loc (pc' := 67) rfl rfl rfl ?_
                refine er_k (pc' := 69) (nI 6) rfl rfl rfl ?_
                refine er_cm_neT rfl (by decide +kernel) ?_
                refine er_k (pc' := 77) (nI 0) rfl rfl rfl ?_
                refine er_loc (pc' := 79) (L' := [(4, _), (3, _), (0, _), (1, _), (2, _)]) rfl rfl rfl ?_
                refine er_loc (pc' := 81) rfl rfl rfl ?_
                refine er_if_eqT rfl (by decide +kernel) ?_
                refine er_loc (pc' := 94) rfl rfl rfl ?_
                refine er_ldc (pc' := 96) (-1000000005) rfl rfl rfl rfl rfl ?_
                refine er_cIz (pc' := 99) (rest := []) 12 rfl rfl rfl rfl rfl rfl (l_rError5 _ _ _) ?_
                intro Z9
                refine er_iret rfl rfl ?_
                have e3 : sIsOf 1 w = false := by unfold sIsOf; rw [decide_eq_false (fun hh => h38 hh.symm), decide_eq_false (fun hh => h33 hh.symm), decide_eq_false h33]; rfl
                rw [if_pos h15, if_neg (by rw [e3]; decide)]
                exact RI_of rfl rfl
    · refine er_loc (pc' := 19) rfl rfl rfl ?_
      refine er_ldc (pc' := 21) (-1000000001) rfl rfl rfl rfl rfl ?_
      refine er_cIz (pc' := 24) (rest := []) 12 rfl rfl rfl rfl rfl rfl (l_rError1 _ _ _) ?_
      intro Z9
      refine er_iret rfl rfl ?_
      rw [if_neg (by rw [h15]; decide)]
      exact RI_of rfl rfl
  · refine er_enter (L := [(0, _), (1, _), (2, _)]) rfl rfl rfl ?_
    refine er_loc (pc' := 1) rfl rfl rfl ?_
    refine er_loc (pc' := 2) rfl rfl rfl ?_
    refine er_cIi (pc' := 5) (rest := []) 12 rfl rfl rfl rfl rfl rfl (l_rHas_t _ X _ hI hk) ?_
    refine er_if_eqF (pc' := 8) rfl (by decide +kernel) rfl ?_
    refine er_loc (pc' := 9) rfl rfl rfl ?_
    refine er_k (pc' := 10) (nI 0) rfl rfl rfl ?_
    refine er_k (pc' := 12) (nI 6) rfl rfl rfl ?_
    refine er_cSi (pc' := 15) (rest := []) rfl rfl rfl (l_in _ _ _ _ _) ?_
    refine er_if_neb (pc' := 18) rfl rfl (fun h15 => ?_) (fun h15 => ?_)
    · refine er_loc (pc' := 26) rfl rfl rfl ?_
      refine er_loc (pc' := 27) rfl rfl rfl ?_
      refine er_k (pc' := 28) (nI 0) rfl rfl rfl ?_
      refine er_cIi (pc' := 31) (rest := []) 12 rfl rfl rfl rfl rfl rfl (l_of0 _ X _ hI (by omega)) ?_
      rw [e]
      refine er_loc (pc' := 32) (L' := [(3, _), (0, _), (1, _), (2, _)]) rfl rfl rfl ?_
      refine er_loc (pc' := 33) rfl rfl rfl ?_
      refine er_if_eq (pc' := 36) rfl rfl (fun h33 => ?_) (fun h33 => ?_)
      · refine er_k (pc' := 73) (nI 1) rfl rfl rfl ?_
        refine er_goto rfl ?_
        refine er_loc (pc' := 79) (L' := [(4, _), (3, _), (0, _), (1, _), (2, _)]) rfl rfl rfl ?_
        refine er_loc (pc' := 81) rfl rfl rfl ?_
        refine er_if_eqF (pc' := 84) rfl (by decide +kernel) rfl ?_
        refine er_loc (pc' := 85) rfl rfl rfl ?_
        refine er_loc (pc' := 86) rfl rfl rfl ?_
        refine er_k (pc' := 87) (nI 1) rfl rfl rfl ?_
        refine er_cIi (pc' := 90) (rest := []) 12 rfl rfl rfl rfl rfl rfl (l_of1 _ X _ (by omega)) ?_
        refine er_goto rfl ?_
        refine er_iret rfl rfl ?_
        have e3 : sIsOf 2 w = true := by unfold sIsOf; rw [decide_eq_true h33]; simp
        rw [if_pos h15, if_pos e3]
        exact RI_of rfl rfl
      · refine er_loc (pc' := 37) rfl rfl rfl ?_
        refine er_loc (pc' := 38) rfl rfl rfl ?_
        refine er_cm_eq (pc' := 41) rfl rfl (fun h38 => ?_) (fun h38 => ?_)
        · refine er_k (pc' := 73) (nI 1) rfl rfl rfl ?_
          refine er_goto rfl ?_
          refine er_loc (pc' := 79) (L' := [(4, _), (3, _), (0, _), (1, _), (2, _)]) rfl rfl rfl ?_
          refine er_loc (pc' := 81) rfl rfl rfl ?_
          refine er_if_eqF (pc' := 84) rfl (by decide +kernel) rfl ?_
          refine er_loc (pc' := 85) rfl rfl rfl ?_
          refine er_loc (pc' := 86) rfl rfl rfl ?_
          refine er_k (pc' := 87) (nI 1) rfl rfl rfl ?_
          refine er_cIi (pc' := 90) (rest := []) 12 rfl rfl rfl rfl rfl rfl (l_of1 _ X _ (by omega)) ?_
          refine er_goto rfl ?_
          refine er_iret rfl rfl ?_
          have e3 : sIsOf 2 w = true := by unfold sIsOf; rw [decide_eq_true h38.symm]; simp
          rw [if_pos h15, if_pos e3]
          exact RI_of rfl rfl
        · refine er_loc (pc' := 42) rfl rfl rfl ?_
          refine er_k (pc' := 43) (nI 1) rfl rfl rfl ?_
          refine er_cm_ne (pc' := 46) rfl rfl (fun h43 => ?_) (fun h43 => ?_)
          · refine er_loc (pc' := 52) rfl rfl rfl ?_
            refine er_k (pc' := 53) (nI 2) rfl rfl rfl ?_
            refine er_cm_ne (pc' := 56) rfl rfl (fun h53 => ?_) (fun h53 => ?_)
            · refine er_loc (pc' := 62) rfl rfl rfl ?_
              refine er_k (pc' := 63) (nI 3) rfl rfl rfl ?_
              refine er_cm_ne (pc' := 66) rfl rfl (fun h63 => ?_) (fun h63 => ?_)
              · refine er_k (pc' := 77) (nI 0) rfl rfl rfl ?_
                refine er_loc (pc' := 79) (L' := [(4, _), (3, _), (0, _), (1, _), (2, _)]) rfl rfl rfl ?_
                refine er_loc (pc' := 81) rfl rfl rfl ?_
                refine er_if_eqT rfl (by decide +kernel) ?_
                refine er_loc (pc' := 94) rfl rfl rfl ?_
                refine er_ldc (pc' := 96) (-1000000005) rfl rfl rfl rfl rfl ?_
                refine er_cIz (pc' := 99) (rest := []) 12 rfl rfl rfl rfl rfl rfl (l_rError5 _ _ _) ?_
                intro Z9
                refine er_iret rfl rfl ?_
                have e3 : sIsOf 2 w = false := by unfold sIsOf; rw [decide_eq_false (fun hh => h38 hh.symm), decide_eq_false (fun hh => h33 hh.symm), decide_eq_false h33]; rfl
                rw [if_pos h15, if_neg (by rw [e3]; decide)]
                exact RI_of rfl rfl
              · refine er_loc (pc' := 67) rfl rfl rfl ?_
                refine er_k (pc' := 69) (nI 6) rfl rfl rfl ?_
                refine er_cm_neT rfl (by decide +kernel) ?_
                refine er_k (pc' := 77) (nI 0) rfl rfl rfl ?_
                refine er_loc (pc' := 79) (L' := [(4, _), (3, _), (0, _), (1, _), (2, _)]) rfl rfl rfl ?_
                refine er_loc (pc' := 81) rfl rfl rfl ?_
                refine er_if_eqT rfl (by decide +kernel) ?_
                refine er_loc (pc' := 94) rfl rfl rfl ?_
                refine er_ldc (pc' := 96) (-1000000005) rfl rfl rfl rfl rfl ?_
                refine er_cIz (pc' := 99) (rest := []) 12 rfl rfl rfl rfl rfl rfl (l_rError5 _ _ _) ?_
                intro Z9
                refine er_iret rfl rfl ?_
                have e3 : sIsOf 2 w = false := by unfold sIsOf; rw [decide_eq_false (fun hh => h38 hh.symm), decide_eq_false (fun hh => h33 hh.symm), decide_eq_false h33]; rfl
                rw [if_pos h15, if_neg (by rw [e3]; decide)]
                exact RI_of rfl rfl
            · refine er_loc (pc' := 57) rfl rfl rfl ?_
              refine er_k (pc' := 58) (nI 5) rfl rfl rfl ?_
              refine er_cm_eqF (pc' := 61) rfl (by decide +kernel) rfl ?_
              refine er_loc (pc' := 62) rfl rfl rfl ?_
              refine er_k (pc' := 63) (nI 3) rfl rfl rfl ?_
              refine er_cm_ne (pc' := 66) rfl rfl (fun h63 => ?_) (fun h63 => ?_)
              · refine er_k (pc' := 77) (nI 0) rfl rfl rfl ?_
                refine er_loc (pc' := 79) (L' := [(4, _), (3, _), (0, _), (1, _), (2, _)]) rfl rfl rfl ?_
                refine er_loc (pc' := 81) rfl rfl rfl ?_
                refine er_if_eqT rfl (by decide +kernel) ?_
                refine er_loc (pc' := 94) rfl rfl rfl ?_
                refine er_ldc (pc' := 96) (-1000000005) rfl rfl rfl rfl rfl ?_
                refine er_cIz (pc' := 99) (rest := []) 12 rfl rfl rfl rfl rfl rfl (l_rError5 _ _ _) ?_
                intro Z9
                refine er_iret rfl rfl ?_
                have e3 : sIsOf 2 w = false := by unfold sIsOf; rw [decide_eq_false (fun hh => h38 hh.symm), decide_eq_false (fun hh => h33 hh.symm), decide_eq_false h33]; rfl
                rw [if_pos h15, if_neg (by rw [e3]; decide)]
                exact RI_of rfl rfl
              · refine er_loc (pc' := 67) rfl rfl rfl ?_
                refine er_k (pc' := 69) (nI 6) rfl rfl rfl ?_
                refine er_cm_neT rfl (by decide +kernel) ?_
                refine er_k (pc' := 77) (nI 0) rfl rfl rfl ?_
                refine er_loc (pc' := 79) (L' := [(4, _), (3, _), (0, _), (1, _), (2, _)]) rfl rfl rfl ?_
                refine er_loc (pc' := 81) rfl rfl rfl ?_
                refine er_if_eqT rfl (by decide +kernel) ?_
                refine er_loc (pc' := 94) rfl rfl rfl ?_
                refine er_ldc (pc' := 96) (-1000000005) rfl rfl rfl rfl rfl ?_
                refine er_cIz (pc' := 99) (rest := []) 12 rfl rfl rfl rfl rfl rfl (l_rError5 _ _ _) ?_
                intro Z9
                refine er_iret rfl rfl ?_
                have e3 : sIsOf 2 w = false := by unfold sIsOf; rw [decide_eq_false (fun hh => h38 hh.symm), decide_eq_false (fun hh => h33 hh.symm), decide_eq_false h33]; rfl
                rw [if_pos h15, if_neg (by rw [e3]; decide)]
                exact RI_of rfl rfl
          · refine er_loc (pc' := 47) rfl rfl rfl ?_
            refine er_k (pc' := 48) (nI 4) rfl rfl rfl ?_
            refine er_cm_eqF (pc' := 51) rfl (by decide +kernel) rfl ?_
            refine er_loc (pc' := 52) rfl rfl rfl ?_
            refine er_k (pc' := 53) (nI 2) rfl rfl rfl ?_
            refine er_cm_ne (pc' := 56) rfl rfl (fun h53 => ?_) (fun h53 => ?_)
            · refine er_loc (pc' := 62) rfl rfl rfl ?_
              refine er_k (pc' := 63) (nI 3) rfl rfl rfl ?_
              refine er_cm_ne (pc' := 66) rfl rfl (fun h63 => ?_) (fun h63 => ?_)
              · refine er_k (pc' := 77) (nI 0) rfl rfl rfl ?_
                refine er_loc (pc' := 79) (L' := [(4, _), (3, _), (0, _), (1, _), (2, _)]) rfl rfl rfl ?_
                refine er_loc (pc' := 81) rfl rfl rfl ?_
                refine er_if_eqT rfl (by decide +kernel) ?_
                refine er_loc (pc' := 94) rfl rfl rfl ?_
                refine er_ldc (pc' := 96) (-1000000005) rfl rfl rfl rfl rfl ?_
                refine er_cIz (pc' := 99) (rest := []) 12 rfl rfl rfl rfl rfl rfl (l_rError5 _ _ _) ?_
                intro Z9
                refine er_iret rfl rfl ?_
                have e3 : sIsOf 2 w = false := by unfold sIsOf; rw [decide_eq_false (fun hh => h38 hh.symm), decide_eq_false (fun hh => h33 hh.symm), decide_eq_false h33]; rfl
                rw [if_pos h15, if_neg (by rw [e3]; decide)]
                exact RI_of rfl rfl
              · refine er_loc (pc' := 67) rfl rfl rfl ?_
                refine er_k (pc' := 69) (nI 6) rfl rfl rfl ?_
                refine er_cm_neT rfl (by decide +kernel) ?_
                refine er_k (pc' := 77) (nI 0) rfl rfl rfl ?_
                refine er_loc (pc' := 79) (L' := [(4, _), (3, _), (0, _), (1, _), (2, _)]) rfl rfl rfl ?_
                refine er_loc (pc' := 81) rfl rfl rfl ?_
                refine er_if_eqT rfl (by decide +kernel) ?_
                refine er_loc (pc' := 94) rfl rfl rfl ?_
                refine er_ldc (pc' := 96) (-1000000005) rfl rfl rfl rfl rfl ?_
                refine er_cIz (pc' := 99) (rest := []) 12 rfl rfl rfl rfl rfl rfl (l_rError5 _ _ _) ?_
                intro Z9
                refine er_iret rfl rfl ?_
                have e3 : sIsOf 2 w = false := by unfold sIsOf; rw [decide_eq_false (fun hh => h38 hh.symm), decide_eq_false (fun hh => h33 hh.symm), decide_eq_false h33]; rfl
                rw [if_pos h15, if_neg (by rw [e3]; decide)]
                exact RI_of rfl rfl
            · refine er_loc (pc' := 57) rfl rfl rfl ?_
              refine er_k (pc' := 58) (nI 5) rfl rfl rfl ?_
              refine er_cm_eqF (pc' := 61) rfl (by decide +kernel) rfl ?_
              refine er_loc (pc' := 62) rfl rfl rfl ?_
              refine er_k (pc' := 63) (nI 3) rfl rfl rfl ?_
              refine er_cm_ne (pc' := 66) rfl rfl (fun h63 => ?_) (fun h63 => ?_)
              · refine er_k (pc' := 77) (nI 0) rfl rfl rfl ?_
                refine er_loc (pc' := 79) (L' := [(4, _), (3, _), (0, _), (1, _), (2, _)]) rfl rfl rfl ?_
                refine er_loc (pc' := 81) rfl rfl rfl ?_
                refine er_if_eqT rfl (by decide +kernel) ?_
                refine er_loc (pc' := 94) rfl rfl rfl ?_
                refine er_ldc (pc' := 96) (-1000000005) rfl rfl rfl rfl rfl ?_
                refine er_cIz (pc' := 99) (rest := []) 12 rfl rfl rfl rfl rfl rfl (l_rError5 _ _ _) ?_
                intro Z9
                refine er_iret rfl rfl ?_
                have e3 : sIsOf 2 w = false := by unfold sIsOf; rw [decide_eq_false (fun hh => h38 hh.symm), decide_eq_false (fun hh => h33 hh.symm), decide_eq_false h33]; rfl
                rw [if_pos h15, if_neg (by rw [e3]; decide)]
                exact RI_of rfl rfl
              · refine er_loc (pc' := 67) rfl rfl rfl ?_
                refine er_k (pc' := 69) (nI 6) rfl rfl rfl ?_
                refine er_cm_neT rfl (by decide +kernel) ?_
                refine er_k (pc' := 77) (nI 0) rfl rfl rfl ?_
                refine er_loc (pc' := 79) (L' := [(4, _), (3, _), (0, _), (1, _), (2, _)]) rfl rfl rfl ?_
                refine er_loc (pc' := 81) rfl rfl rfl ?_
                refine er_if_eqT rfl (by decide +kernel) ?_
                refine er_loc (pc' := 94) rfl rfl rfl ?_
                refine er_ldc (pc' := 96) (-1000000005) rfl rfl rfl rfl rfl ?_
                refine er_cIz (pc' := 99) (rest := []) 12 rfl rfl rfl rfl rfl rfl (l_rError5 _ _ _) ?_
                intro Z9
                refine er_iret rfl rfl ?_
                have e3 : sIsOf 2 w = false := by unfold sIsOf; rw [decide_eq_false (fun hh => h38 hh.symm), decide_eq_false (fun hh => h33 hh.symm), decide_eq_false h33]; rfl
                rw [if_pos h15, if_neg (by rw [e3]; decide)]
                exact RI_of rfl rfl
    · refine er_loc (pc' := 19) rfl rfl rfl ?_
      refine er_ldc (pc' := 21) (-1000000001) rfl rfl rfl rfl rfl ?_
      refine er_cIz (pc' := 24) (rest := []) 12 rfl rfl rfl rfl rfl rfl (l_rError1 _ _ _) ?_
      intro Z9
      refine er_iret rfl rfl ?_
      rw [if_neg (by rw [h15]; decide)]
      exact RI_of rfl rfl
  · refine er_enter (L := [(0, _), (1, _), (2, _)]) rfl rfl rfl ?_
    refine er_loc (pc' := 1) rfl rfl rfl ?_
    refine er_loc (pc' := 2) rfl rfl rfl ?_
    refine er_cIi (pc' := 5) (rest := []) 12 rfl rfl rfl rfl rfl rfl (l_rHas_t _ X _ hI hk) ?_
    refine er_if_eqF (pc' := 8) rfl (by decide +kernel) rfl ?_
    refine er_loc (pc' := 9) rfl rfl rfl ?_
    refine er_k (pc' := 10) (nI 0) rfl rfl rfl ?_
    refine er_k (pc' := 12) (nI 6) rfl rfl rfl ?_
    refine er_cSi (pc' := 15) (rest := []) rfl rfl rfl (l_in _ _ _ _ _) ?_
    refine er_if_neb (pc' := 18) rfl rfl (fun h15 => ?_) (fun h15 => ?_)
    · refine er_loc (pc' := 26) rfl rfl rfl ?_
      refine er_loc (pc' := 27) rfl rfl rfl ?_
      refine er_k (pc' := 28) (nI 0) rfl rfl rfl ?_
      refine er_cIi (pc' := 31) (rest := []) 12 rfl rfl rfl rfl rfl rfl (l_of0 _ X _ hI (by omega)) ?_
      rw [e]
      refine er_loc (pc' := 32) (L' := [(3, _), (0, _), (1, _), (2, _)]) rfl rfl rfl ?_
      refine er_loc (pc' := 33) rfl rfl rfl ?_
      refine er_if_eq (pc' := 36) rfl rfl (fun h33 => ?_) (fun h33 => ?_)
      · refine er_k (pc' := 73) (nI 1) rfl rfl rfl ?_
        refine er_goto rfl ?_
        refine er_loc (pc' := 79) (L' := [(4, _), (3, _), (0, _), (1, _), (2, _)]) rfl rfl rfl ?_
        refine er_loc (pc' := 81) rfl rfl rfl ?_
        refine er_if_eqF (pc' := 84) rfl (by decide +kernel) rfl ?_
        refine er_loc (pc' := 85) rfl rfl rfl ?_
        refine er_loc (pc' := 86) rfl rfl rfl ?_
        refine er_k (pc' := 87) (nI 1) rfl rfl rfl ?_
        refine er_cIi (pc' := 90) (rest := []) 12 rfl rfl rfl rfl rfl rfl (l_of1 _ X _ (by omega)) ?_
        refine er_goto rfl ?_
        refine er_iret rfl rfl ?_
        have e3 : sIsOf 3 w = true := by unfold sIsOf; rw [decide_eq_true h33]; simp
        rw [if_pos h15, if_pos e3]
        exact RI_of rfl rfl
      · refine er_loc (pc' := 37) rfl rfl rfl ?_
        refine er_loc (pc' := 38) rfl rfl rfl ?_
        refine er_cm_eq (pc' := 41) rfl rfl (fun h38 => ?_) (fun h38 => ?_)
        · refine er_k (pc' := 73) (nI 1) rfl rfl rfl ?_
          refine er_goto rfl ?_
          refine er_loc (pc' := 79) (L' := [(4, _), (3, _), (0, _), (1, _), (2, _)]) rfl rfl rfl ?_
          refine er_loc (pc' := 81) rfl rfl rfl ?_
          refine er_if_eqF (pc' := 84) rfl (by decide +kernel) rfl ?_
          refine er_loc (pc' := 85) rfl rfl rfl ?_
          refine er_loc (pc' := 86) rfl rfl rfl ?_
          refine er_k (pc' := 87) (nI 1) rfl rfl rfl ?_
          refine er_cIi (pc' := 90) (rest := []) 12 rfl rfl rfl rfl rfl rfl (l_of1 _ X _ (by omega)) ?_
          refine er_goto rfl ?_
          refine er_iret rfl rfl ?_
          have e3 : sIsOf 3 w = true := by unfold sIsOf; rw [decide_eq_true h38.symm]; simp
          rw [if_pos h15, if_pos e3]
          exact RI_of rfl rfl
        · refine er_loc (pc' := 42) rfl rfl rfl ?_
          refine er_k (pc' := 43) (nI 1) rfl rfl rfl ?_
          refine er_cm_ne (pc' := 46) rfl rfl (fun h43 => ?_) (fun h43 => ?_)
          · refine er_loc (pc' := 52) rfl rfl rfl ?_
            refine er_k (pc' := 53) (nI 2) rfl rfl rfl ?_
            refine er_cm_ne (pc' := 56) rfl rfl (fun h53 => ?_) (fun h53 => ?_)
            · refine er_loc (pc' := 62) rfl rfl rfl ?_
              refine er_k (pc' := 63) (nI 3) rfl rfl rfl ?_
              refine er_cm_ne (pc' := 66) rfl rfl (fun h63 => ?_) (fun h63 => ?_)
              · refine er_k (pc' := 77) (nI 0) rfl rfl rfl ?_
                refine er_loc (pc' := 79) (L' := [(4, _), (3, _), (0, _), (1, _), (2, _)]) rfl rfl rfl ?_
                refine er_loc (pc' := 81) rfl rfl rfl ?_
                refine er_if_eqT rfl (by decide +kernel) ?_
                refine er_loc (pc' := 94) rfl rfl rfl ?_
                refine er_ldc (pc' := 96) (-1000000005) rfl rfl rfl rfl rfl ?_
                refine er_cIz (pc' := 99) (rest := []) 12 rfl rfl rfl rfl rfl rfl (l_rError5 _ _ _) ?_
                intro Z9
                refine er_iret rfl rfl ?_
                have e3 : sIsOf 3 w = false := by unfold sIsOf; rw [decide_eq_false (fun hh => h38 hh.symm), decide_eq_false (fun hh => h33 hh.symm), decide_eq_false h33]; rfl
                rw [if_pos h15, if_neg (by rw [e3]; decide)]
                exact RI_of rfl rfl
              · refine er_loc (pc' := 67) rfl rfl rfl ?_
                refine er_k (pc' := 69) (nI 6) rfl rfl rfl ?_
                refine er_cm_neT rfl (by decide +kernel) ?_
                refine er_k (pc' := 77) (nI 0) rfl rfl rfl ?_
                refine er_loc (pc' := 79) (L' := [(4, _), (3, _), (0, _), (1, _), (2, _)]) rfl rfl rfl ?_
                refine er_loc (pc' := 81) rfl rfl rfl ?_
                refine er_if_eqT rfl (by decide +kernel) ?_
                refine er_loc (pc' := 94) rfl rfl rfl ?_
                refine er_ldc (pc' := 96) (-1000000005) rfl rfl rfl rfl rfl ?_
                refine er_cIz (pc' := 99) (rest := []) 12 rfl rfl rfl rfl rfl rfl (l_rError5 _ _ _) ?_
                intro Z9
                refine er_iret rfl rfl ?_
                have e3 : sIsOf 3 w = false := by unfold sIsOf; rw [decide_eq_false (fun hh => h38 hh.symm), decide_eq_false (fun hh => h33 hh.symm), decide_eq_false h33]; rfl
                rw [if_pos h15, if_neg (by rw [e3]; decide)]
                exact RI_of rfl rfl
            · refine er_loc (pc' := 57) rfl rfl rfl ?_
              refine er_k (pc' := 58) (nI 5) rfl rfl rfl ?_
              refine er_cm_eqF (pc' := 61) rfl (by decide +kernel) rfl ?_
              refine er_loc (pc' := 62) rfl rfl rfl ?_
              refine er_k (pc' := 63) (nI 3) rfl rfl rfl ?_
              refine er_cm_ne (pc' := 66) rfl rfl (fun h63 => ?_) (fun h63 => ?_)
              · refine er_k (pc' := 77) (nI 0) rfl rfl rfl ?_
                refine er_loc (pc' := 79) (L' := [(4, _), (3, _), (0, _), (1, _), (2, _)]) rfl rfl rfl ?_
                refine er_loc (pc' := 81) rfl rfl rfl ?_
                refine er_if_eqT rfl (by decide +kernel) ?_
                refine er_loc (pc' := 94) rfl rfl rfl ?_
                refine er_ldc (pc' := 96) (-1000000005) rfl rfl rfl rfl rfl ?_
                refine er_cIz (pc' := 99) (rest := []) 12 rfl rfl rfl rfl rfl rfl (l_rError5 _ _ _) ?_
                intro Z9
                refine er_iret rfl rfl ?_
                have e3 : sIsOf 3 w = false := by unfold sIsOf; rw [decide_eq_false (fun hh => h38 hh.symm), decide_eq_false (fun hh => h33 hh.symm), decide_eq_false h33]; rfl
                rw [if_pos h15, if_neg (by rw [e3]; decide)]
                exact RI_of rfl rfl
              · refine er_loc (pc' := 67) rfl rfl rfl ?_
                refine er_k (pc' := 69) (nI 6) rfl rfl rfl ?_
                refine er_cm_neT rfl (by decide +kernel) ?_
                refine er_k (pc' := 77) (nI 0) rfl rfl rfl ?_
                refine er_loc (pc' := 79) (L' := [(4, _), (3, _), (0, _), (1, _), (2, _)]) rfl rfl rfl ?_
                refine er_loc (pc' := 81) rfl rfl rfl ?_
                refine er_if_eqT rfl (by decide +kernel) ?_
                refine er_loc (pc' := 94) rfl rfl rfl ?_
                refine er_ldc (pc' := 96) (-1000000005) rfl rfl rfl rfl rfl ?_
                refine er_cIz (pc' := 99) (rest := []) 12 rfl rfl rfl rfl rfl rfl (l_rError5 _ _ _) ?_
                intro Z9
                refine er_iret rfl rfl ?_
                have e3 : sIsOf 3 w = false := by unfold sIsOf; rw [decide_eq_false (fun hh => h38 hh.symm), decide_eq_false (fun hh => h33 hh.symm), decide_eq_false h33]; rfl
                rw [if_pos h15, if_neg (by rw [e3]; decide)]
                exact RI_of rfl rfl
          · refine er_loc (pc' := 47) rfl rfl rfl ?_
            refine er_k (pc' := 48) (nI 4) rfl rfl rfl ?_
            refine er_cm_eqF (pc' := 51) rfl (by decide +kernel) rfl ?_
            refine er_loc (pc' := 52) rfl rfl rfl ?_
            refine er_k (pc' := 53) (nI 2) rfl rfl rfl ?_
            refine er_cm_ne (pc' := 56) rfl rfl (fun h53 => ?_) (fun h53 => ?_)
            · refine er_loc (pc' := 62) rfl rfl rfl ?_
              refine er_k (pc' := 63) (nI 3) rfl rfl rfl ?_
              refine er_cm_ne (pc' := 66) rfl rfl (fun h63 => ?_) (fun h63 => ?_)
              · refine er_k (pc' := 77) (nI 0) rfl rfl rfl ?_
                refine er_loc (pc' := 79) (L' := [(4, _), (3, _), (0, _), (1, _), (2, _)]) rfl rfl rfl ?_
                refine er_loc (pc' := 81) rfl rfl rfl ?_
                refine er_if_eqT rfl (by decide +kernel) ?_
                refine er_loc (pc' := 94) rfl rfl rfl ?_
                refine er_ldc (pc' := 96) (-1000000005) rfl rfl rfl rfl rfl ?_
                refine er_cIz (pc' := 99) (rest := []) 12 rfl rfl rfl rfl rfl rfl (l_rError5 _ _ _) ?_
                intro Z9
                refine er_iret rfl rfl ?_
                have e3 : sIsOf 3 w = false := by unfold sIsOf; rw [decide_eq_false (fun hh => h38 hh.symm), decide_eq_false (fun hh => h33 hh.symm), decide_eq_false h33]; rfl
                rw [if_pos h15, if_neg (by rw [e3]; decide)]
                exact RI_of rfl rfl
              · refine er_loc (pc' := 67) rfl rfl rfl ?_
                refine er_k (pc' := 69) (nI 6) rfl rfl rfl ?_
                refine er_cm_neT rfl (by decide +kernel) ?_
                refine er_k (pc' := 77) (nI 0) rfl rfl rfl ?_
                refine er_loc (pc' := 79) (L' := [(4, _), (3, _), (0, _), (1, _), (2, _)]) rfl rfl rfl ?_
                refine er_loc (pc' := 81) rfl rfl rfl ?_
                refine er_if_eqT rfl (by decide +kernel) ?_
                refine er_loc (pc' := 94) rfl rfl rfl ?_
                refine er_ldc (pc' := 96) (-1000000005) rfl rfl rfl rfl rfl ?_
                refine er_cIz (pc' := 99) (rest := []) 12 rfl rfl rfl rfl rfl rfl (l_rError5 _ _ _) ?_
                intro Z9
                refine er_iret rfl rfl ?_
                have e3 : sIsOf 3 w = false := by unfold sIsOf; rw [decide_eq_false (fun hh => h38 hh.symm), decide_eq_false (fun hh => h33 hh.symm), decide_eq_false h33]; rfl
                rw [if_pos h15, if_neg (by rw [e3]; decide)]
                exact RI_of rfl rfl
            · refine er_loc (pc' := 57) rfl rfl rfl ?_
              refine er_k (pc' := 58) (nI 5) rfl rfl rfl ?_
              refine er_cm_eqF (pc' := 61) rfl (by decide +kernel) rfl ?_
              refine er_loc (pc' := 62) rfl rfl rfl ?_
              refine er_k (pc' := 63) (nI 3) rfl rfl rfl ?_
              refine er_cm_ne (pc' := 66) rfl rfl (fun h63 => ?_) (fun h63 => ?_)
              · refine er_k (pc' := 77) (nI 0) rfl rfl rfl ?_
                refine er_loc (pc' := 79) (L' := [(4, _), (3, _), (0, _), (1, _), (2, _)]) rfl rfl rfl ?_
                refine er_loc (pc' := 81) rfl rfl rfl ?_
                refine er_if_eqT rfl (by decide +kernel) ?_
                refine er_loc (pc' := 94) rfl rfl rfl ?_
                refine er_ldc (pc' := 96) (-1000000005) rfl rfl rfl rfl rfl ?_
                refine er_cIz (pc' := 99) (rest := []) 12 rfl rfl rfl rfl rfl rfl (l_rError5 _ _ _) ?_
                intro Z9
                refine er_iret rfl rfl ?_
                have e3 : sIsOf 3 w = false := by unfold sIsOf; rw [decide_eq_false (fun hh => h38 hh.symm), decide_eq_false (fun hh => h33 hh.symm), decide_eq_false h33]; rfl
                rw [if_pos h15, if_neg (by rw [e3]; decide)]
                exact RI_of rfl rfl
              · refine er_loc (pc' := 67) rfl rfl rfl ?_
                refine er_k (pc' := 69) (nI 6) rfl rfl rfl ?_
                refine er_cm_neT rfl (by decide +kernel) ?_
                refine er_k (pc' := 77) (nI 0) rfl rfl rfl ?_
                refine er_loc (pc' := 79) (L' := [(4, _), (3, _), (0, _), (1, _), (2, _)]) rfl rfl rfl ?_
                refine er_loc (pc' := 81) rfl rfl rfl ?_
                refine er_if_eqT rfl (by decide +kernel) ?_
                refine er_loc (pc' := 94) rfl rfl rfl ?_
                refine er_ldc (pc' := 96) (-1000000005) rfl rfl rfl rfl rfl ?_
                refine er_cIz (pc' := 99) (rest := []) 12 rfl rfl rfl rfl rfl rfl (l_rError5 _ _ _) ?_
                intro Z9
                refine er_iret rfl rfl ?_
                have e3 : sIsOf 3 w = false := by unfold sIsOf; rw [decide_eq_false (fun hh => h38 hh.symm), decide_eq_false (fun hh => h33 hh.symm), decide_eq_false h33]; rfl
                rw [if_pos h15, if_neg (by rw [e3]; decide)]
                exact RI_of rfl rfl
    · refine er_loc (pc' := 19) rfl rfl rfl ?_
      refine er_ldc (pc' := 21) (-1000000001) rfl rfl rfl rfl rfl ?_
      refine er_cIz (pc' := 24) (rest := []) 12 rfl rfl rfl rfl rfl rfl (l_rError1 _ _ _) ?_
      intro Z9
      refine er_iret rfl rfl ?_
      rw [if_neg (by rw [h15]; decide)]
      exact RI_of rfl rfl
  · refine er_enter (L := [(0, _), (1, _), (2, _)]) rfl rfl rfl ?_
    refine er_loc (pc' := 1) rfl rfl rfl ?_
    refine er_loc (pc' := 2) rfl rfl rfl ?_
    refine er_cIi (pc' := 5) (rest := []) 12 rfl rfl rfl rfl rfl rfl (l_rHas_t _ X _ hI hk) ?_
    refine er_if_eqF (pc' := 8) rfl (by decide +kernel) rfl ?_
    refine er_loc (pc' := 9) rfl rfl rfl ?_
    refine er_k (pc' := 10) (nI 0) rfl rfl rfl ?_
    refine er_k (pc' := 12) (nI 6) rfl rfl rfl ?_
    refine er_cSi (pc' := 15) (rest := []) rfl rfl rfl (l_in _ _ _ _ _) ?_
    refine er_if_neb (pc' := 18) rfl rfl (fun h15 => ?_) (fun h15 => ?_)
    · refine er_loc (pc' := 26) rfl rfl rfl ?_
      refine er_loc (pc' := 27) rfl rfl rfl ?_
      refine er_k (pc' := 28) (nI 0) rfl rfl rfl ?_
      refine er_cIi (pc' := 31) (rest := []) 12 rfl rfl rfl rfl rfl rfl (l_of0 _ X _ hI (by omega)) ?_
      rw [e]
      refine er_loc (pc' := 32) (L' := [(3, _), (0, _), (1, _), (2, _)]) rfl rfl rfl ?_
      refine er_loc (pc' := 33) rfl rfl rfl ?_
      refine er_if_eq (pc' := 36) rfl rfl (fun h33 => ?_) (fun h33 => ?_)
      · refine er_k (pc' := 73) (nI 1) rfl rfl rfl ?_
        refine er_goto rfl ?_
        refine er_loc (pc' := 79) (L' := [(4, _), (3, _), (0, _), (1, _), (2, _)]) rfl rfl rfl ?_
        refine er_loc (pc' := 81) rfl rfl rfl ?_
        refine er_if_eqF (pc' := 84) rfl (by decide +kernel) rfl ?_
        refine er_loc (pc' := 85) rfl rfl rfl ?_
        refine er_loc (pc' := 86) rfl rfl rfl ?_
        refine er_k (pc' := 87) (nI 1) rfl rfl rfl ?_
        refine er_cIi (pc' := 90) (rest := []) 12 rfl rfl rfl rfl rfl rfl (l_of1 _ X _ (by omega)) ?_
        refine er_goto rfl ?_
        refine er_iret rfl rfl ?_
        have e3 : sIsOf 4 w = true := by unfold sIsOf; rw [decide_eq_true h33]; simp
        rw [if_pos h15, if_pos e3]
        exact RI_of rfl rfl
      · refine er_loc (pc' := 37) rfl rfl rfl ?_
        refine er_loc (pc' := 38) rfl rfl rfl ?_
        refine er_cm_eq (pc' := 41) rfl rfl (fun h38 => ?_) (fun h38 => ?_)
        · refine er_k (pc' := 73) (nI 1) rfl rfl rfl ?_
          refine er_goto rfl ?_
          refine er_loc (pc' := 79) (L' := [(4, _), (3, _), (0, _), (1, _), (2, _)]) rfl rfl rfl ?_
          refine er_loc (pc' := 81) rfl rfl rfl ?_
          refine er_if_eqF (pc' := 84) rfl (by decide +kernel) rfl ?_
          refine er_loc (pc' := 85) rfl rfl rfl ?_
          refine er_loc (pc' := 86) rfl rfl rfl ?_
          refine er_k (pc' := 87) (nI 1) rfl rfl rfl ?_
          refine er_cIi (pc' := 90) (rest := []) 12 rfl rfl rfl rfl rfl rfl (l_of1 _ X _ (by omega)) ?_
          refine er_goto rfl ?_
          refine er_iret rfl rfl ?_
          have e3 : sIsOf 4 w = true := by unfold sIsOf; rw [decide_eq_true h38.symm]; simp
          rw [if_pos h15, if_pos e3]
          exact RI_of rfl rfl
        · refine er_loc (pc' := 42) rfl rfl rfl ?_
          refine er_k (pc' := 43) (nI 1) rfl rfl rfl ?_
          refine er_cm_ne (pc' := 46) rfl rfl (fun h43 => ?_) (fun h43 => ?_)
          · refine er_loc (pc' := 52) rfl rfl rfl ?_
            refine er_k (pc' := 53) (nI 2) rfl rfl rfl ?_
            refine er_cm_ne (pc' := 56) rfl rfl (fun h53 => ?_) (fun h53 => ?_)
            · refine er_loc (pc' := 62) rfl rfl rfl ?_
              refine er_k (pc' := 63) (nI 3) rfl rfl rfl ?_
              refine er_cm_ne (pc' := 66) rfl rfl (fun h63 => ?_) (fun h63 => ?_)
              · refine er_k (pc' := 77) (nI 0) rfl rfl rfl ?_
                refine er_loc (pc' := 79) (L' := [(4, _), (3, _), (0, _), (1, _), (2, _)]) rfl rfl rfl ?_
                refine er_loc (pc' := 81) rfl rfl rfl ?_
                refine er_if_eqT rfl (by decide +kernel) ?_
                refine er_loc (pc' := 94) rfl rfl rfl ?_
                refine er_ldc (pc' := 96) (-1000000005) rfl rfl rfl rfl rfl ?_
                refine er_cIz (pc' := 99) (rest := []) 12 rfl rfl rfl rfl rfl rfl (l_rError5 _ _ _) ?_
                intro Z9
                refine er_iret rfl rfl ?_
                have e3 : sIsOf 4 w = false := by unfold sIsOf; rw [decide_eq_false (fun hh => h38 hh.symm), decide_eq_false (fun hh => h43 (hh.symm.trans (by decide +kernel))), decide_eq_false h33]; rfl
                rw [if_pos h15, if_neg (by rw [e3]; decide)]
                exact RI_of rfl rfl
              · refine er_loc (pc' := 67) rfl rfl rfl ?_
                refine er_k (pc' := 69) (nI 6) rfl rfl rfl ?_
                refine er_cm_neT rfl (by decide +kernel) ?_
                refine er_k (pc' := 77) (nI 0) rfl rfl rfl ?_
                refine er_loc (pc' := 79) (L' := [(4, _), (3, _), (0, _), (1, _), (2, _)]) rfl rfl rfl ?_
                refine er_loc (pc' := 81) rfl rfl rfl ?_
                refine er_if_eqT rfl (by decide +kernel) ?_
                refine er_loc (pc' := 94) rfl rfl rfl ?_
                refine er_ldc (pc' := 96) (-1000000005) rfl rfl rfl rfl rfl ?_
                refine er_cIz (pc' := 99) (rest := []) 12 rfl rfl rfl rfl rfl rfl (l_rError5 _ _ _) ?_
                intro Z9
                refine er_iret rfl rfl ?_
                have e3 : sIsOf 4 w = false := by unfold sIsOf; rw [decide_eq_false (fun hh => h38 hh.symm), decide_eq_false (fun hh => h43 (hh.symm.trans (by decide +kernel))), decide_eq_false h33]; rfl
                rw [if_pos h15, if_neg (by rw [e3]; decide)]
                exact RI_of rfl rfl
            · refine er_loc (pc' := 57) rfl rfl rfl ?_
              refine er_k (pc' := 58) (nI 5) rfl rfl rfl ?_
              refine er_cm_eqF (pc' := 61) rfl (by decide +kernel) rfl ?_
              refine er_loc (pc' := 62) rfl rfl rfl ?_
              refine er_k (pc' := 63) (nI 3) rfl rfl rfl ?_
              refine er_cm_ne (pc' := 66) rfl rfl (fun h63 => ?_) (fun h63 => ?_)
              · refine er_k (pc' := 77) (nI 0) rfl rfl rfl ?_
                refine er_loc (pc' := 79) (L' := [(4, _), (3, _), (0, _), (1, _), (2, _)]) rfl rfl rfl ?_
                refine er_loc (pc' := 81) rfl rfl rfl ?_
                refine er_if_eqT rfl (by decide +kernel) ?_
                refine er_loc (pc' := 94) rfl rfl rfl ?_
                refine er_ldc (pc' := 96) (-1000000005) rfl rfl rfl rfl rfl ?_
                refine er_cIz (pc' := 99) (rest := []) 12 rfl rfl rfl rfl rfl rfl (l_rError5 _ _ _) ?_
                intro Z9
                refine er_iret rfl rfl ?_
                have e3 : sIsOf 4 w = false := by unfold sIsOf; rw [decide_eq_false (fun hh => h38 hh.symm), decide_eq_false (fun hh => h43 (hh.symm.trans (by decide +kernel))), decide_eq_false h33]; rfl
                rw [if_pos h15, if_neg (by rw [e3]; decide)]
                exact RI_of rfl rfl
              · refine er_loc (pc' := 67) rfl rfl rfl ?_
                refine er_k (pc' := 69) (nI 6) rfl rfl rfl ?_
                refine er_cm_neT rfl (by decide +kernel) ?_
                refine er_k (pc' := 77) (nI 0) rfl rfl rfl ?_
                refine er_loc (pc' := 79) (L' := [(4, _), (3, _), (0, _), (1, _), (2, _)]) rfl rfl rfl ?_
                refine er_loc (pc' := 81) rfl rfl rfl ?_
                refine er_if_eqT rfl (by decide +kernel) ?_
                refine er_loc (pc' := 94) rfl rfl rfl ?_
                refine er_ldc (pc' := 96) (-1000000005) rfl rfl rfl rfl rfl ?_
                refine er_cIz (pc' := 99) (rest := []) 12 rfl rfl rfl rfl rfl rfl (l_rError5 _ _ _) ?_
                intro Z9
                refine er_iret rfl rfl ?_
                have e3 : sIsOf 4 w = false := by unfold sIsOf; rw [decide_eq_false (fun hh => h38 hh.symm), decide_eq_false (fun hh => h43 (hh.symm.trans (by decide +kernel))), decide_eq_false h33]; rfl
                rw [if_pos h15, if_neg (by rw [e3]; decide)]
                exact RI_of rfl rfl
          · refine er_loc (pc' := 47) rfl rfl rfl ?_
            refine er_k (pc' := 48) (nI 4) rfl rfl rfl ?_
            refine er_cm_eqT rfl (rfl) ?_
            refine er_k (pc' := 73) (nI 1) rfl rfl rfl ?_
            refine er_goto rfl ?_
            refine er_loc (pc' := 79) (L' := [(4, _), (3, _), (0, _), (1, _), (2, _)]) rfl rfl rfl ?_
            refine er_loc (pc' := 81) rfl rfl rfl ?_
            refine er_if_eqF (pc' := 84) rfl (by decide +kernel) rfl ?_
            refine er_loc (pc' := 85) rfl rfl rfl ?_
            refine er_loc (pc' := 86) rfl rfl rfl ?_
            refine er_k (pc' := 87) (nI 1) rfl rfl rfl ?_
            refine er_cIi (pc' := 90) (rest := []) 12 rfl rfl rfl rfl rfl rfl (l_of1 _ X _ (by omega)) ?_
            refine er_goto rfl ?_
            refine er_iret rfl rfl ?_
            have e3 : sIsOf 4 w = true := by unfold sIsOf; rw [h43]; decide +kernel
            rw [if_pos h15, if_pos e3]
            exact RI_of rfl rfl
    · refine er_loc (pc' := 19) rfl rfl rfl ?_
      refine er_ldc (pc' := 21) (-1000000001) rfl rfl rfl rfl rfl ?_
      refine er_cIz (pc' := 24) (rest := []) 12 rfl rfl rfl rfl rfl rfl (l_rError1 _ _ _) ?_
      intro Z9
      refine er_iret rfl rfl ?_
      rw [if_neg (by rw [h15]; decide)]
      exact RI_of rfl rfl
  · refine er_enter (L := [(0, _), (1, _), (2, _)]) rfl rfl rfl ?_
    refine er_loc (pc' := 1) rfl rfl rfl ?_
    refine er_loc (pc' := 2) rfl rfl rfl ?_
    refine er_cIi (pc' := 5) (rest := []) 12 rfl rfl rfl rfl rfl rfl (l_rHas_t _ X _ hI hk) ?_
    refine er_if_eqF (pc' := 8) rfl (by decide +kernel) rfl ?_
    refine er_loc (pc' := 9) rfl rfl rfl ?_
    refine er_k (pc' := 10) (nI 0) rfl rfl rfl ?_
    refine er_k (pc' := 12) (nI 6) rfl rfl rfl ?_
    refine er_cSi (pc' := 15) (rest := []) rfl rfl rfl (l_in _ _ _ _ _) ?_
    refine er_if_neb (pc' := 18) rfl rfl (fun h15 => ?_) (fun h15 => ?_)
    · refine er_loc (pc' := 26) rfl rfl rfl ?_
      refine er_loc (pc' := 27) rfl rfl rfl ?_
      refine er_k (pc' := 28) (nI 0) rfl rfl rfl ?_
      refine er_cIi (pc' := 31) (rest := []) 12 rfl rfl rfl rfl rfl rfl (l_of0 _ X _ hI (by omega)) ?_
      rw [e]
      refine er_loc (pc' := 32) (L' := [(3, _), (0, _), (1, _), (2, _)]) rfl rfl rfl ?_
      refine er_loc (pc' := 33) rfl rfl rfl ?_
      refine er_if_eq (pc' := 36) rfl rfl (fun h33 => ?_) (fun h33 => ?_)
      · refine er_k (pc' := 73) (nI 1) rfl rfl rfl ?_
        refine er_goto rfl ?_
        refine er_loc (pc' := 79) (L' := [(4, _), (3, _), (0, _), (1, _), (2, _)]) rfl rfl rfl ?_
        refine er_loc (pc' := 81) rfl rfl rfl ?_
        refine er_if_eqF (pc' := 84) rfl (by decide +kernel) rfl ?_
        refine er_loc (pc' := 85) rfl rfl rfl ?_
        refine er_loc (pc' := 86) rfl rfl rfl ?_
        refine er_k (pc' := 87) (nI 1) rfl rfl rfl ?_
        refine er_cIi (pc' := 90) (rest := []) 12 rfl rfl rfl rfl rfl rfl (l_of1 _ X _ (by omega)) ?_
        refine er_goto rfl ?_
        refine er_iret rfl rfl ?_
        have e3 : sIsOf 5 w = true := by unfold sIsOf; rw [decide_eq_true h33]; simp
        rw [if_pos h15, if_pos e3]
        exact RI_of rfl rfl
      · refine er_loc (pc' := 37) rfl rfl rfl ?_
        refine er_loc (pc' := 38) rfl rfl rfl ?_
        refine er_cm_eq (pc' := 41) rfl rfl (fun h38 => ?_) (fun h38 => ?_)
        · refine er_k (pc' := 73) (nI 1) rfl rfl rfl ?_
          refine er_goto rfl ?_
          refine er_loc (pc' := 79) (L' := [(4, _), (3, _), (0, _), (1, _), (2, _)]) rfl rfl rfl ?_
          refine er_loc (pc' := 81) rfl rfl rfl ?_
          refine er_if_eqF (pc' := 84) rfl (by decide +kernel) rfl ?_
          refine er_loc (pc' := 85) rfl rfl rfl ?_
          refine er_loc (pc' := 86) rfl rfl rfl ?_
          refine er_k (pc' := 87) (nI 1) rfl rfl rfl ?_
          refine er_cIi (pc' := 90) (rest := []) 12 rfl rfl rfl rfl rfl rfl (l_of1 _ X _ (by omega)) ?_
          refine er_goto rfl ?_
          refine er_iret rfl rfl ?_
          have e3 : sIsOf 5 w = true := by unfold sIsOf; rw [decide_eq_true h38.symm]; simp
          rw [if_pos h15, if_pos e3]
          exact RI_of rfl rfl
        · refine er_loc (pc' := 42) rfl rfl rfl ?_
          refine er_k (pc' := 43) (nI 1) rfl rfl rfl ?_
          refine er_cm_ne (pc' := 46) rfl rfl (fun h43 => ?_) (fun h43 => ?_)
          · refine er_loc (pc' := 52) rfl rfl rfl ?_
            refine er_k (pc' := 53) (nI 2) rfl rfl rfl ?_
            refine er_cm_ne (pc' := 56) rfl rfl (fun h53 => ?_) (fun h53 => ?_)
            · refine er_loc (pc' := 62) rfl rfl rfl ?_
              refine er_k (pc' := 63) (nI 3) rfl rfl rfl ?_
              refine er_cm_ne (pc' := 66) rfl rfl (fun h63 => ?_) (fun h63 => ?_)
              · refine er_k (pc' := 77) (nI 0) rfl rfl rfl ?_
                refine er_loc (pc' := 79) (L' := [(4, _), (3, _), (0, _), (1, _), (2, _)]) rfl rfl rfl ?_
                refine er_loc (pc' := 81) rfl rfl rfl ?_
                refine er_if_eqT rfl (by decide +kernel) ?_
                refine er_loc (pc' := 94) rfl rfl rfl ?_
                refine er_ldc (pc' := 96) (-1000000005) rfl rfl rfl rfl rfl ?_
                refine er_cIz (pc' := 99) (rest := []) 12 rfl rfl rfl rfl rfl rfl (l_rError5 _ _ _) ?_
                intro Z9
                refine er_iret rfl rfl ?_
                have e3 : sIsOf 5 w = false := by unfold sIsOf; rw [decide_eq_false (fun hh => h38 hh.symm), decide_eq_false (fun hh => h53 (hh.symm.trans (by decide +kernel))), decide_eq_false h33]; rfl
                rw [if_pos h15, if_neg (by rw [e3]; decide)]
                exact RI_of rfl rfl
              · refine er_loc (pc' := 67) rfl rfl rfl ?_
                refine er_k (pc' := 69) (nI 6) rfl rfl rfl ?_
                refine er_cm_neT rfl (by decide +kernel) ?_
                refine er_k (pc' := 77) (nI 0) rfl rfl rfl ?_
                refine er_loc (pc' := 79) (L' := [(4, _), (3, _), (0, _), (1, _), (2, _)]) rfl rfl rfl ?_
                refine er_loc (pc' := 81) rfl rfl rfl ?_
                refine er_if_eqT rfl (by decide +kernel) ?_
                refine er_loc (pc' := 94) rfl rfl rfl ?_
                refine er_ldc (pc' := 96) (-1000000005) rfl rfl rfl rfl rfl ?_
                refine er_cIz (pc' := 99) (rest := []) 12 rfl rfl rfl rfl rfl rfl (l_rError5 _ _ _) ?_
                intro Z9
                refine er_iret rfl rfl ?_
                have e3 : sIsOf 5 w = false := by unfold sIsOf; rw [decide_eq_false (fun hh => h38 hh.symm), decide_eq_false (fun hh => h53 (hh.symm.trans (by decide +kernel))), decide_eq_false h33]; rfl
                rw [if_pos h15, if_neg (by rw [e3]; decide)]
                exact RI_of rfl rfl
            · refine er_loc (pc' := 57) rfl rfl rfl ?_
              refine er_k (pc' := 58) (nI 5) rfl rfl rfl ?_
              refine er_cm_eqT rfl (rfl) ?_
              refine er_k (pc' := 73) (nI 1) rfl rfl rfl ?_
              refine er_goto rfl ?_
              refine er_loc (pc' := 79) (L' := [(4, _), (3, _), (0, _), (1, _), (2, _)]) rfl rfl rfl ?_
              refine er_loc (pc' := 81) rfl rfl rfl ?_
              refine er_if_eqF (pc' := 84) rfl (by decide +kernel) rfl ?_
              refine er_loc (pc' := 85) rfl rfl rfl ?_
              refine er_loc (pc' := 86) rfl rfl rfl ?_
              refine er_k (pc' := 87) (nI 1) rfl rfl rfl ?_
              refine er_cIi (pc' := 90) (rest := []) 12 rfl rfl rfl rfl rfl rfl (l_of1 _ X _ (by omega)) ?_
              refine er_goto rfl ?_
              refine er_iret rfl rfl ?_
              have e3 : sIsOf 5 w = true := by unfold sIsOf; rw [h53]; decide +kernel
              rw [if_pos h15, if_pos e3]
              exact RI_of rfl rfl
          · refine er_loc (pc' := 47) rfl rfl rfl ?_
            refine er_k (pc' := 48) (nI 4) rfl rfl rfl ?_
            refine er_cm_eqF (pc' := 51) rfl (by decide +kernel) rfl ?_
            refine er_loc (pc' := 52) rfl rfl rfl ?_
            refine er_k (pc' := 53) (nI 2) rfl rfl rfl ?_
            refine er_cm_ne (pc' := 56) rfl rfl (fun h53 => ?_) (fun h53 => ?_)
            · refine er_loc (pc' := 62) rfl rfl rfl ?_
              refine er_k (pc' := 63) (nI 3) rfl rfl rfl ?_
              refine er_cm_ne (pc' := 66) rfl rfl (fun h63 => ?_) (fun h63 => ?_)
              · refine er_k (pc' := 77) (nI 0) rfl rfl rfl ?_
                refine er_loc (pc' := 79) (L' := [(4, _), (3, _), (0, _), (1, _), (2, _)]) rfl rfl rfl ?_
                refine er_loc (pc' := 81) rfl rfl rfl ?_
                refine er_if_eqT rfl (by decide +kernel) ?_
                refine er_loc (pc' := 94) rfl rfl rfl ?_
                refine er_ldc (pc' := 96) (-1000000005) rfl rfl rfl rfl rfl ?_
                refine er_cIz (pc' := 99) (rest := []) 12 rfl rfl rfl rfl rfl rfl (l_rError5 _ _ _) ?_
                intro Z9
                refine er_iret rfl rfl ?_
                have e3 : sIsOf 5 w = false := by unfold sIsOf; rw [decide_eq_false (fun hh => h38 hh.symm), decide_eq_false (fun hh => h53 (hh.symm.trans (by decide +kernel))), decide_eq_false h33]; rfl
                rw [if_pos h15, if_neg (by rw [e3]; decide)]
                exact RI_of rfl rfl
              · refine er_loc (pc' := 67) rfl rfl rfl ?_
                refine er_k (pc' := 69) (nI 6) rfl rfl rfl ?_
                refine er_cm_neT rfl (by decide +kernel) ?_
                refine er_k (pc' := 77) (nI 0) rfl rfl rfl ?_
                refine er_loc (pc' := 79) (L' := [(4, _), (3, _), (0, _), (1, _), (2, _)]) rfl rfl rfl ?_
                refine er_loc (pc' := 81) rfl rfl rfl ?_
                refine er_if_eqT rfl (by decide +kernel) ?_
                refine er_loc (pc' := 94) rfl rfl rfl ?_
                refine er_ldc (pc' := 96) (-1000000005) rfl rfl rfl rfl rfl ?_
                refine er_cIz (pc' := 99) (rest := []) 12 rfl rfl rfl rfl rfl rfl (l_rError5 _ _ _) ?_
                intro Z9
                refine er_iret rfl rfl ?_
                have e3 : sIsOf 5 w = false := by unfold sIsOf; rw [decide_eq_false (fun hh => h38 hh.symm), decide_eq_false (fun hh => h53 (hh.symm.trans (by decide +kernel))), decide_eq_false h33]; rfl
                rw [if_pos h15, if_neg (by rw [e3]; decide)]
                exact RI_of rfl rfl
            · refine er_loc (pc' := 57) rfl rfl rfl ?_
              refine er_k (pc' := 58) (nI 5) rfl rfl rfl ?_
              refine er_cm_eqT rfl (rfl) ?_
              refine er_k (pc' := 73) (nI 1) rfl rfl rfl ?_
              refine er_goto rfl ?_
              refine er_loc (pc' := 79) (L' := [(4, _), (3, _), (0, _), (1, _), (2, _)]) rfl rfl rfl ?_
              refine er_loc (pc' := 81) rfl rfl rfl ?_
              refine er_if_eqF (pc' := 84) rfl (by decide +kernel) rfl ?_
              refine er_loc (pc' := 85) rfl rfl rfl ?_
              refine er_loc (pc' := 86) rfl rfl rfl ?_
              refine er_k (pc' := 87) (nI 1) rfl rfl rfl ?_
              refine er_cIi (pc' := 90) (rest := []) 12 rfl rfl rfl rfl rfl rfl (l_of1 _ X _ (by omega)) ?_
              refine er_goto rfl ?_
              refine er_iret rfl rfl ?_
              have e3 : sIsOf 5 w = true := by unfold sIsOf; rw [h53]; decide +kernel
              rw [if_pos h15, if_pos e3]
              exact RI_of rfl rfl
    · refine er_loc (pc' := 19) rfl rfl rfl ?_
      refine er_ldc (pc' := 21) (-1000000001) rfl rfl rfl rfl rfl ?_
      refine er_cIz (pc' := 24) (rest := []) 12 rfl rfl rfl rfl rfl rfl (l_rError1 _ _ _) ?_
      intro Z9
      refine er_iret rfl rfl ?_
      rw [if_neg (by rw [h15]; decide)]
      exact RI_of rfl rfl
  · refine er_enter (L := [(0, _), (1, _), (2, _)]) rfl rfl rfl ?_
    refine er_loc (pc' := 1) rfl rfl rfl ?_
    refine er_loc (pc' := 2) rfl rfl rfl ?_
    refine er_cIi (pc' := 5) (rest := []) 12 rfl rfl rfl rfl rfl rfl (l_rHas_t _ X _ hI hk) ?_
    refine er_if_eqF (pc' := 8) rfl (by decide +kernel) rfl ?_
    refine er_loc (pc' := 9) rfl rfl rfl ?_
    refine er_k (pc' := 10) (nI 0) rfl rfl rfl ?_
    refine er_k (pc' := 12) (nI 6) rfl rfl rfl ?_
    refine er_cSi (pc' := 15) (rest := []) rfl rfl rfl (l_in _ _ _ _ _) ?_
    refine er_if_neb (pc' := 18) rfl rfl (fun h15 => ?_) (fun h15 => ?_)
    · refine er_loc (pc' := 26) rfl rfl rfl ?_
      refine er_loc (pc' := 27) rfl rfl rfl ?_
      refine er_k (pc' := 28) (nI 0) rfl rfl rfl ?_
      refine er_cIi (pc' := 31) (rest := []) 12 rfl rfl rfl rfl rfl rfl (l_of0 _ X _ hI (by omega)) ?_
      rw [e]
      refine er_loc (pc' := 32) (L' := [(3, _), (0, _), (1, _), (2, _)]) rfl rfl rfl ?_
      refine er_loc (pc' := 33) rfl rfl rfl ?_
      refine er_if_eq (pc' := 36) rfl rfl (fun h33 => ?_) (fun h33 => ?_)
      · refine er_k (pc' := 73) (nI 1) rfl rfl rfl ?_
        refine er_goto rfl ?_
        refine er_loc (pc' := 79) (L' := [(4, _), (3, _), (0, _), (1, _), (2, _)]) rfl rfl rfl ?_
        refine er_loc (pc' := 81) rfl rfl rfl ?_
        refine er_if_eqF (pc' := 84) rfl (by decide +kernel) rfl ?_
        refine er_loc (pc' := 85) rfl rfl rfl ?_
        refine er_loc (pc' := 86) rfl rfl rfl ?_
        refine er_k (pc' := 87) (nI 1) rfl rfl rfl ?_
        refine er_cIi (pc' := 90) (rest := []) 12 rfl rfl rfl rfl rfl rfl (l_of1 _ X _ (by omega)) ?_
        refine er_goto rfl ?_
        refine er_iret rfl rfl ?_
        have e3 : sIsOf 6 w = true := by unfold sIsOf; rw [decide_eq_true h33]; simp
        rw [if_pos h15, if_pos e3]
        exact RI_of rfl rfl
      · refine er_loc (pc' := 37) rfl rfl rfl ?_
        refine er_loc (pc' := 38) rfl rfl rfl ?_
        refine er_cm_eq (pc' := 41) rfl rfl (fun h38 => ?_) (fun h38 => ?_)
        · refine er_k (pc' := 73) (nI 1) rfl rfl rfl ?_
          refine er_goto rfl ?_
          refine er_loc (pc' := 79) (L' := [(4, _), (3, _), (0, _), (1, _), (2, _)]) rfl rfl rfl ?_
          refine er_loc (pc' := 81) rfl rfl rfl ?_
          refine er_if_eqF (pc' := 84) rfl (by decide +kernel) rfl ?_
          refine er_loc (pc' := 85) rfl rfl rfl ?_
          refine er_loc (pc' := 86) rfl rfl rfl ?_
          refine er_k (pc' := 87) (nI 1) rfl rfl rfl ?_
          refine er_cIi (pc' := 90) (rest := []) 12 rfl rfl rfl rfl rfl rfl (l_of1 _ X _ (by omega)) ?_
          refine er_goto rfl ?_
          refine er_iret rfl rfl ?_
          have e3 : sIsOf 6 w = true := by unfold sIsOf; rw [decide_eq_true h38.symm]; simp
          rw [if_pos h15, if_pos e3]
          exact RI_of rfl rfl
        · refine er_loc (pc' := 42) rfl rfl rfl ?_
          refine er_k (pc' := 43) (nI 1) rfl rfl rfl ?_
          refine er_cm_ne (pc' := 46) rfl rfl (fun h43 => ?_) (fun h43 => ?_)
          · refine er_loc (pc' := 52) rfl rfl rfl ?_
            refine er_k (pc' := 53) (nI 2) rfl rfl rfl ?_
            refine er_cm_ne (pc' := 56) rfl rfl (fun h53 => ?_) (fun h53 => ?_)
            · refine er_loc (pc' := 62) rfl rfl rfl ?_
              refine er_k (pc' := 63) (nI 3) rfl rfl rfl ?_
              refine er_cm_ne (pc' := 66) rfl rfl (fun h63 => ?_) (fun h63 => ?_)
              · refine er_k (pc' := 77) (nI 0) rfl rfl rfl ?_
                refine er_loc (pc' := 79) (L' := [(4, _), (3, _), (0, _), (1, _), (2, _)]) rfl rfl rfl ?_
                refine er_loc (pc' := 81) rfl rfl rfl ?_
                refine er_if_eqT rfl (by decide +kernel) ?_
                refine er_loc (pc' := 94) rfl rfl rfl ?_
                refine er_ldc (pc' := 96) (-1000000005) rfl rfl rfl rfl rfl ?_
                refine er_cIz (pc' := 99) (rest := []) 12 rfl rfl rfl rfl rfl rfl (l_rError5 _ _ _) ?_
                intro Z9
                refine er_iret rfl rfl ?_
                have e3 : sIsOf 6 w = false := by unfold sIsOf; rw [decide_eq_false (fun hh => h38 hh.symm), decide_eq_false (fun hh => h63 (hh.symm.trans (by decide +kernel))), decide_eq_false h33]; rfl
                rw [if_pos h15, if_neg (by rw [e3]; decide)]
                exact RI_of rfl rfl
              · refine er_loc (pc' := 67) rfl rfl rfl ?_
                refine er_k (pc' := 69) (nI 6) rfl rfl rfl ?_
                refine er_cm_neF (pc' := 72) rfl (rfl) rfl ?_
                refine er_k (pc' := 73) (nI 1) rfl rfl rfl ?_
                refine er_goto rfl ?_
                refine er_loc (pc' := 79) (L' := [(4, _), (3, _), (0, _), (1, _), (2, _)]) rfl rfl rfl ?_
                refine er_loc (pc' := 81) rfl rfl rfl ?_
                refine er_if_eqF (pc' := 84) rfl (by decide +kernel) rfl ?_
                refine er_loc (pc' := 85) rfl rfl rfl ?_
                refine er_loc (pc' := 86) rfl rfl rfl ?_
                refine er_k (pc' := 87) (nI 1) rfl rfl rfl ?_
                refine er_cIi (pc' := 90) (rest := []) 12 rfl rfl rfl rfl rfl rfl (l_of1 _ X _ (by omega)) ?_
                refine er_goto rfl ?_
                refine er_iret rfl rfl ?_
                have e3 : sIsOf 6 w = true := by unfold sIsOf; rw [h63]; decide +kernel
                rw [if_pos h15, if_pos e3]
                exact RI_of rfl rfl
            · refine er_loc (pc' := 57) rfl rfl rfl ?_
              refine er_k (pc' := 58) (nI 5) rfl rfl rfl ?_
              refine er_cm_eqF (pc' := 61) rfl (by decide +kernel) rfl ?_
              refine er_loc (pc' := 62) rfl rfl rfl ?_
              refine er_k (pc' := 63) (nI 3) rfl rfl rfl ?_
              refine er_cm_ne (pc' := 66) rfl rfl (fun h63 => ?_) (fun h63 => ?_)
              · refine er_k (pc' := 77) (nI 0) rfl rfl rfl ?_
                refine er_loc (pc' := 79) (L' := [(4, _), (3, _), (0, _), (1, _), (2, _)]) rfl rfl rfl ?_
                refine er_loc (pc' := 81) rfl rfl rfl ?_
                refine er_if_eqT rfl (by decide +kernel) ?_
                refine er_loc (pc' := 94) rfl rfl rfl ?_
                refine er_ldc (pc' := 96) (-1000000005) rfl rfl rfl rfl rfl ?_
                refine er_cIz (pc' := 99) (rest := []) 12 rfl rfl rfl rfl rfl rfl (l_rError5 _ _ _) ?_
                intro Z9
                refine er_iret rfl rfl ?_
                have e3 : sIsOf 6 w = false := by unfold sIsOf; rw [decide_eq_false (fun hh => h38 hh.symm), decide_eq_false (fun hh => h63 (hh.symm.trans (by decide +kernel))), decide_eq_false h33]; rfl
                rw [if_pos h15, if_neg (by rw [e3]; decide)]
                exact RI_of rfl rfl
              · refine er_loc (pc' := 67) rfl rfl rfl ?_
                refine er_k (pc' := 69) (nI 6) rfl rfl rfl ?_
                refine er_cm_neF (pc' := 72) rfl (rfl) rfl ?_
                refine er_k (pc' := 73) (nI 1) rfl rfl rfl ?_
                refine er_goto rfl ?_
                refine er_loc (pc' := 79) (L' := [(4, _), (3, _), (0, _), (1, _), (2, _)]) rfl rfl rfl ?_
                refine er_loc (pc' := 81) rfl rfl rfl ?_
                refine er_if_eqF (pc' := 84) rfl (by decide +kernel) rfl ?_
                refine er_loc (pc' := 85) rfl rfl rfl ?_
                refine er_loc (pc' := 86) rfl rfl rfl ?_
                refine er_k (pc' := 87) (nI 1) rfl rfl rfl ?_
                refine er_cIi (pc' := 90) (rest := []) 12 rfl rfl rfl rfl rfl rfl (l_of1 _ X _ (by omega)) ?_
                refine er_goto rfl ?_
                refine er_iret rfl rfl ?_
                have e3 : sIsOf 6 w = true := by unfold sIsOf; rw [h63]; decide +kernel
                rw [if_pos h15, if_pos e3]
                exact RI_of rfl rfl
          · refine er_loc (pc' := 47) rfl rfl rfl ?_
            refine er_k (pc' := 48) (nI 4) rfl rfl rfl ?_
            refine er_cm_eqF (pc' := 51) rfl (by decide +kernel) rfl ?_
            refine er_loc (pc' := 52) rfl rfl rfl ?_
            refine er_k (pc' := 53) (nI 2) rfl rfl rfl ?_
            refine er_cm_ne (pc' := 56) rfl rfl (fun h53 => ?_) (fun h53 => ?_)
            · refine er_loc (pc' := 62) rfl rfl rfl ?_
              refine er_k (pc' := 63) (nI 3) rfl rfl rfl ?_
              refine er_cm_ne (pc' := 66) rfl rfl (fun h63 => ?_) (fun h63 => ?_)
              · refine er_k (pc' := 77) (nI 0) rfl rfl rfl ?_
                refine er_loc (pc' := 79) (L' := [(4, _), (3, _), (0, _), (1, _), (2, _)]) rfl rfl rfl ?_
                refine er_loc (pc' := 81) rfl rfl rfl ?_
                refine er_if_eqT rfl (by decide +kernel) ?_
                refine er_loc (pc' := 94) rfl rfl rfl ?_
                refine er_ldc (pc' := 96) (-1000000005) rfl rfl rfl rfl rfl ?_
                refine er_cIz (pc' := 99) (rest := []) 12 rfl rfl rfl rfl rfl rfl (l_rError5 _ _ _) ?_
                intro Z9
                refine er_iret rfl rfl ?_
                have e3 : sIsOf 6 w = false := by unfold sIsOf; rw [decide_eq_false (fun hh => h38 hh.symm), decide_eq_false (fun hh => h63 (hh.symm.trans (by decide +kernel))), decide_eq_false h33]; rfl
                rw [if_pos h15, if_neg (by rw [e3]; decide)]
                exact RI_of rfl rfl
              · refine er_loc (pc' := 67) rfl rfl rfl ?_
                refine er_k (pc' := 69) (nI 6) rfl rfl rfl ?_
                refine er_cm_neF (pc' := 72) rfl (rfl) rfl ?_
                refine er_k (pc' := 73) (nI 1) rfl rfl rfl ?_
                refine er_goto rfl ?_
                refine er_loc (pc' := 79) (L' := [(4, _), (3, _), (0, _), (1, _), (2, _)]) rfl rfl rfl ?_
                refine er_loc (pc' := 81) rfl rfl rfl ?_
                refine er_if_eqF (pc' := 84) rfl (by decide +kernel) rfl ?_
                refine er_loc (pc' := 85) rfl rfl rfl ?_
                refine er_loc (pc' := 86) rfl rfl rfl ?_
                refine er_k (pc' := 87) (nI 1) rfl rfl rfl ?_
                refine er_cIi (pc' := 90) (rest := []) 12 rfl rfl rfl rfl rfl rfl (l_of1 _ X _ (by omega)) ?_
                refine er_goto rfl ?_
                refine er_iret rfl rfl ?_
                have e3 : sIsOf 6 w = true := by unfold sIsOf; rw [h63]; decide +kernel
                rw [if_pos h15, if_pos e3]
                exact RI_of rfl rfl
            · refine er_loc (pc' := 57) rfl rfl rfl ?_
              refine er_k (pc' := 58) (nI 5) rfl rfl rfl ?_
              refine er_cm_eqF (pc' := 61) rfl (by decide +kernel) rfl ?_
              refine er_loc (pc' := 62) rfl rfl rfl ?_
              refine er_k (pc' := 63) (nI 3) rfl rfl rfl ?_
              refine er_cm_ne (pc' := 66) rfl rfl (fun h63 => ?_) (fun h63 => ?_)
              · refine er_k (pc' := 77) (nI 0) rfl rfl rfl ?_
                refine er_loc (pc' := 79) (L' := [(4, _), (3, _), (0, _), (1, _), (2, _)]) rfl rfl rfl ?_
                refine er_loc (pc' := 81) rfl rfl rfl ?_
                refine er_if_eqT rfl (by decide +kernel) ?_
                refine er_loc (pc' := 94) rfl rfl rfl ?_
                refine er_ldc (pc' := 96) (-1000000005) rfl rfl rfl rfl rfl ?_
                refine er_cIz (pc' := 99) (rest := []) 12 rfl rfl rfl rfl rfl rfl (l_rError5 _ _ _) ?_
                intro Z9
                refine er_iret rfl rfl ?_
                have e3 : sIsOf 6 w = false := by unfold sIsOf; rw [decide_eq_false (fun hh => h38 hh.symm), decide_eq_false (fun hh => h63 (hh.symm.trans (by decide +kernel))), decide_eq_false h33]; rfl
                rw [if_pos h15, if_neg (by rw [e3]; decide)]
                exact RI_of rfl rfl
              · refine er_loc (pc' := 67) rfl rfl rfl ?_
                refine er_k (pc' := 69) (nI 6) rfl rfl rfl ?_
                refine er_cm_neF (pc' := 72) rfl (rfl) rfl ?_
                refine er_k (pc' := 73) (nI 1) rfl rfl rfl ?_
                refine er_goto rfl ?_
                refine er_loc (pc' := 79) (L' := [(4, _), (3, _), (0, _), (1, _), (2, _)]) rfl rfl rfl ?_
                refine er_loc (pc' := 81) rfl rfl rfl ?_
                refine er_if_eqF (pc' := 84) rfl (by decide +kernel) rfl ?_
                refine er_loc (pc' := 85) rfl rfl rfl ?_
                refine er_loc (pc' := 86) rfl rfl rfl ?_
                refine er_k (pc' := 87) (nI 1) rfl rfl rfl ?_
                refine er_cIi (pc' := 90) (rest := []) 12 rfl rfl rfl rfl rfl rfl (l_of1 _ X _ (by omega)) ?_
                refine er_goto rfl ?_
                refine er_iret rfl rfl ?_
                have e3 : sIsOf 6 w = true := by unfold sIsOf; rw [h63]; decide +kernel
                rw [if_pos h15, if_pos e3]
                exact RI_of rfl rfl
    · refine er_loc (pc' := 19) rfl rfl rfl ?_
      refine er_ldc (pc' := 21) (-1000000001) rfl rfl rfl rfl rfl ?_
      refine er_cIz (pc' := 24) (rest := []) 12 rfl rfl rfl rfl rfl rfl (l_rError1 _ _ _) ?_
      intro Z9
      refine er_iret rfl rfl ?_
      rw [if_neg (by rw [h15]; decide)]
      exact RI_of rfl rfl
set_option maxRecDepth 100000 in
set_option maxHeartbeats 4000000 in
theorem l_rLaw0 (d : Nat) (X Z : Nat → Nat → Int32) {T : Nat} (hI : RK T (X 64)) (p q r0 : Int32) : EC (d + 4) 164 [.ref 63, .int (nI 0), .int p, .int q, .int r0] (Wd X Z) (RI (sLastsBy (jm (X 64)) p q r0) X) := by
  refine er_enter (L := [(0, _), (1, _), (2, _), (3, _), (4, _)]) rfl rfl rfl ?_
  refine er_loc (pc' := 1) rfl rfl rfl ?_
  refine er_k (pc' := 2) (nI 0) rfl rfl rfl ?_
  refine er_k (pc' := 3) (nI 1) rfl rfl rfl ?_
  refine er_cSi (pc' := 6) (rest := []) rfl rfl rfl (l_in _ _ _ _ _) ?_
  rw [show sIn (nI 0) (nI 0) (nI 1) = true from by decide +kernel]
  refine er_if_eqF (pc' := 9) rfl (by decide +kernel) rfl ?_
  refine er_loc (pc' := 10) rfl rfl rfl ?_
  refine er_loc (pc' := 11) rfl rfl rfl ?_
  refine er_loc (pc' := 12) rfl rfl rfl ?_
  refine er_loc (pc' := 13) rfl rfl rfl ?_
  refine er_loc (pc' := 15) rfl rfl rfl ?_
  refine er_cIz (pc' := 18) (rest := []) 12 rfl rfl rfl rfl rfl rfl (l_rGives0 _ X _ hI _ _ _) ?_
  intro Z2
  refine er_goto rfl ?_
  refine er_iret rfl rfl ?_
  exact RI_of rfl rfl
set_option maxRecDepth 100000 in
set_option maxHeartbeats 4000000 in
theorem l_rLaw1 (d : Nat) (X Z : Nat → Nat → Int32) {T : Nat} (hI : RK T (X 64)) (p q r0 : Int32) : EC (d + 4) 164 [.ref 63, .int (nI 1), .int p, .int q, .int r0] (Wd X Z) (RI (sErrsBy (jm (X 64)) p q r0) X) := by
  refine er_enter (L := [(0, _), (1, _), (2, _), (3, _), (4, _)]) rfl rfl rfl ?_
  refine er_loc (pc' := 1) rfl rfl rfl ?_
  refine er_k (pc' := 2) (nI 0) rfl rfl rfl ?_
  refine er_k (pc' := 3) (nI 1) rfl rfl rfl ?_
  refine er_cSi (pc' := 6) (rest := []) rfl rfl rfl (l_in _ _ _ _ _) ?_
  rw [show sIn (nI 1) (nI 0) (nI 1) = true from by decide +kernel]
  refine er_if_eqF (pc' := 9) rfl (by decide +kernel) rfl ?_
  refine er_loc (pc' := 10) rfl rfl rfl ?_
  refine er_loc (pc' := 11) rfl rfl rfl ?_
  refine er_loc (pc' := 12) rfl rfl rfl ?_
  refine er_loc (pc' := 13) rfl rfl rfl ?_
  refine er_loc (pc' := 15) rfl rfl rfl ?_
  refine er_cIz (pc' := 18) (rest := []) 12 rfl rfl rfl rfl rfl rfl (l_rGives1 _ X _ hI _ _ _) ?_
  intro Z2
  refine er_goto rfl ?_
  refine er_iret rfl rfl ?_
  exact RI_of rfl rfl
theorem l_rLaw (d : Nat) (X Z : Nat → Nat → Int32) {T : Nat} (hI : RK T (X 64)) (u p q r0 : Int32) : EC (d + 4) 164 [.ref 63, .int u, .int p, .int q, .int r0] (Wd X Z) (fun r => if sUse u = true then (if u = 0 then RI (sLastsBy (jm (X 64)) p q r0) X r else RI (sErrsBy (jm (X 64)) p q r0) X r) else RI (sErr 1) (yErr X 1) r) := by
  by_cases hu : sUse u = true
  · have hu2 := hu
    unfold sUse at hu2
    simp only [Bool.or_eq_true, decide_eq_true_eq] at hu2
    rcases hu2 with e | e
    · subst e
      exact (l_rLaw0 d X Z hI p q r0).mono (fun r hr => by rw [if_pos hu, if_pos rfl]; exact hr)
    · subst e
      exact (l_rLaw1 d X Z hI p q r0).mono (fun r hr => by rw [if_pos hu, if_neg (by decide +kernel)]; exact hr)
  · refine EC.mono (P := RI (sErr 1) (yErr X 1)) ?_ (fun r hr => by rw [if_neg hu]; exact hr)
    have hw2 : sIn u (nI 0) (nI 1) = false := by rw [sIn_01]; simpa using hu
    refine er_enter (L := [(0, _), (1, _), (2, _), (3, _), (4, _)]) rfl rfl rfl ?_
    refine er_loc (pc' := 1) rfl rfl rfl ?_
    refine er_k (pc' := 2) (nI 0) rfl rfl rfl ?_
    refine er_k (pc' := 3) (nI 1) rfl rfl rfl ?_
    refine er_cSi (pc' := 6) (rest := []) rfl rfl rfl (l_in _ _ _ _ _) ?_
    rw [hw2]
    refine er_if_eqT rfl (by decide +kernel) ?_
    refine er_loc (pc' := 22) rfl rfl rfl ?_
    refine er_ldc (pc' := 24) (-1000000001) rfl rfl rfl rfl rfl ?_
    refine er_cIz (pc' := 27) (rest := []) 12 rfl rfl rfl rfl rfl rfl (l_rError1 _ _ _) ?_
    intro Z9
    refine er_iret rfl rfl ?_
    exact RI_of rfl rfl
set_option maxRecDepth 100000 in
set_option maxHeartbeats 4000000 in
theorem l_rDoes_no (d : Nat) (X Z : Nat → Nat → Int32) {T : Nat} (hI : RK T (X 64)) (s : Int32) (hs : jHas (jm (X 64)) s = false) : EC (d + 4) 165 [.ref 63, .int s] (Wd X Z) (RI (sErr 1) (yErr X 1)) := by
  refine er_enter (L := [(0, _), (1, _)]) rfl rfl rfl ?_
  refine er_loc (pc' := 1) rfl rfl rfl ?_
  refine er_loc (pc' := 2) rfl rfl rfl ?_
  refine er_cIi (pc' := 5) (rest := []) 12 rfl rfl rfl rfl rfl rfl (l_rHas_f _ X _ hI hs) ?_
  refine er_if_neF (pc' := 8) rfl (by decide +kernel) rfl ?_
  refine er_loc (pc' := 9) rfl rfl rfl ?_
  refine er_ldc (pc' := 11) (-1000000001) rfl rfl rfl rfl rfl ?_
  refine er_cIz (pc' := 14) (rest := []) 12 rfl rfl rfl rfl rfl rfl (l_rError1 _ _ _) ?_
  intro Z9
  refine er_iret rfl rfl ?_
  exact RI_of rfl rfl
set_option maxRecDepth 100000 in
set_option maxHeartbeats 4000000 in
theorem l_rUndo_no (d : Nat) (X Z : Nat → Nat → Int32) {T : Nat} (hI : RK T (X 64)) (s : Int32) (hs : jHas (jm (X 64)) s = false) : EC (d + 4) 168 [.ref 63, .int s] (Wd X Z) (RI (sErr 1) (yErr X 1)) := by
  refine er_enter (L := [(0, _), (1, _)]) rfl rfl rfl ?_
  refine er_loc (pc' := 1) rfl rfl rfl ?_
  refine er_loc (pc' := 2) rfl rfl rfl ?_
  refine er_cIi (pc' := 5) (rest := []) 12 rfl rfl rfl rfl rfl rfl (l_rHas_f _ X _ hI hs) ?_
  refine er_if_neF (pc' := 8) rfl (by decide +kernel) rfl ?_
  refine er_loc (pc' := 9) rfl rfl rfl ?_
  refine er_ldc (pc' := 11) (-1000000001) rfl rfl rfl rfl rfl ?_
  refine er_cIz (pc' := 14) (rest := []) 12 rfl rfl rfl rfl rfl rfl (l_rError1 _ _ _) ?_
  intro Z9
  refine er_iret rfl rfl ?_
  exact RI_of rfl rfl
set_option maxRecDepth 100000 in
set_option maxHeartbeats 4000000 in
theorem l_rDoes (d : Nat) (X Z : Nat → Nat → Int32) {T : Nat} (hI : RK T (X 64)) (hT : T < 2000000000) {k : Nat} (hk : k < jn (jm (X 64))) : EC (d + 6) 165 [.ref 63, .int (nI k)] (Wd X Z) (fun r => if sCan (jm (X 64)) k = true then RNJ (bI (sBit (jFin (jm (X 64)) k 0 7) (nI k))) (jFin (jm (X 64)) k) (T + 300) X r else RI (sErr 3) (yErr X 3) r) := by
  refine er_enter (L := [(0, _), (1, _)]) rfl rfl rfl ?_
  have h8 := jn8 hI.ij
  have hk8 : k < 8 := by omega
  have hq := kind7 hI.ij k
  refine er_loc (pc' := 1) rfl rfl rfl ?_
  refine er_loc (pc' := 2) rfl rfl rfl ?_
  refine er_cIi (pc' := 5) (rest := []) 12 rfl rfl rfl rfl rfl rfl (l_rHas_t _ X _ hI hk) ?_
  refine er_if_neT rfl (by decide +kernel) ?_
  refine er_loc (pc' := 16) rfl rfl rfl ?_
  refine er_loc (pc' := 17) rfl rfl rfl ?_
  refine er_cIi (pc' := 20) (rest := []) 12 rfl rfl rfl rfl rfl rfl (l_rMayDo _ X _ hI hk) ?_
  refine er_if_eqb (pc' := 23) rfl rfl (fun h20 => ?_) (fun h20 => ?_)
  · refine er_loc (pc' := 41) rfl rfl rfl ?_
    refine er_ldc (pc' := 43) (-1000000003) rfl rfl rfl rfl rfl ?_
    refine er_cIz (pc' := 46) (rest := []) 12 rfl rfl rfl rfl rfl rfl (l_rError3 _ _ _) ?_
    intro Z9
    refine er_iret rfl rfl ?_
    rw [if_neg (by unfold sCan; rw [h20]; simp)]
    exact RI_of rfl rfl
  · refine er_loc (pc' := 24) rfl rfl rfl ?_
    refine er_gf (pc' := 27) (_) rfl rfl rfl rfl rfl ?_
    refine er_k (pc' := 28) (nI 0) rfl rfl rfl ?_
    refine er_ia (pc' := 29) (0) rfl rfl rfl rfl (by omega) rfl rfl ?_
    refine er_loc (pc' := 30) rfl rfl rfl ?_
    refine er_loc (pc' := 31) rfl rfl rfl ?_
    refine er_cIz (pc' := 34) (rest := [_]) 12 rfl rfl rfl rfl rfl rfl (l_rLastsOf _ X _ hI (by omega) hk) ?_
    intro Z2
    refine er_iadd (pc' := 35) rfl rfl ?_
    refine er_ldc (pc' := 37) (99999) rfl rfl rfl rfl rfl ?_
    refine er_cm_le (pc' := 40) rfl rfl (fun h37 => ?_) (fun h37 => ?_)
    · refine er_loc (pc' := 48) rfl rfl rfl ?_
      refine er_loc (pc' := 49) rfl rfl rfl ?_
      refine er_cIw (pc' := 52) (rest := []) 12 rfl rfl rfl rfl rfl rfl (l_rIsDone _ _ _ hI hT h20) ?_
      intro X1 Z1 w1
      refine er_loc (pc' := 53) rfl rfl rfl ?_
      refine er_loc (pc' := 54) rfl rfl rfl ?_
      refine er_k (pc' := 55) (nI 5) rfl rfl rfl ?_
      refine er_cIi (pc' := 58) (rest := []) 12 rfl rfl rfl rfl rfl rfl (l_of5 _ _ _ w1.rk (by rw [w1.j]; exact hk)) ?_
      rw [w1.j]
      refine er_iret rfl rfl ?_
      have e : sCan (jm (X 64)) k = true := by unfold sCan; rw [h20, show jm (X 64) 0 10 = X 64 0 from rfl, decide_eq_false h37]; rfl
      rw [if_pos e]
      exact RNJ_of rfl w1
    · refine er_loc (pc' := 41) rfl rfl rfl ?_
      refine er_ldc (pc' := 43) (-1000000003) rfl rfl rfl rfl rfl ?_
      refine er_cIz (pc' := 46) (rest := []) 12 rfl rfl rfl rfl rfl rfl (l_rError3 _ _ _) ?_
      intro Z9
      refine er_iret rfl rfl ?_
      rw [if_neg (by unfold sCan; rw [show jm (X 64) 0 10 = X 64 0 from rfl, decide_eq_true h37]; simp)]
      exact RI_of rfl rfl
set_option maxRecDepth 100000 in
set_option maxHeartbeats 4000000 in
theorem l_rUndo (d : Nat) (X Z : Nat → Nat → Int32) {T : Nat} (hI : RK T (X 64)) (hT : T < 2000000000) {k : Nat} (hk : k < jn (jm (X 64))) : EC (d + 7) 168 [.ref 63, .int (nI k)] (Wd X Z) (fun r => if sCanU (jm (X 64)) k = true then RNJ (jApart (jm (X 64)) k 0 9) (jApart (jm (X 64)) k) (T + 300) X r else RI (sErr 3) (yErr X 3) r) := by
  refine er_enter (L := [(0, _), (1, _)]) rfl rfl rfl ?_
  have h8 := jn8 hI.ij
  have hk8 : k < 8 := by omega
  have hq := kind7 hI.ij k
  refine er_loc (pc' := 1) rfl rfl rfl ?_
  refine er_loc (pc' := 2) rfl rfl rfl ?_
  refine er_cIi (pc' := 5) (rest := []) 12 rfl rfl rfl rfl rfl rfl (l_rHas_t _ X _ hI hk) ?_
  refine er_if_neT rfl (by decide +kernel) ?_
  refine er_loc (pc' := 16) rfl rfl rfl ?_
  refine er_loc (pc' := 17) rfl rfl rfl ?_
  refine er_cIi (pc' := 20) (rest := []) 12 rfl rfl rfl rfl rfl rfl (l_rMayUn _ X _ hI hk) ?_
  refine er_if_eqb (pc' := 23) rfl rfl (fun h20 => ?_) (fun h20 => ?_)
  · refine er_loc (pc' := 41) rfl rfl rfl ?_
    refine er_ldc (pc' := 43) (-1000000003) rfl rfl rfl rfl rfl ?_
    refine er_cIz (pc' := 46) (rest := []) 12 rfl rfl rfl rfl rfl rfl (l_rError3 _ _ _) ?_
    intro Z9
    refine er_iret rfl rfl ?_
    rw [if_neg (by unfold sCanU; rw [h20]; simp)]
    exact RI_of rfl rfl
  · refine er_loc (pc' := 24) rfl rfl rfl ?_
    refine er_gf (pc' := 27) (_) rfl rfl rfl rfl rfl ?_
    refine er_k (pc' := 28) (nI 0) rfl rfl rfl ?_
    refine er_ia (pc' := 29) (0) rfl rfl rfl rfl (by omega) rfl rfl ?_
    refine er_loc (pc' := 30) rfl rfl rfl ?_
    refine er_loc (pc' := 31) rfl rfl rfl ?_
    refine er_cIz (pc' := 34) (rest := [_]) 12 rfl rfl rfl rfl rfl rfl (l_rBackOf _ X _ hI (by omega) hk) ?_
    intro Z2
    refine er_iadd (pc' := 35) rfl rfl ?_
    refine er_ldc (pc' := 37) (99999) rfl rfl rfl rfl rfl ?_
    refine er_cm_le (pc' := 40) rfl rfl (fun h37 => ?_) (fun h37 => ?_)
    · refine er_loc (pc' := 48) rfl rfl rfl ?_
      refine er_loc (pc' := 49) rfl rfl rfl ?_
      refine er_cIw (pc' := 52) (rest := []) 12 rfl rfl rfl rfl rfl rfl (l_rIsUndone _ _ _ hI hT hk) ?_
      intro X1 Z1 w1
      refine er_loc (pc' := 53) rfl rfl rfl ?_
      refine er_gf (pc' := 56) (_) rfl rfl rfl rfl rfl ?_
      refine er_k (pc' := 57) (nI 4) rfl rfl rfl ?_
      refine er_ia (pc' := 58) (4) rfl rfl rfl rfl (by omega) rfl rfl ?_
      refine er_iret rfl rfl ?_
      have e : sCanU (jm (X 64)) k = true := by unfold sCanU; rw [h20, show jm (X 64) 0 10 = X 64 0 from rfl, decide_eq_false h37]; rfl
      rw [if_pos e]
      exact RNJ_of (by rw [← w1.j]; rfl) w1
    · refine er_loc (pc' := 41) rfl rfl rfl ?_
      refine er_ldc (pc' := 43) (-1000000003) rfl rfl rfl rfl rfl ?_
      refine er_cIz (pc' := 46) (rest := []) 12 rfl rfl rfl rfl rfl rfl (l_rError3 _ _ _) ?_
      intro Z9
      refine er_iret rfl rfl ?_
      rw [if_neg (by unfold sCanU; rw [show jm (X 64) 0 10 = X 64 0 from rfl, decide_eq_true h37]; simp)]
      exact RI_of rfl rfl
set_option maxRecDepth 100000 in
set_option maxHeartbeats 4000000 in
theorem l_rSeed (d : Nat) (X Z : Nat → Nat → Int32) {T : Nat} (hI : RK T (X 64)) (v : Int32) : EC (d + 2) 199 [.ref 63, .int v] (Wd X Z) (RNJ (X 64 1) (ud (jm (X 64)) 0 17 v) T X) := by
  refine er_enter (L := [(0, _), (1, _)]) rfl rfl rfl ?_
  refine er_loc (pc' := 1) rfl rfl rfl ?_
  refine er_k (pc' := 2) (nI 1) rfl rfl rfl ?_
  refine er_loc (pc' := 3) rfl rfl rfl ?_
  refine er_cIz (pc' := 6) (rest := []) 12 rfl rfl rfl rfl rfl rfl (l_rBecomes _ _ _ (by omega) _) ?_
  intro Z2
  refine er_iret rfl rfl ?_
  exact RNJ_of rfl (wZ hI rfl rfl)
set_option maxRecDepth 100000 in
set_option maxHeartbeats 4000000 in
theorem l_rTell (d : Nat) (X Z : Nat → Nat → Int32) {T : Nat} (hI : RK T (X 64)) (v : Int32) (w : Nat) (hw : X 64 6 = nI w) (h20 : w ≤ 20) : EC (d + 3) 222 [.ref 63, .int v] (Wd X Z) (fun r => if w < 20 then RNJ (nI (w + 1)) (ud (ud (jm (X 64)) 10 w v) 0 16 (nI (w + 1))) T X r else RI (sErr 4) (yErr X 4) r) := by
  refine er_enter (L := [(0, _), (1, _)]) rfl rfl rfl ?_
  refine er_loc (pc' := 1) rfl rfl rfl ?_
  refine er_gf (pc' := 4) (_) rfl rfl rfl rfl rfl ?_
  refine er_k (pc' := 6) (nI 6) rfl rfl rfl ?_
  refine er_ia (pc' := 7) (6) rfl rfl rfl rfl (by omega) rfl rfl ?_
  rw [hw]
  refine er_k (pc' := 9) (nI 20) rfl rfl rfl ?_
  refine er_cm_ne (pc' := 12) rfl rfl (fun h9 => ?_) (fun h9 => ?_)
  · have hlt : w < 20 := by
      rcases Nat.lt_or_ge w 20 with h | h
      · exact h
      · exact absurd (show nI w = nI 20 by rw [show w = 20 by omega]) h9
    refine er_loc (pc' := 20) rfl rfl rfl ?_
    refine er_gf (pc' := 23) (_) rfl rfl rfl rfl rfl ?_
    refine er_k (pc' := 25) (nI 105) rfl rfl rfl ?_
    refine er_loc (pc' := 26) rfl rfl rfl ?_
    refine er_gf (pc' := 29) (_) rfl rfl rfl rfl rfl ?_
    refine er_k (pc' := 31) (nI 6) rfl rfl rfl ?_
    refine er_ia (pc' := 32) (6) rfl rfl rfl rfl (by omega) rfl rfl ?_
    rw [hw]
    refine er_iadd (pc' := 33) rfl rfl ?_
    refine er_loc (pc' := 34) rfl rfl rfl ?_
    refine er_isX (pc' := 35) (105 + w) rfl rfl (fun _ => rfl) (nI_add 105 w) (by omega) rfl rfl ?_
    refine er_loc (pc' := 36) rfl rfl rfl ?_
    refine er_gf (pc' := 39) (_) rfl rfl rfl rfl rfl ?_
    refine er_k (pc' := 41) (nI 6) rfl rfl rfl ?_
    refine er_pure (pc' := 42) rfl rfl rfl ?_
    refine er_ia (pc' := 43) (6) rfl rfl rfl rfl (by omega) rfl rfl ?_
    rw [show ud X 64 (105 + w) v 64 6 = nI w from by rw [ud_same, u1_ne (by omega)]; exact hw]
    refine er_k (pc' := 44) (nI 1) rfl rfl rfl ?_
    refine er_iadd (pc' := 45) rfl rfl ?_
    rw [nI_add w 1]
    refine er_isX (pc' := 46) (6) rfl rfl (fun _ => rfl) rfl (by omega) rfl rfl ?_
    refine er_loc (pc' := 47) rfl rfl rfl ?_
    refine er_gf (pc' := 50) (_) rfl rfl rfl rfl rfl ?_
    refine er_k (pc' := 52) (nI 6) rfl rfl rfl ?_
    refine er_ia (pc' := 53) (6) rfl rfl rfl rfl (by omega) rfl rfl ?_
    refine er_iret rfl rfl ?_
    rw [if_pos hlt]
    have h1 := wWait (v := v) hI rfl (show w < 20 from hlt) rfl
    have h2 := wWaits (p := 6) h1.rk h1.j (isN.of (show w + 1 ≤ 20 by omega) (by omega)) rfl
    exact RNJ_of rfl (h1.trans h2)
  · have hlt : ¬ w < 20 := by
      have := nIj (by omega) (by omega) h9
      omega
    refine er_loc (pc' := 13) rfl rfl rfl ?_
    refine er_ldc (pc' := 15) (-1000000004) rfl rfl rfl rfl rfl ?_
    refine er_cIz (pc' := 18) (rest := []) 12 rfl rfl rfl rfl rfl rfl (l_rError4 _ _ _) ?_
    intro Z9
    refine er_iret rfl rfl ?_
    rw [if_neg hlt]
    exact RI_of rfl rfl
set_option maxRecDepth 100000 in
set_option maxHeartbeats 4000000 in
theorem l_rTold (d : Nat) (X Z : Nat → Nat → Int32) (k : Int32) : EC (d + 3) 225 [.ref 63, .int k] (Wd X Z) (fun r => if sIn k (nI 1) (nI 5) = true then RI (X 67 (nN k)) X r else RI (sErr 1) (yErr X 1) r) := by
  refine er_enter (L := [(0, _), (1, _)]) rfl rfl rfl ?_
  refine er_loc (pc' := 1) rfl rfl rfl ?_
  refine er_k (pc' := 2) (nI 1) rfl rfl rfl ?_
  refine er_k (pc' := 3) (nI 5) rfl rfl rfl ?_
  refine er_cSi (pc' := 6) (rest := []) rfl rfl rfl (l_in _ _ _ _ _) ?_
  refine er_if_eqb (pc' := 9) rfl rfl (fun h6 => ?_) (fun h6 => ?_)
  · refine er_loc (pc' := 19) rfl rfl rfl ?_
    refine er_ldc (pc' := 21) (-1000000001) rfl rfl rfl rfl rfl ?_
    refine er_cIz (pc' := 24) (rest := []) 12 rfl rfl rfl rfl rfl rfl (l_rError1 _ _ _) ?_
    intro Z9
    refine er_iret rfl rfl ?_
    rw [if_neg (by rw [h6]; decide)]
    exact RI_of rfl rfl
  · obtain ⟨j, h1j, h5j, hj⟩ := sIn_ex (by omega) (by omega) h6
    have hj2 : nN k = j := by rw [hj]; exact nN_nI (by omega)
    have hkn : k = nI (nN k) := by rw [hj2, hj]
    refine er_loc (pc' := 10) rfl rfl rfl ?_
    refine er_gf (pc' := 13) (_) rfl rfl rfl rfl rfl ?_
    refine er_loc (pc' := 14) rfl rfl rfl ?_
    refine er_ia (pc' := 15) (nN k) rfl rfl rfl hkn (by omega) rfl rfl ?_
    refine er_goto rfl ?_
    refine er_iret rfl rfl ?_
    rw [if_pos h6]
    exact RI_of rfl rfl
