/-! THE REFERENCE, its face: sheets -/
set_option maxRecDepth 100000 in
set_option maxHeartbeats 4000000 in
theorem l_rNot_s (d : Nat) (X Z : Nat → Nat → Int32) {s : Int32} (hs : sIn s (nI 0) (nI 3) = false) : EC (d + 3) 215 [.ref 63, .int s] (Wd X Z) (PI (-1000000001) (Wd X Z)) := by
  refine er_enter (L := [(0, _), (1, _)]) rfl rfl rfl ?_
  refine er_loc (pc' := 1) rfl rfl rfl ?_
  refine er_cSi (pc' := 4) (rest := []) rfl rfl rfl (l_mSheet _ _ _) ?_
  rw [hs]
  refine er_if_neF (pc' := 7) rfl (by decide +kernel) rfl ?_
  refine er_ldc (pc' := 9) (-1000000001) rfl rfl rfl rfl rfl ?_
  refine er_goto rfl ?_
  refine er_iret rfl rfl ?_
  exact PI_of rfl
set_option maxRecDepth 100000 in
set_option maxHeartbeats 4000000 in
theorem l_rNot_0 (d : Nat) (X Z : Nat → Nat → Int32) {a : Nat} (ha : a < 4) (hb : X 76 a = 0) : EC (d + 3) 215 [.ref 63, .int (nI a)] (Wd X Z) (PI (-1000000002) (Wd X Z)) := by
  refine er_enter (L := [(0, _), (1, _)]) rfl rfl rfl ?_
  refine er_loc (pc' := 1) rfl rfl rfl ?_
  refine er_cSi (pc' := 4) (rest := []) rfl rfl rfl (l_mSheet _ _ _) ?_
  rw [sIn_t (Nat.zero_le _) (show _ ≤ 3 by omega) (by omega)]
  refine er_if_neT rfl (by decide +kernel) ?_
  refine er_loc (pc' := 13) rfl rfl rfl ?_
  refine er_gf (pc' := 16) (_) rfl rfl rfl rfl rfl ?_
  refine er_loc (pc' := 17) rfl rfl rfl ?_
  refine er_ia (pc' := 18) (a) rfl rfl rfl rfl ha rfl rfl ?_
  refine er_if_neF (pc' := 21) rfl (hb) rfl ?_
  refine er_ldc (pc' := 23) (-1000000002) rfl rfl rfl rfl rfl ?_
  refine er_goto rfl ?_
  refine er_iret rfl rfl ?_
  exact PI_of rfl
set_option maxRecDepth 100000 in
set_option maxHeartbeats 4000000 in
theorem l_rNot_1 (d : Nat) (X Z : Nat → Nat → Int32) {a : Nat} (ha : a < 4) (hb : ¬ X 76 a = 0) : EC (d + 3) 215 [.ref 63, .int (nI a)] (Wd X Z) (PI (nI 0) (Wd X Z)) := by
  refine er_enter (L := [(0, _), (1, _)]) rfl rfl rfl ?_
  refine er_loc (pc' := 1) rfl rfl rfl ?_
  refine er_cSi (pc' := 4) (rest := []) rfl rfl rfl (l_mSheet _ _ _) ?_
  rw [sIn_t (Nat.zero_le _) (show _ ≤ 3 by omega) (by omega)]
  refine er_if_neT rfl (by decide +kernel) ?_
  refine er_loc (pc' := 13) rfl rfl rfl ?_
  refine er_gf (pc' := 16) (_) rfl rfl rfl rfl rfl ?_
  refine er_loc (pc' := 17) rfl rfl rfl ?_
  refine er_ia (pc' := 18) (a) rfl rfl rfl rfl ha rfl rfl ?_
  refine er_if_neT rfl (hb) ?_
  refine er_k (pc' := 27) (nI 0) rfl rfl rfl ?_
  refine er_iret rfl rfl ?_
  exact PI_of rfl
def yLow (v b : Int32) : Int32 := if b = nI 8 then v.toInt8.toInt32 else if b = nI 16 then v.toInt16.toInt32 else v
set_option maxRecDepth 100000 in
set_option maxHeartbeats 4000000 in
theorem l_rPut_no (d : Nat) (X Z : Nat → Nat → Int32) (s i v : Int32) (hs : sIn s (nI 0) (nI 3) = false) : EC (d + 4) 214 [.ref 63, .int s, .int i, .int v] (Wd X Z) (RI (sErr 1) (yErr X 1)) := by
  refine er_enter (L := [(0, _), (1, _), (2, _), (3, _)]) rfl rfl rfl ?_
  refine er_loc (pc' := 1) rfl rfl rfl ?_
  refine er_loc (pc' := 2) rfl rfl rfl ?_
  refine er_cIi (pc' := 5) (rest := []) 12 rfl rfl rfl rfl rfl rfl (l_rNot_s _ _ _ hs) ?_
  refine er_loc (pc' := 7) (L' := [(4, _), (0, _), (1, _), (2, _), (3, _)]) rfl rfl rfl ?_
  refine er_loc (pc' := 9) rfl rfl rfl ?_
  refine er_if_neT rfl (by decide +kernel) ?_
  refine er_loc (pc' := 35) rfl rfl rfl ?_
  refine er_loc (pc' := 37) (L' := [(4, _), (0, _), (1, _), (2, _), (3, _)]) rfl rfl rfl ?_
  refine er_loc (pc' := 39) rfl rfl rfl ?_
  refine er_if_eqF (pc' := 42) rfl (by decide +kernel) rfl ?_
  refine er_loc (pc' := 43) rfl rfl rfl ?_
  refine er_loc (pc' := 45) rfl rfl rfl ?_
  refine er_cIz (pc' := 48) (rest := []) 12 rfl rfl rfl rfl rfl rfl (l_rError1 _ _ _) ?_
  intro Z9
  refine er_iret rfl rfl ?_
  exact RI_of rfl rfl
set_option maxRecDepth 100000 in
set_option maxHeartbeats 4000000 in
theorem l_rPut_0 (d : Nat) (X Z : Nat → Nat → Int32) {a : Nat} (ha : a < 4) (hb : X 76 a = 0) (i v : Int32) : EC (d + 4) 214 [.ref 63, .int (nI a), .int i, .int v] (Wd X Z) (RI (sErr 2) (yErr X 2)) := by
  refine er_enter (L := [(0, _), (1, _), (2, _), (3, _)]) rfl rfl rfl ?_
  refine er_loc (pc' := 1) rfl rfl rfl ?_
  refine er_loc (pc' := 2) rfl rfl rfl ?_
  refine er_cIi (pc' := 5) (rest := []) 12 rfl rfl rfl rfl rfl rfl (l_rNot_0 _ _ _ ha hb) ?_
  refine er_loc (pc' := 7) (L' := [(4, _), (0, _), (1, _), (2, _), (3, _)]) rfl rfl rfl ?_
  refine er_loc (pc' := 9) rfl rfl rfl ?_
  refine er_if_neT rfl (by decide +kernel) ?_
  refine er_loc (pc' := 35) rfl rfl rfl ?_
  refine er_loc (pc' := 37) (L' := [(4, _), (0, _), (1, _), (2, _), (3, _)]) rfl rfl rfl ?_
  refine er_loc (pc' := 39) rfl rfl rfl ?_
  refine er_if_eqF (pc' := 42) rfl (by decide +kernel) rfl ?_
  refine er_loc (pc' := 43) rfl rfl rfl ?_
  refine er_loc (pc' := 45) rfl rfl rfl ?_
  refine er_cIz (pc' := 48) (rest := []) 12 rfl rfl rfl rfl rfl rfl (l_rError2 _ _ _) ?_
  intro Z9
  refine er_iret rfl rfl ?_
  exact RI_of rfl rfl
set_option maxRecDepth 100000 in
set_option maxHeartbeats 4000000 in
theorem l_rPut (d : Nat) (X Z : Nat → Nat → Int32) {a : Nat} (ha : a < 4) (hb : ¬ X 76 a = 0) (i v : Int32) {g : Nat} (hg : X 77 a = nI g) (h40 : g ≤ 40) : EC (d + 4) 214 [.ref 63, .int (nI a), .int i, .int v] (Wd X Z) (fun r => if sIn i (nI 0) (nI g - nI 1) = true then RI (nI 1) (ud X 78 (40 * a + nN i) (yLow v (X 76 a))) r else RI (sErr 1) (yErr X 1) r) := by
  refine er_enter (L := [(0, _), (1, _), (2, _), (3, _)]) rfl rfl rfl ?_
  refine er_loc (pc' := 1) rfl rfl rfl ?_
  refine er_loc (pc' := 2) rfl rfl rfl ?_
  refine er_cIi (pc' := 5) (rest := []) 12 rfl rfl rfl rfl rfl rfl (l_rNot_1 _ _ _ ha hb) ?_
  refine er_loc (pc' := 7) (L' := [(4, _), (0, _), (1, _), (2, _), (3, _)]) rfl rfl rfl ?_
  refine er_loc (pc' := 9) rfl rfl rfl ?_
  refine er_if_neF (pc' := 12) rfl (by decide +kernel) rfl ?_
  refine er_loc (pc' := 13) rfl rfl rfl ?_
  refine er_k (pc' := 14) (nI 0) rfl rfl rfl ?_
  refine er_loc (pc' := 15) rfl rfl rfl ?_
  refine er_gf (pc' := 18) (_) rfl rfl rfl rfl rfl ?_
  refine er_loc (pc' := 19) rfl rfl rfl ?_
  refine er_ia (pc' := 20) (a) rfl rfl rfl rfl ha rfl rfl ?_
  rw [hg]
  refine er_k (pc' := 21) (nI 1) rfl rfl rfl ?_
  refine er_isub (pc' := 22) rfl rfl ?_
  refine er_cSi (pc' := 25) (rest := []) rfl rfl rfl (l_in _ _ _ _ _) ?_
  refine er_if_neb (pc' := 28) rfl rfl (fun h25 => ?_) (fun h25 => ?_)
  · obtain ⟨j, hj, rfl⟩ := sIn_lt (by omega) h25
    have hj2 : nN (nI j) = j := nN_nI (by omega)
    refine er_loc (pc' := 35) rfl rfl rfl ?_
    refine er_loc (pc' := 37) (L' := [(4, _), (0, _), (1, _), (2, _), (3, _)]) rfl rfl rfl ?_
    refine er_loc (pc' := 39) rfl rfl rfl ?_
    refine er_if_eqT rfl (by decide +kernel) ?_
    refine er_loc (pc' := 50) rfl rfl rfl ?_
    refine er_gf (pc' := 53) (_) rfl rfl rfl rfl rfl ?_
    refine er_k (pc' := 55) (nI 40) rfl rfl rfl ?_
    refine er_loc (pc' := 56) rfl rfl rfl ?_
    refine er_imul (pc' := 57) rfl rfl ?_
    refine er_loc (pc' := 58) rfl rfl rfl ?_
    refine er_iadd rfl rfl ?_
    rw [nI_mul 40 a, nI_add (40 * a) j]
    refine er_loc (pc' := 60) rfl rfl rfl ?_
    refine er_gf (pc' := 63) (_) rfl rfl rfl rfl rfl ?_
    refine er_loc (pc' := 64) rfl rfl rfl ?_
    refine er_ia (pc' := 65) (a) rfl rfl rfl rfl ha rfl rfl ?_
    refine er_k (pc' := 67) (nI 8) rfl rfl rfl ?_
    refine er_cm_ne (pc' := 70) rfl rfl (fun h67 => ?_) (fun h67 => ?_)
    · refine er_loc (pc' := 76) rfl rfl rfl ?_
      refine er_gf (pc' := 79) (_) rfl rfl rfl rfl rfl ?_
      refine er_loc (pc' := 80) rfl rfl rfl ?_
      refine er_ia (pc' := 81) (a) rfl rfl rfl rfl ha rfl rfl ?_
      refine er_k (pc' := 83) (nI 16) rfl rfl rfl ?_
      refine er_cm_ne (pc' := 86) rfl rfl (fun h83 => ?_) (fun h83 => ?_)
      · refine er_loc rfl rfl rfl ?_
        refine er_isX (pc' := 93) ((40 * a + j)) rfl rfl (fun _ => rfl) (by simp only [nI_add, nI_mul]) (by omega) rfl rfl ?_
        refine er_k (pc' := 94) (nI 1) rfl rfl rfl ?_
        refine er_iret rfl rfl ?_
        rw [if_pos h25, hj2]
        refine RI_of rfl ?_
        rw [show yLow v (X 76 a) = v from (if_neg h67).trans (if_neg h83)]
      · refine er_loc rfl rfl rfl ?_
        refine er_i2s (pc' := 88) rfl rfl ?_
        refine er_goto rfl ?_
        refine er_isX (pc' := 93) ((40 * a + j)) rfl rfl (fun _ => rfl) (by simp only [nI_add, nI_mul]) (by omega) rfl rfl ?_
        refine er_k (pc' := 94) (nI 1) rfl rfl rfl ?_
        refine er_iret rfl rfl ?_
        rw [if_pos h25, hj2]
        refine RI_of rfl ?_
        rw [show yLow v (X 76 a) = v.toInt16.toInt32 from (if_neg h67).trans (if_pos h83)]
    · refine er_loc rfl rfl rfl ?_
      refine er_i2b (pc' := 72) rfl rfl ?_
      refine er_goto rfl ?_
      refine er_isX (pc' := 93) ((40 * a + j)) rfl rfl (fun _ => rfl) (by simp only [nI_add, nI_mul]) (by omega) rfl rfl ?_
      refine er_k (pc' := 94) (nI 1) rfl rfl rfl ?_
      refine er_iret rfl rfl ?_
      rw [if_pos h25, hj2]
      refine RI_of rfl ?_
      rw [show yLow v (X 76 a) = v.toInt8.toInt32 from if_pos h67]
  · refine er_ldc (pc' := 30) (-1000000001) rfl rfl rfl rfl rfl ?_
    refine er_goto rfl ?_
    refine er_loc (pc' := 37) (L' := [(4, _), (0, _), (1, _), (2, _), (3, _)]) rfl rfl rfl ?_
    refine er_loc (pc' := 39) rfl rfl rfl ?_
    refine er_if_eqF (pc' := 42) rfl (by decide +kernel) rfl ?_
    refine er_loc (pc' := 43) rfl rfl rfl ?_
    refine er_loc (pc' := 45) rfl rfl rfl ?_
    refine er_cIz (pc' := 48) (rest := []) 12 rfl rfl rfl rfl rfl rfl (l_rError1 _ _ _) ?_
    intro Z9
    refine er_iret rfl rfl ?_
    rw [if_neg (by rw [h25]; decide)]
    exact RI_of rfl rfl
def zs (f : Nat → Int32) (q i : Nat) : Nat → Int32 := fun j => if q ≤ j ∧ j < q + i then nI 0 else f j
theorem zs_0 {f : Nat → Int32} {q : Nat} : zs f q 0 = f := by
  funext j
  exact if_neg (by omega)
theorem zs_s {f : Nat → Int32} {q i : Nat} : u1 (zs f q i) (q + i) (nI 0) = zs f q (i + 1) := by
  funext j
  rw [u1_at]
  show _ = if q ≤ j ∧ j < q + (i + 1) then nI 0 else f j
  by_cases h : j = q + i
  · subst h
    rw [if_pos rfl, if_pos ⟨by omega, by omega⟩]
  · rw [if_neg h]
    show (if q ≤ j ∧ j < q + i then nI 0 else f j) = _
    by_cases h2 : q ≤ j ∧ j < q + i
    · rw [if_pos h2, if_pos ⟨h2.1, by omega⟩]
    · rw [if_neg h2, if_neg (fun hh => h2 ⟨hh.1, by omega⟩)]
def ySheet (X : Nat → Nat → Int32) (a : Nat) (b n : Int32) : Nat → Nat → Int32 := uc (ud (ud X 76 a b) 77 a n) 78 (zs (X 78) (40 * a) 40)
set_option maxRecDepth 100000 in
set_option maxHeartbeats 4000000 in
theorem l_rSh_loop (d : Nat) (X Z : Nat → Nat → Int32) {a : Nat} (ha : a < 4) : ∀ (m i : Nat) (x : Int32), i + m = 40 → x = nI i → ER (d + 1) tb_m213 93 [(0, .ref 63), (1, .int (nI a)), (4, .int x)] [] (Wd (uc X 78 (zs (X 78) (40 * a) i)) Z) (RI (nI 1) (uc X 78 (zs (X 78) (40 * a) 40)))
  | 0, i, x, hi, h0 => by
    have hi0 : i = 40 := by omega
    subst h0
    subst hi0
    refine er_loc (pc' := 95) rfl rfl rfl ?_
    refine er_k (pc' := 97) (nI 40) rfl rfl rfl ?_
    refine er_cm_geT rfl (nI_nlt (by omega) (by omega)) ?_
    refine er_k (pc' := 120) (nI 1) rfl rfl rfl ?_
    refine er_iret rfl rfl ?_
    exact RI_of rfl rfl
  | m + 1, i, x, hi, h0 => by
    subst h0
    refine er_loc (pc' := 95) rfl rfl rfl ?_
    refine er_k (pc' := 97) (nI 40) rfl rfl rfl ?_
    refine er_cm_geF (pc' := 100) rfl (nI_lt (by omega) (by omega)) rfl ?_
    refine er_loc (pc' := 101) rfl rfl rfl ?_
    refine er_gf (pc' := 104) (_) rfl rfl rfl rfl rfl ?_
    refine er_k (pc' := 106) (nI 40) rfl rfl rfl ?_
    refine er_loc (pc' := 107) rfl rfl rfl ?_
    refine er_imul (pc' := 108) rfl rfl ?_
    refine er_loc (pc' := 110) rfl rfl rfl ?_
    refine er_iadd (pc' := 111) rfl rfl ?_
    refine er_k (pc' := 112) (nI 0) rfl rfl rfl ?_
    refine er_isX (pc' := 113) (((40 * a) + i)) rfl rfl (fun _ => rfl) (by simp only [nI_add, nI_mul]) (by omega) rfl rfl ?_
    refine er_loc (L' := [(4, .int (_ + nI 1)), (0, _), (1, _)]) rfl rfl rfl ?_
    refine er_goto rfl ?_
    refine ER_loc [(0, _), (1, _), (4, _)] rfl (List.forall_mem_cons.mpr ⟨rfl, List.forall_mem_cons.mpr ⟨rfl, List.forall_mem_cons.mpr ⟨rfl, fun _ h => absurd h List.not_mem_nil⟩⟩⟩) rfl rfl ?_
    have ih := l_rSh_loop d X Z ha m (i + 1) _ (by omega) (nI_add i 1)
    rw [show ud (uc X 78 (zs (X 78) (40 * a) i)) 78 (40 * a + i) (nI 0) = uc X 78 (zs (X 78) (40 * a) (i + 1)) from by unfold ud; rw [uc_uc, uc_same, zs_s]]
    exact ih
set_option maxRecDepth 100000 in
set_option maxHeartbeats 4000000 in
theorem l_rSheet_ns (d : Nat) (X Z : Nat → Nat → Int32) (s b n : Int32) (hs : sIn s (nI 0) (nI 3) = false) : EC (d + 3) 213 [.ref 63, .int s, .int b, .int n] (Wd X Z) (RI (sErr 1) (yErr X 1)) := by
  refine er_enter (L := [(0, _), (1, _), (2, _), (3, _)]) rfl rfl rfl ?_
  refine er_loc (pc' := 1) rfl rfl rfl ?_
  refine er_cSi (pc' := 4) (rest := []) rfl rfl rfl (l_mSheet _ _ _) ?_
  rw [hs]
  refine er_if_eqT rfl (by decide +kernel) ?_
  refine er_loc (pc' := 30) rfl rfl rfl ?_
  refine er_ldc (pc' := 32) (-1000000001) rfl rfl rfl rfl rfl ?_
  refine er_cIz (pc' := 35) (rest := []) 12 rfl rfl rfl rfl rfl rfl (l_rError1 _ _ _) ?_
  intro Z9
  refine er_iret rfl rfl ?_
  exact RI_of rfl rfl
set_option maxRecDepth 100000 in
set_option maxHeartbeats 4000000 in
theorem l_rSheet_nb (d : Nat) (X Z : Nat → Nat → Int32) {a : Nat} (ha : a < 4) (b n : Int32) (hb : sBits b = false) : EC (d + 3) 213 [.ref 63, .int (nI a), .int b, .int n] (Wd X Z) (RI (sErr 1) (yErr X 1)) := by
  unfold sBits at hb
  simp only [Bool.or_eq_false_iff, decide_eq_false_iff_not] at hb
  refine er_enter (L := [(0, _), (1, _), (2, _), (3, _)]) rfl rfl rfl ?_
  refine er_loc (pc' := 1) rfl rfl rfl ?_
  refine er_cSi (pc' := 4) (rest := []) rfl rfl rfl (l_mSheet _ _ _) ?_
  rw [sIn_t (Nat.zero_le _) (show _ ≤ 3 by omega) (by omega)]
  refine er_if_eqF (pc' := 7) rfl (by decide +kernel) rfl ?_
  refine er_loc (pc' := 8) rfl rfl rfl ?_
  refine er_if_eqF (pc' := 11) rfl (hb.1) rfl ?_
  refine er_loc (pc' := 12) rfl rfl rfl ?_
  refine er_k (pc' := 14) (nI 8) rfl rfl rfl ?_
  refine er_cm_eqF (pc' := 17) rfl (hb.2.1) rfl ?_
  refine er_loc (pc' := 18) rfl rfl rfl ?_
  refine er_k (pc' := 20) (nI 16) rfl rfl rfl ?_
  refine er_cm_eqF (pc' := 23) rfl (hb.2.2.1) rfl ?_
  refine er_loc (pc' := 24) rfl rfl rfl ?_
  refine er_k (pc' := 26) (nI 32) rfl rfl rfl ?_
  refine er_cm_eqF (pc' := 29) rfl (hb.2.2.2) rfl ?_
  refine er_loc (pc' := 30) rfl rfl rfl ?_
  refine er_ldc (pc' := 32) (-1000000001) rfl rfl rfl rfl rfl ?_
  refine er_cIz (pc' := 35) (rest := []) 12 rfl rfl rfl rfl rfl rfl (l_rError1 _ _ _) ?_
  intro Z9
  refine er_iret rfl rfl ?_
  exact RI_of rfl rfl
set_option maxRecDepth 100000 in
set_option maxHeartbeats 4000000 in
theorem l_rSheet0 (d : Nat) (X Z : Nat → Nat → Int32) {a : Nat} (ha : a < 4) (n : Int32) : EC (d + 3) 213 [.ref 63, .int (nI a), .int (nI 0), .int n] (Wd X Z) (RI (nI 1) (ySheet X a (nI 0) (nI 0))) := by
  refine er_enter (L := [(0, _), (1, _), (2, _), (3, _)]) rfl rfl rfl ?_
  refine er_loc (pc' := 1) rfl rfl rfl ?_
  refine er_cSi (pc' := 4) (rest := []) rfl rfl rfl (l_mSheet _ _ _) ?_
  rw [sIn_t (Nat.zero_le _) (show _ ≤ 3 by omega) (by omega)]
  refine er_if_eqF (pc' := 7) rfl (by decide +kernel) rfl ?_
  refine er_loc (pc' := 8) rfl rfl rfl ?_
  refine er_if_eqT rfl (rfl) ?_
  refine er_loc (pc' := 37) rfl rfl rfl ?_
  refine er_if_leT rfl (by decide +kernel) ?_
  refine er_loc (pc' := 52) rfl rfl rfl ?_
  refine er_if_leT rfl (by decide +kernel) ?_
  refine er_loc (pc' := 69) rfl rfl rfl ?_
  refine er_gf (pc' := 72) (_) rfl rfl rfl rfl rfl ?_
  refine er_loc (pc' := 73) rfl rfl rfl ?_
  refine er_loc (pc' := 74) rfl rfl rfl ?_
  refine er_isX (pc' := 75) (a) rfl rfl (fun _ => rfl) rfl ha rfl rfl ?_
  refine er_loc (pc' := 76) rfl rfl rfl ?_
  refine er_gf (pc' := 79) (_) rfl rfl rfl rfl rfl ?_
  refine er_loc (pc' := 80) rfl rfl rfl ?_
  refine er_loc (pc' := 81) rfl rfl rfl ?_
  refine er_if_neF (pc' := 84) rfl (by decide +kernel) rfl ?_
  refine er_k (pc' := 85) (nI 0) rfl rfl rfl ?_
  refine er_goto rfl ?_
  refine er_isX (pc' := 90) (a) rfl rfl (fun _ => rfl) rfl ha rfl rfl ?_
  refine er_k (pc' := 91) (nI 0) rfl rfl rfl ?_
  refine er_loc (pc' := 93) (L' := [(4, _), (0, _), (1, _), (2, _), (3, _)]) rfl rfl rfl ?_
  refine ER_loc [(0, _), (1, _), (4, _)] rfl (List.forall_mem_cons.mpr ⟨rfl, List.forall_mem_cons.mpr ⟨rfl, List.forall_mem_cons.mpr ⟨rfl, fun _ h => absurd h List.not_mem_nil⟩⟩⟩) rfl rfl ?_
  have h := l_rSh_loop (d + 1) (ud (ud X 76 a (nI 0)) 77 a (nI 0)) Z ha 40 0 (nI 0) (by omega) rfl
  rw [zs_0, uc_id, show ud (ud X 76 a (nI 0)) 77 a (nI 0) 78 = X 78 from by rw [ud_ne (by omega), ud_ne (by omega)]] at h
  exact h
set_option maxRecDepth 100000 in
set_option maxHeartbeats 4000000 in
theorem l_rSheet8 (d : Nat) (X Z : Nat → Nat → Int32) {a : Nat} (ha : a < 4) (n : Int32) : EC (d + 3) 213 [.ref 63, .int (nI a), .int (nI 8), .int n] (Wd X Z) (fun r => if n < 0 then RI (sErr 3) (yErr X 3) r else if nI 40 < n then RI (sErr 1) (yErr X 1) r else RI (nI 1) (ySheet X a (nI 8) n) r) := by
  refine er_enter (L := [(0, _), (1, _), (2, _), (3, _)]) rfl rfl rfl ?_
  refine er_loc (pc' := 1) rfl rfl rfl ?_
  refine er_cSi (pc' := 4) (rest := []) rfl rfl rfl (l_mSheet _ _ _) ?_
  rw [sIn_t (Nat.zero_le _) (show _ ≤ 3 by omega) (by omega)]
  refine er_if_eqF (pc' := 7) rfl (by decide +kernel) rfl ?_
  refine er_loc (pc' := 8) rfl rfl rfl ?_
  refine er_if_eqF (pc' := 11) rfl (by decide +kernel) rfl ?_
  refine er_loc (pc' := 12) rfl rfl rfl ?_
  refine er_k (pc' := 14) (nI 8) rfl rfl rfl ?_
  refine er_cm_eqT rfl (rfl) ?_
  refine er_loc (pc' := 37) rfl rfl rfl ?_
  refine er_if_leF (pc' := 40) rfl (by decide +kernel) rfl ?_
  refine er_loc (pc' := 41) rfl rfl rfl ?_
  refine er_if_ge (pc' := 44) rfl rfl (fun h41 => ?_) (fun h41 => ?_)
  · refine er_loc (pc' := 52) rfl rfl rfl ?_
    refine er_if_leF (pc' := 55) rfl (by decide +kernel) rfl ?_
    refine er_loc (pc' := 56) rfl rfl rfl ?_
    refine er_k (pc' := 58) (nI 40) rfl rfl rfl ?_
    refine er_cm_le (pc' := 61) rfl rfl (fun h58 => ?_) (fun h58 => ?_)
    · refine er_loc (pc' := 69) rfl rfl rfl ?_
      refine er_gf (pc' := 72) (_) rfl rfl rfl rfl rfl ?_
      refine er_loc (pc' := 73) rfl rfl rfl ?_
      refine er_loc (pc' := 74) rfl rfl rfl ?_
      refine er_isX (pc' := 75) (a) rfl rfl (fun _ => rfl) rfl ha rfl rfl ?_
      refine er_loc (pc' := 76) rfl rfl rfl ?_
      refine er_gf (pc' := 79) (_) rfl rfl rfl rfl rfl ?_
      refine er_loc (pc' := 80) rfl rfl rfl ?_
      refine er_loc (pc' := 81) rfl rfl rfl ?_
      refine er_if_neT rfl (by decide +kernel) ?_
      refine er_loc (pc' := 89) rfl rfl rfl ?_
      refine er_isX (pc' := 90) (a) rfl rfl (fun _ => rfl) rfl ha rfl rfl ?_
      refine er_k (pc' := 91) (nI 0) rfl rfl rfl ?_
      refine er_loc (pc' := 93) (L' := [(4, _), (0, _), (1, _), (2, _), (3, _)]) rfl rfl rfl ?_
      refine ER_loc [(0, _), (1, _), (4, _)] rfl (List.forall_mem_cons.mpr ⟨rfl, List.forall_mem_cons.mpr ⟨rfl, List.forall_mem_cons.mpr ⟨rfl, fun _ h => absurd h List.not_mem_nil⟩⟩⟩) rfl rfl ?_
      have h := l_rSh_loop (d + 1) (ud (ud X 76 a (nI 8)) 77 a n) Z ha 40 0 (nI 0) (by omega) rfl
      rw [zs_0, uc_id, show ud (ud X 76 a (nI 8)) 77 a n 78 = X 78 from by rw [ud_ne (by omega), ud_ne (by omega)]] at h
      exact h.mono (fun r hr => by rw [if_neg h41, if_neg h58]; exact hr)
    · refine er_loc (pc' := 62) rfl rfl rfl ?_
      refine er_ldc (pc' := 64) (-1000000001) rfl rfl rfl rfl rfl ?_
      refine er_cIz (pc' := 67) (rest := []) 12 rfl rfl rfl rfl rfl rfl (l_rError1 _ _ _) ?_
      intro Z9
      refine er_iret rfl rfl ?_
      rw [if_neg h41, if_pos h58]
      exact RI_of rfl rfl
  · refine er_loc (pc' := 45) rfl rfl rfl ?_
    refine er_ldc (pc' := 47) (-1000000003) rfl rfl rfl rfl rfl ?_
    refine er_cIz (pc' := 50) (rest := []) 12 rfl rfl rfl rfl rfl rfl (l_rError3 _ _ _) ?_
    intro Z9
    refine er_iret rfl rfl ?_
    rw [if_pos h41]
    exact RI_of rfl rfl
set_option maxRecDepth 100000 in
set_option maxHeartbeats 4000000 in
theorem l_rSheet16 (d : Nat) (X Z : Nat → Nat → Int32) {a : Nat} (ha : a < 4) (n : Int32) : EC (d + 3) 213 [.ref 63, .int (nI a), .int (nI 16), .int n] (Wd X Z) (fun r => if n < 0 then RI (sErr 3) (yErr X 3) r else if nI 40 < n then RI (sErr 1) (yErr X 1) r else RI (nI 1) (ySheet X a (nI 16) n) r) := by
  refine er_enter (L := [(0, _), (1, _), (2, _), (3, _)]) rfl rfl rfl ?_
  refine er_loc (pc' := 1) rfl rfl rfl ?_
  refine er_cSi (pc' := 4) (rest := []) rfl rfl rfl (l_mSheet _ _ _) ?_
  rw [sIn_t (Nat.zero_le _) (show _ ≤ 3 by omega) (by omega)]
  refine er_if_eqF (pc' := 7) rfl (by decide +kernel) rfl ?_
  refine er_loc (pc' := 8) rfl rfl rfl ?_
  refine er_if_eqF (pc' := 11) rfl (by decide +kernel) rfl ?_
  refine er_loc (pc' := 12) rfl rfl rfl ?_
  refine er_k (pc' := 14) (nI 8) rfl rfl rfl ?_
  refine er_cm_eqF (pc' := 17) rfl (by decide +kernel) rfl ?_
  refine er_loc (pc' := 18) rfl rfl rfl ?_
  refine er_k (pc' := 20) (nI 16) rfl rfl rfl ?_
  refine er_cm_eqT rfl (rfl) ?_
  refine er_loc (pc' := 37) rfl rfl rfl ?_
  refine er_if_leF (pc' := 40) rfl (by decide +kernel) rfl ?_
  refine er_loc (pc' := 41) rfl rfl rfl ?_
  refine er_if_ge (pc' := 44) rfl rfl (fun h41 => ?_) (fun h41 => ?_)
  · refine er_loc (pc' := 52) rfl rfl rfl ?_
    refine er_if_leF (pc' := 55) rfl (by decide +kernel) rfl ?_
    refine er_loc (pc' := 56) rfl rfl rfl ?_
    refine er_k (pc' := 58) (nI 40) rfl rfl rfl ?_
    refine er_cm_le (pc' := 61) rfl rfl (fun h58 => ?_) (fun h58 => ?_)
    · refine er_loc (pc' := 69) rfl rfl rfl ?_
      refine er_gf (pc' := 72) (_) rfl rfl rfl rfl rfl ?_
      refine er_loc (pc' := 73) rfl rfl rfl ?_
      refine er_loc (pc' := 74) rfl rfl rfl ?_
      refine er_isX (pc' := 75) (a) rfl rfl (fun _ => rfl) rfl ha rfl rfl ?_
      refine er_loc (pc' := 76) rfl rfl rfl ?_
      refine er_gf (pc' := 79) (_) rfl rfl rfl rfl rfl ?_
      refine er_loc (pc' := 80) rfl rfl rfl ?_
      refine er_loc (pc' := 81) rfl rfl rfl ?_
      refine er_if_neT rfl (by decide +kernel) ?_
      refine er_loc (pc' := 89) rfl rfl rfl ?_
      refine er_isX (pc' := 90) (a) rfl rfl (fun _ => rfl) rfl ha rfl rfl ?_
      refine er_k (pc' := 91) (nI 0) rfl rfl rfl ?_
      refine er_loc (pc' := 93) (L' := [(4, _), (0, _), (1, _), (2, _), (3, _)]) rfl rfl rfl ?_
      refine ER_loc [(0, _), (1, _), (4, _)] rfl (List.forall_mem_cons.mpr ⟨rfl, List.forall_mem_cons.mpr ⟨rfl, List.forall_mem_cons.mpr ⟨rfl, fun _ h => absurd h List.not_mem_nil⟩⟩⟩) rfl rfl ?_
      have h := l_rSh_loop (d + 1) (ud (ud X 76 a (nI 16)) 77 a n) Z ha 40 0 (nI 0) (by omega) rfl
      rw [zs_0, uc_id, show ud (ud X 76 a (nI 16)) 77 a n 78 = X 78 from by rw [ud_ne (by omega), ud_ne (by omega)]] at h
      exact h.mono (fun r hr => by rw [if_neg h41, if_neg h58]; exact hr)
    · refine er_loc (pc' := 62) rfl rfl rfl ?_
      refine er_ldc (pc' := 64) (-1000000001) rfl rfl rfl rfl rfl ?_
      refine er_cIz (pc' := 67) (rest := []) 12 rfl rfl rfl rfl rfl rfl (l_rError1 _ _ _) ?_
      intro Z9
      refine er_iret rfl rfl ?_
      rw [if_neg h41, if_pos h58]
      exact RI_of rfl rfl
  · refine er_loc (pc' := 45) rfl rfl rfl ?_
    refine er_ldc (pc' := 47) (-1000000003) rfl rfl rfl rfl rfl ?_
    refine er_cIz (pc' := 50) (rest := []) 12 rfl rfl rfl rfl rfl rfl (l_rError3 _ _ _) ?_
    intro Z9
    refine er_iret rfl rfl ?_
    rw [if_pos h41]
    exact RI_of rfl rfl
set_option maxRecDepth 100000 in
set_option maxHeartbeats 4000000 in
theorem l_rSheet32 (d : Nat) (X Z : Nat → Nat → Int32) {a : Nat} (ha : a < 4) (n : Int32) : EC (d + 3) 213 [.ref 63, .int (nI a), .int (nI 32), .int n] (Wd X Z) (fun r => if n < 0 then RI (sErr 3) (yErr X 3) r else if nI 40 < n then RI (sErr 1) (yErr X 1) r else RI (nI 1) (ySheet X a (nI 32) n) r) := by
  refine er_enter (L := [(0, _), (1, _), (2, _), (3, _)]) rfl rfl rfl ?_
  refine er_loc (pc' := 1) rfl rfl rfl ?_
  refine er_cSi (pc' := 4) (rest := []) rfl rfl rfl (l_mSheet _ _ _) ?_
  rw [sIn_t (Nat.zero_le _) (show _ ≤ 3 by omega) (by omega)]
  refine er_if_eqF (pc' := 7) rfl (by decide +kernel) rfl ?_
  refine er_loc (pc' := 8) rfl rfl rfl ?_
  refine er_if_eqF (pc' := 11) rfl (by decide +kernel) rfl ?_
  refine er_loc (pc' := 12) rfl rfl rfl ?_
  refine er_k (pc' := 14) (nI 8) rfl rfl rfl ?_
  refine er_cm_eqF (pc' := 17) rfl (by decide +kernel) rfl ?_
  refine er_loc (pc' := 18) rfl rfl rfl ?_
  refine er_k (pc' := 20) (nI 16) rfl rfl rfl ?_
  refine er_cm_eqF (pc' := 23) rfl (by decide +kernel) rfl ?_
  refine er_loc (pc' := 24) rfl rfl rfl ?_
  refine er_k (pc' := 26) (nI 32) rfl rfl rfl ?_
  refine er_cm_eqT rfl (rfl) ?_
  refine er_loc (pc' := 37) rfl rfl rfl ?_
  refine er_if_leF (pc' := 40) rfl (by decide +kernel) rfl ?_
  refine er_loc (pc' := 41) rfl rfl rfl ?_
  refine er_if_ge (pc' := 44) rfl rfl (fun h41 => ?_) (fun h41 => ?_)
  · refine er_loc (pc' := 52) rfl rfl rfl ?_
    refine er_if_leF (pc' := 55) rfl (by decide +kernel) rfl ?_
    refine er_loc (pc' := 56) rfl rfl rfl ?_
    refine er_k (pc' := 58) (nI 40) rfl rfl rfl ?_
    refine er_cm_le (pc' := 61) rfl rfl (fun h58 => ?_) (fun h58 => ?_)
    · refine er_loc (pc' := 69) rfl rfl rfl ?_
      refine er_gf (pc' := 72) (_) rfl rfl rfl rfl rfl ?_
      refine er_loc (pc' := 73) rfl rfl rfl ?_
      refine er_loc (pc' := 74) rfl rfl rfl ?_
      refine er_isX (pc' := 75) (a) rfl rfl (fun _ => rfl) rfl ha rfl rfl ?_
      refine er_loc (pc' := 76) rfl rfl rfl ?_
      refine er_gf (pc' := 79) (_) rfl rfl rfl rfl rfl ?_
      refine er_loc (pc' := 80) rfl rfl rfl ?_
      refine er_loc (pc' := 81) rfl rfl rfl ?_
      refine er_if_neT rfl (by decide +kernel) ?_
      refine er_loc (pc' := 89) rfl rfl rfl ?_
      refine er_isX (pc' := 90) (a) rfl rfl (fun _ => rfl) rfl ha rfl rfl ?_
      refine er_k (pc' := 91) (nI 0) rfl rfl rfl ?_
      refine er_loc (pc' := 93) (L' := [(4, _), (0, _), (1, _), (2, _), (3, _)]) rfl rfl rfl ?_
      refine ER_loc [(0, _), (1, _), (4, _)] rfl (List.forall_mem_cons.mpr ⟨rfl, List.forall_mem_cons.mpr ⟨rfl, List.forall_mem_cons.mpr ⟨rfl, fun _ h => absurd h List.not_mem_nil⟩⟩⟩) rfl rfl ?_
      have h := l_rSh_loop (d + 1) (ud (ud X 76 a (nI 32)) 77 a n) Z ha 40 0 (nI 0) (by omega) rfl
      rw [zs_0, uc_id, show ud (ud X 76 a (nI 32)) 77 a n 78 = X 78 from by rw [ud_ne (by omega), ud_ne (by omega)]] at h
      exact h.mono (fun r hr => by rw [if_neg h41, if_neg h58]; exact hr)
    · refine er_loc (pc' := 62) rfl rfl rfl ?_
      refine er_ldc (pc' := 64) (-1000000001) rfl rfl rfl rfl rfl ?_
      refine er_cIz (pc' := 67) (rest := []) 12 rfl rfl rfl rfl rfl rfl (l_rError1 _ _ _) ?_
      intro Z9
      refine er_iret rfl rfl ?_
      rw [if_neg h41, if_pos h58]
      exact RI_of rfl rfl
  · refine er_loc (pc' := 45) rfl rfl rfl ?_
    refine er_ldc (pc' := 47) (-1000000003) rfl rfl rfl rfl rfl ?_
    refine er_cIz (pc' := 50) (rest := []) 12 rfl rfl rfl rfl rfl rfl (l_rError3 _ _ _) ?_
    intro Z9
    refine er_iret rfl rfl ?_
    rw [if_pos h41]
    exact RI_of rfl rfl
set_option maxRecDepth 100000 in
set_option maxHeartbeats 4000000 in
theorem l_rScrews_no (d : Nat) (X Z : Nat → Nat → Int32) (s : Int32) (hs : sIn s (nI 0) (nI 3) = false) : EC (d + 4) 218 [.ref 63, .int s] (Wd X Z) (RI (sErr 1) (yErr X 1)) := by
  refine er_enter (L := [(0, _), (1, _)]) rfl rfl rfl ?_
  refine er_loc (pc' := 1) rfl rfl rfl ?_
  refine er_loc (pc' := 2) rfl rfl rfl ?_
  refine er_cIi (pc' := 5) (rest := []) 12 rfl rfl rfl rfl rfl rfl (l_rNot_s _ _ _ hs) ?_
  refine er_loc (pc' := 6) (L' := [(2, _), (0, _), (1, _)]) rfl rfl rfl ?_
  refine er_loc (pc' := 7) rfl rfl rfl ?_
  refine er_if_eqF (pc' := 10) rfl (by decide +kernel) rfl ?_
  refine er_loc (pc' := 11) rfl rfl rfl ?_
  refine er_loc (pc' := 12) rfl rfl rfl ?_
  refine er_cIz (pc' := 15) (rest := []) 12 rfl rfl rfl rfl rfl rfl (l_rError1 _ _ _) ?_
  intro Z9
  refine er_iret rfl rfl ?_
  exact RI_of rfl rfl
set_option maxRecDepth 100000 in
set_option maxHeartbeats 4000000 in
theorem l_rScrews_0 (d : Nat) (X Z : Nat → Nat → Int32) {a : Nat} (ha : a < 4) (hb : X 76 a = 0) : EC (d + 4) 218 [.ref 63, .int (nI a)] (Wd X Z) (RI (sErr 2) (yErr X 2)) := by
  refine er_enter (L := [(0, _), (1, _)]) rfl rfl rfl ?_
  refine er_loc (pc' := 1) rfl rfl rfl ?_
  refine er_loc (pc' := 2) rfl rfl rfl ?_
  refine er_cIi (pc' := 5) (rest := []) 12 rfl rfl rfl rfl rfl rfl (l_rNot_0 _ _ _ ha hb) ?_
  refine er_loc (pc' := 6) (L' := [(2, _), (0, _), (1, _)]) rfl rfl rfl ?_
  refine er_loc (pc' := 7) rfl rfl rfl ?_
  refine er_if_eqF (pc' := 10) rfl (by decide +kernel) rfl ?_
  refine er_loc (pc' := 11) rfl rfl rfl ?_
  refine er_loc (pc' := 12) rfl rfl rfl ?_
  refine er_cIz (pc' := 15) (rest := []) 12 rfl rfl rfl rfl rfl rfl (l_rError2 _ _ _) ?_
  intro Z9
  refine er_iret rfl rfl ?_
  exact RI_of rfl rfl
theorem jSc_y {f : Nat → Int32} {m i : Nat} {J : Nat → Nat → Int32} (h : sIn (f i) (nI 0) (nI 9) = true) : jSc f (m + 1) i J = jSc f m (i + 1) (ud J 3 i (f i)) := if_pos h
theorem jSc_n {f : Nat → Int32} {m i : Nat} {J : Nat → Nat → Int32} (h : sIn (f i) (nI 0) (nI 9) = false) : jSc f (m + 1) i J = (J, i) := if_neg (by rw [h]; decide)
set_option maxRecDepth 100000 in
set_option maxHeartbeats 4000000 in
theorem l_rSc_loop (d : Nat) {a : Nat} (ha : a < 4) {g T : Nat} (h40 : g ≤ 40) (y : Int32) : ∀ (m i : Nat) (X Z : Nat → Nat → Int32) (x : Int32), RK T (X 64) → X 77 a = nI g → i + m = min g (jn (jm (X 64))) → x = nI i → ER (d + 3) tb_m218 18 [(0, .ref 63), (1, .int (nI a)), (2, .int y), (3, .int x)] [] (Wd X Z) (RNJ (nI (jSc (fun k => X 78 (40 * a + k)) m i (jm (X 64))).2) (jSc (fun k => X 78 (40 * a + k)) m i (jm (X 64))).1 T X)
  | 0, i, X, Z, x, hI, hg, hi, hx => by
    have h8 := jn8 hI.ij
    subst hx
    have ofn : nI i < nI g → jn (jm (X 64)) ≤ i := by
      intro hh
      rw [nI_ltI (by omega) (by omega)] at hh
      omega
    refine er_loc (pc' := 19) rfl rfl rfl ?_
    refine er_loc (pc' := 20) rfl rfl rfl ?_
    refine er_gf (pc' := 23) (_) rfl rfl rfl rfl rfl ?_
    refine er_loc (pc' := 24) rfl rfl rfl ?_
    refine er_ia (pc' := 25) (a) rfl rfl rfl rfl ha rfl rfl ?_
    rw [hg]
    refine er_cm_ge (pc' := 28) rfl rfl (fun h25 => ?_) (fun h25 => ?_)
    · refine er_loc (pc' := 82) rfl rfl rfl ?_
      refine er_iret rfl rfl ?_
      exact RNJ_of rfl (WJ.rf hI)
    · refine er_loc (pc' := 29) rfl rfl rfl ?_
      refine er_loc (pc' := 30) rfl rfl rfl ?_
      refine er_gf (pc' := 33) (_) rfl rfl rfl rfl rfl ?_
      refine er_k (pc' := 34) (nI 2) rfl rfl rfl ?_
      refine er_ia (pc' := 35) (2) rfl rfl rfl rfl (by omega) rfl rfl ?_
      rw [hI.n]
      refine er_cm_geT rfl (nI_nlt (ofn h25) (by omega)) ?_
      refine er_loc (pc' := 82) rfl rfl rfl ?_
      refine er_iret rfl rfl ?_
      exact RNJ_of rfl (WJ.rf hI)
  | m + 1, i, X, Z, x, hI, hg, hi, hx => by
    have h8 := jn8 hI.ij
    subst hx
    refine er_loc (pc' := 19) rfl rfl rfl ?_
    refine er_loc (pc' := 20) rfl rfl rfl ?_
    refine er_gf (pc' := 23) (_) rfl rfl rfl rfl rfl ?_
    refine er_loc (pc' := 24) rfl rfl rfl ?_
    refine er_ia (pc' := 25) (a) rfl rfl rfl rfl ha rfl rfl ?_
    rw [hg]
    refine er_cm_geF (pc' := 28) rfl (nI_lt (by omega) (by omega)) rfl ?_
    refine er_loc (pc' := 29) rfl rfl rfl ?_
    refine er_loc (pc' := 30) rfl rfl rfl ?_
    refine er_gf (pc' := 33) (_) rfl rfl rfl rfl rfl ?_
    refine er_k (pc' := 34) (nI 2) rfl rfl rfl ?_
    refine er_ia (pc' := 35) (2) rfl rfl rfl rfl (by omega) rfl rfl ?_
    rw [hI.n]
    refine er_cm_geF (pc' := 38) rfl (nI_lt (by omega) (by omega)) rfl ?_
    refine er_loc (pc' := 39) rfl rfl rfl ?_
    refine er_gf (pc' := 42) (_) rfl rfl rfl rfl rfl ?_
    refine er_k (pc' := 44) (nI 40) rfl rfl rfl ?_
    refine er_loc (pc' := 45) rfl rfl rfl ?_
    refine er_imul (pc' := 46) rfl rfl ?_
    refine er_loc (pc' := 47) rfl rfl rfl ?_
    refine er_iadd rfl rfl ?_
    rw [nI_mul 40 a, nI_add (40 * a) i]
    refine er_ia (pc' := 49) ((40 * a + i)) rfl rfl rfl (by simp only [nI_add, nI_mul]) (by omega) rfl rfl ?_
    refine er_k (pc' := 50) (nI 0) rfl rfl rfl ?_
    refine er_k (pc' := 52) (nI 9) rfl rfl rfl ?_
    refine er_cSi (pc' := 55) (rest := []) rfl rfl rfl (l_in _ _ _ _ _) ?_
    refine er_if_eqb (pc' := 58) rfl rfl (fun h55 => ?_) (fun h55 => ?_)
    · refine er_loc (pc' := 82) rfl rfl rfl ?_
      refine er_iret rfl rfl ?_
      rw [jSc_n (f := fun k => X 78 (40 * a + k)) h55]
      exact RNJ_of rfl (WJ.rf hI)
    · refine er_loc (pc' := 59) rfl rfl rfl ?_
      refine er_loc (pc' := 60) rfl rfl rfl ?_
      refine er_k (pc' := 61) (nI 2) rfl rfl rfl ?_
      refine er_loc (pc' := 62) rfl rfl rfl ?_
      refine er_gf (pc' := 65) (_) rfl rfl rfl rfl rfl ?_
      refine er_k (pc' := 67) (nI 40) rfl rfl rfl ?_
      refine er_loc (pc' := 68) rfl rfl rfl ?_
      refine er_imul (pc' := 69) rfl rfl ?_
      refine er_loc (pc' := 70) rfl rfl rfl ?_
      refine er_iadd rfl rfl ?_
      rw [nI_mul 40 a, nI_add (40 * a) i]
      refine er_ia (pc' := 72) ((40 * a + i)) rfl rfl rfl (by simp only [nI_add, nI_mul]) (by omega) rfl rfl ?_
      refine er_cIv (pc' := 75) (rest := []) 12 rfl rfl rfl rfl rfl rfl (l_rLets _ _ _ (show i < 8 by omega) (show 2 < 6 by omega) _) ?_
      intro Z7
      refine er_loc (L' := [(3, .int (_ + nI 1)), (0, _), (1, _), (2, _)]) rfl rfl rfl ?_
      refine er_goto rfl ?_
      refine ER_loc [(0, _), (1, _), (2, _), (3, _)] rfl (List.forall_mem_cons.mpr ⟨rfl, List.forall_mem_cons.mpr ⟨rfl, List.forall_mem_cons.mpr ⟨rfl, List.forall_mem_cons.mpr ⟨rfl, fun _ h => absurd h List.not_mem_nil⟩⟩⟩⟩) rfl rfl ?_
      have w1 := wSc (k := i) (p := 7 + 6 * i + 2) hI rfl (by omega) (sIn_isN (by omega) (by omega) h55) (by omega)
      have ih := l_rSc_loop d ha h40 y m (i + 1) (ud X 64 (7 + 6 * i + 2) (X 78 (40 * a + i))) Z7 _ w1.rk (by rw [ud_ne (by omega)]; exact hg) (by rw [w1.j]; show i + 1 + m = min g (jn (jm (X 64))); omega) (nI_add i 1)
      rw [w1.j, show ud X 64 (7 + 6 * i + 2) (X 78 (40 * a + i)) 78 = X 78 from ud_ne (by omega)] at ih
      rw [jSc_y (f := fun k => X 78 (40 * a + k)) h55]
      exact ih.mono (fun r hr => RNJ.tr w1 hr)
set_option maxRecDepth 100000 in
set_option maxHeartbeats 4000000 in
theorem l_rScrews (d : Nat) (X Z : Nat → Nat → Int32) {T : Nat} (hI : RK T (X 64)) {a : Nat} (ha : a < 4) (hb : ¬ X 76 a = 0) {g : Nat} (hg : X 77 a = nI g) (h40 : g ≤ 40) : EC (d + 4) 218 [.ref 63, .int (nI a)] (Wd X Z) (RNJ (nI (jSc (fun k => X 78 (40 * a + k)) (min g (jn (jm (X 64)))) 0 (jm (X 64))).2) (jSc (fun k => X 78 (40 * a + k)) (min g (jn (jm (X 64)))) 0 (jm (X 64))).1 T X) := by
  refine er_enter (L := [(0, _), (1, _)]) rfl rfl rfl ?_
  refine er_loc (pc' := 1) rfl rfl rfl ?_
  refine er_loc (pc' := 2) rfl rfl rfl ?_
  refine er_cIi (pc' := 5) (rest := []) 12 rfl rfl rfl rfl rfl rfl (l_rNot_1 _ _ _ ha hb) ?_
  refine er_loc (pc' := 6) (L' := [(2, _), (0, _), (1, _)]) rfl rfl rfl ?_
  refine er_loc (pc' := 7) rfl rfl rfl ?_
  refine er_if_eqT rfl (by decide +kernel) ?_
  refine er_k (pc' := 17) (nI 0) rfl rfl rfl ?_
  refine er_loc (pc' := 18) (L' := [(3, _), (2, _), (0, _), (1, _)]) rfl rfl rfl ?_
  refine ER_loc [(0, _), (1, _), (2, _), (3, _)] rfl (List.forall_mem_cons.mpr ⟨rfl, List.forall_mem_cons.mpr ⟨rfl, List.forall_mem_cons.mpr ⟨rfl, List.forall_mem_cons.mpr ⟨rfl, fun _ h => absurd h List.not_mem_nil⟩⟩⟩⟩) rfl rfl ?_
  exact l_rSc_loop d ha h40 _ _ 0 X Z _ hI hg (by omega) rfl
set_option maxRecDepth 100000 in
set_option maxHeartbeats 4000000 in
theorem l_rJudge_no (d : Nat) (X Z : Nat → Nat → Int32) (s : Int32) (hs : sIn s (nI 0) (nI 3) = false) : EC (d + 4) 219 [.ref 63, .int s] (Wd X Z) (RI (sErr 1) (yErr X 1)) := by
  refine er_enter (L := [(0, _), (1, _)]) rfl rfl rfl ?_
  refine er_loc (pc' := 1) rfl rfl rfl ?_
  refine er_loc (pc' := 2) rfl rfl rfl ?_
  refine er_cIi (pc' := 5) (rest := []) 12 rfl rfl rfl rfl rfl rfl (l_rNot_s _ _ _ hs) ?_
  refine er_loc (pc' := 6) (L' := [(2, _), (0, _), (1, _)]) rfl rfl rfl ?_
  refine er_loc (pc' := 7) rfl rfl rfl ?_
  refine er_if_eqF (pc' := 10) rfl (by decide +kernel) rfl ?_
  refine er_loc (pc' := 11) rfl rfl rfl ?_
  refine er_loc (pc' := 12) rfl rfl rfl ?_
  refine er_cIz (pc' := 15) (rest := []) 12 rfl rfl rfl rfl rfl rfl (l_rError1 _ _ _) ?_
  intro Z9
  refine er_iret rfl rfl ?_
  exact RI_of rfl rfl
set_option maxRecDepth 100000 in
set_option maxHeartbeats 4000000 in
theorem l_rJudge_0 (d : Nat) (X Z : Nat → Nat → Int32) {a : Nat} (ha : a < 4) (hb : X 76 a = 0) : EC (d + 4) 219 [.ref 63, .int (nI a)] (Wd X Z) (RI (sErr 2) (yErr X 2)) := by
  refine er_enter (L := [(0, _), (1, _)]) rfl rfl rfl ?_
  refine er_loc (pc' := 1) rfl rfl rfl ?_
  refine er_loc (pc' := 2) rfl rfl rfl ?_
  refine er_cIi (pc' := 5) (rest := []) 12 rfl rfl rfl rfl rfl rfl (l_rNot_0 _ _ _ ha hb) ?_
  refine er_loc (pc' := 6) (L' := [(2, _), (0, _), (1, _)]) rfl rfl rfl ?_
  refine er_loc (pc' := 7) rfl rfl rfl ?_
  refine er_if_eqF (pc' := 10) rfl (by decide +kernel) rfl ?_
  refine er_loc (pc' := 11) rfl rfl rfl ?_
  refine er_loc (pc' := 12) rfl rfl rfl ?_
  refine er_cIz (pc' := 15) (rest := []) 12 rfl rfl rfl rfl rfl rfl (l_rError2 _ _ _) ?_
  intro Z9
  refine er_iret rfl rfl ?_
  exact RI_of rfl rfl
set_option maxRecDepth 100000 in
set_option maxHeartbeats 4000000 in
theorem l_rJ_end (d : Nat) (X Z : Nat → Nat → Int32) {a : Nat} (ha : a < 4) (y x : Int32) : ER (d + 1) tb_m219 63 [(0, .ref 63), (1, .int (nI a)), (2, .int y), (3, .int x)] [] (Wd X Z) (RE X) := by
  refine er_loc (pc' := 64) rfl rfl rfl ?_
  refine er_loc (pc' := 65) rfl rfl rfl ?_
  refine er_gf (pc' := 68) (_) rfl rfl rfl rfl rfl ?_
  refine er_k (pc' := 69) (nI 2) rfl rfl rfl ?_
  refine er_ia (pc' := 70) (2) rfl rfl rfl rfl (by omega) rfl rfl ?_
  refine er_cm_ne (pc' := 73) rfl rfl (fun h70 => ?_) (fun h70 => ?_)
  · refine er_loc (pc' := 88) rfl rfl rfl ?_
    refine er_iret rfl rfl ?_
    exact RE_of rfl
  · refine er_loc (pc' := 74) rfl rfl rfl ?_
    refine er_gf (pc' := 77) (_) rfl rfl rfl rfl rfl ?_
    refine er_loc (pc' := 78) rfl rfl rfl ?_
    refine er_ia (pc' := 79) (a) rfl rfl rfl rfl (by omega) rfl rfl ?_
    refine er_loc (pc' := 80) rfl rfl rfl ?_
    refine er_cm_ne (pc' := 83) rfl rfl (fun h80 => ?_) (fun h80 => ?_)
    · refine er_loc (pc' := 88) rfl rfl rfl ?_
      refine er_iret rfl rfl ?_
      exact RE_of rfl
    · refine er_k (pc' := 84) (-1) rfl rfl rfl ?_
      refine er_goto rfl ?_
      refine er_iret rfl rfl ?_
      exact RE_of rfl
set_option maxRecDepth 100000 in
set_option maxHeartbeats 4000000 in
theorem l_rJ_loop (d : Nat) (X : Nat → Nat → Int32) {T : Nat} (hI : RK T (X 64)) (hT : T < 2000000000) {a : Nat} (ha : a < 4) {g : Nat} (hg : X 77 a = nI g) (h40 : g ≤ 40) (y : Int32) : ∀ (m i : Nat) (Z : Nat → Nat → Int32) (x : Int32), i + m = min g (jn (jm (X 64))) → x = nI i → ER (d + 5) tb_m219 18 [(0, .ref 63), (1, .int (nI a)), (2, .int y), (3, .int x)] [] (Wd X Z) (RE X)
  | 0, i, Z, x, hi, hx => by
    have h8 := jn8 hI.ij
    subst hx
    have ofn : nI i < nI g → jn (jm (X 64)) ≤ i := by
      intro hh
      rw [nI_ltI (by omega) (by omega)] at hh
      omega
    refine er_loc (pc' := 19) rfl rfl rfl ?_
    refine er_loc (pc' := 20) rfl rfl rfl ?_
    refine er_gf (pc' := 23) (_) rfl rfl rfl rfl rfl ?_
    refine er_loc (pc' := 24) rfl rfl rfl ?_
    refine er_ia (pc' := 25) (a) rfl rfl rfl rfl ha rfl rfl ?_
    rw [hg]
    refine er_cm_ge (pc' := 28) rfl rfl (fun h25 => ?_) (fun h25 => ?_)
    · refine ER_loc [(0, _), (1, _), (2, _), (3, _)] rfl (List.forall_mem_cons.mpr ⟨rfl, List.forall_mem_cons.mpr ⟨rfl, List.forall_mem_cons.mpr ⟨rfl, List.forall_mem_cons.mpr ⟨rfl, fun _ h => absurd h List.not_mem_nil⟩⟩⟩⟩) rfl rfl ?_
      exact l_rJ_end _ X _ ha _ _
    · refine er_loc (pc' := 29) rfl rfl rfl ?_
      refine er_loc (pc' := 30) rfl rfl rfl ?_
      refine er_gf (pc' := 33) (_) rfl rfl rfl rfl rfl ?_
      refine er_k (pc' := 34) (nI 2) rfl rfl rfl ?_
      refine er_ia (pc' := 35) (2) rfl rfl rfl rfl (by omega) rfl rfl ?_
      rw [hI.n]
      refine er_cm_geT rfl (nI_nlt (ofn h25) (by omega)) ?_
      refine ER_loc [(0, _), (1, _), (2, _), (3, _)] rfl (List.forall_mem_cons.mpr ⟨rfl, List.forall_mem_cons.mpr ⟨rfl, List.forall_mem_cons.mpr ⟨rfl, List.forall_mem_cons.mpr ⟨rfl, fun _ h => absurd h List.not_mem_nil⟩⟩⟩⟩) rfl rfl ?_
      exact l_rJ_end _ X _ ha _ _
  | m + 1, i, Z, x, hi, hx => by
    have h8 := jn8 hI.ij
    subst hx
    refine er_loc (pc' := 19) rfl rfl rfl ?_
    refine er_loc (pc' := 20) rfl rfl rfl ?_
    refine er_gf (pc' := 23) (_) rfl rfl rfl rfl rfl ?_
    refine er_loc (pc' := 24) rfl rfl rfl ?_
    refine er_ia (pc' := 25) (a) rfl rfl rfl rfl ha rfl rfl ?_
    rw [hg]
    refine er_cm_geF (pc' := 28) rfl (nI_lt (by omega) (by omega)) rfl ?_
    refine er_loc (pc' := 29) rfl rfl rfl ?_
    refine er_loc (pc' := 30) rfl rfl rfl ?_
    refine er_gf (pc' := 33) (_) rfl rfl rfl rfl rfl ?_
    refine er_k (pc' := 34) (nI 2) rfl rfl rfl ?_
    refine er_ia (pc' := 35) (2) rfl rfl rfl rfl (by omega) rfl rfl ?_
    rw [hI.n]
    refine er_cm_geF (pc' := 38) rfl (nI_lt (by omega) (by omega)) rfl ?_
    refine er_loc (pc' := 39) rfl rfl rfl ?_
    refine er_gf (pc' := 42) (_) rfl rfl rfl rfl rfl ?_
    refine er_k (pc' := 44) (nI 40) rfl rfl rfl ?_
    refine er_loc (pc' := 45) rfl rfl rfl ?_
    refine er_imul (pc' := 46) rfl rfl ?_
    refine er_loc (pc' := 47) rfl rfl rfl ?_
    refine er_iadd rfl rfl ?_
    rw [nI_mul 40 a, nI_add (40 * a) i]
    refine er_ia (pc' := 49) ((40 * a + i)) rfl rfl rfl (by simp only [nI_add, nI_mul]) (by omega) rfl rfl ?_
    refine er_loc (pc' := 50) rfl rfl rfl ?_
    refine er_loc (pc' := 51) rfl rfl rfl ?_
    refine er_cIz (pc' := 54) (rest := [_]) 12 rfl rfl rfl rfl rfl rfl (l_rLastsOf _ X _ hI (by omega) (k := i) (by omega)) ?_
    intro Z2
    refine er_cm_ne (pc' := 57) rfl rfl (fun h54 => ?_) (fun h54 => ?_)
    · refine ER_loc [(0, _), (1, _), (2, _), (3, _)] rfl (List.forall_mem_cons.mpr ⟨rfl, List.forall_mem_cons.mpr ⟨rfl, List.forall_mem_cons.mpr ⟨rfl, List.forall_mem_cons.mpr ⟨rfl, fun _ h => absurd h List.not_mem_nil⟩⟩⟩⟩) rfl rfl ?_
      exact l_rJ_end _ X _ ha _ _
    · refine er_loc (L' := [(3, .int (_ + nI 1)), (0, _), (1, _), (2, _)]) rfl rfl rfl ?_
      refine er_goto rfl ?_
      refine ER_loc [(0, _), (1, _), (2, _), (3, _)] rfl (List.forall_mem_cons.mpr ⟨rfl, List.forall_mem_cons.mpr ⟨rfl, List.forall_mem_cons.mpr ⟨rfl, List.forall_mem_cons.mpr ⟨rfl, fun _ h => absurd h List.not_mem_nil⟩⟩⟩⟩) rfl rfl ?_
      exact l_rJ_loop d X hI hT ha hg h40 y m (i + 1) _ _ (by omega) (nI_add i 1)
set_option maxRecDepth 100000 in
set_option maxHeartbeats 4000000 in
theorem l_rJudge (d : Nat) (X Z : Nat → Nat → Int32) {T : Nat} (hI : RK T (X 64)) (hT : T < 2000000000) {a : Nat} (ha : a < 4) (hb : ¬ X 76 a = 0) {g : Nat} (hg : X 77 a = nI g) (h40 : g ≤ 40) : EC (d + 6) 219 [.ref 63, .int (nI a)] (Wd X Z) (RE X) := by
  refine er_enter (L := [(0, _), (1, _)]) rfl rfl rfl ?_
  refine er_loc (pc' := 1) rfl rfl rfl ?_
  refine er_loc (pc' := 2) rfl rfl rfl ?_
  refine er_cIi (pc' := 5) (rest := []) 12 rfl rfl rfl rfl rfl rfl (l_rNot_1 _ _ _ ha hb) ?_
  refine er_loc (pc' := 6) (L' := [(2, _), (0, _), (1, _)]) rfl rfl rfl ?_
  refine er_loc (pc' := 7) rfl rfl rfl ?_
  refine er_if_eqT rfl (by decide +kernel) ?_
  refine er_k (pc' := 17) (nI 0) rfl rfl rfl ?_
  refine er_loc (pc' := 18) (L' := [(3, _), (2, _), (0, _), (1, _)]) rfl rfl rfl ?_
  refine ER_loc [(0, _), (1, _), (2, _), (3, _)] rfl (List.forall_mem_cons.mpr ⟨rfl, List.forall_mem_cons.mpr ⟨rfl, List.forall_mem_cons.mpr ⟨rfl, List.forall_mem_cons.mpr ⟨rfl, fun _ h => absurd h List.not_mem_nil⟩⟩⟩⟩) rfl rfl ?_
  exact l_rJ_loop d X hI hT ha hg h40 _ (min g (jn (jm (X 64)))) 0 Z _ (by omega) rfl
