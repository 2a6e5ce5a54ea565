/-! THE REFERENCE: its row as a job in numbers, and small things -/
def cM (a w : Int32) : Int32 := if a = 1 then w else if a = 2 then -1 - w else if a = 3 then -33 else -a
def rB (R : Nat → Int32) (o : Nat) : Nat → Int32
  | 0 => nI 0
  | n + 1 => rB R o n ||| (R (o + 6 * n) <<< (nI n &&& 31))
def jm (R : Nat → Int32) : Nat → Nat → Int32 := fun i k => match i with
  | 0 => (match k with
    | 1 => R 2
    | 6 => rB R 11 (nN (R 2))
    | 7 => rB R 12 (nN (R 2))
    | 8 => R 3
    | 9 => R 4
    | 10 => R 0
    | 14 => R 5
    | 16 => R 6
    | 17 => R 1
    | _ => 0)
  | 1 => if k < 8 then R (7 + 6 * k) else 0
  | 2 => if k < 8 then R (8 + 6 * k) else 0
  | 3 => if k < 8 then R (9 + 6 * k) else 0
  | 4 => if k < 8 then R (10 + 6 * k) else 0
  | 5 => if k = 0 then R 125 else 0
  | 6 => if k < nN (R 125) then cM (R (126 + k)) (R (176 + k)) else 0
  | 7 => if k = 0 then R 226 else 0
  | 8 => if k < nN (R 226) then cM (R (227 + k)) (R (277 + k)) else 0
  | 9 => if k < 50 then R (55 + k) else 0
  | 10 => if k < 20 then R (105 + k) else 0
  | _ => 0
def yErr (X : Nat → Nat → Int32) (k : Nat) : Nat → Nat → Int32 := ud X 67 k (X 67 k + nI 1)
set_option maxRecDepth 100000 in
set_option maxHeartbeats 4000000 in
theorem l_rError1 (d : Nat) (X Z : Nat → Nat → Int32) : EC (d + 1) 129 [.ref 63, .int (-1000000001)] (Wd X Z) (RI (sErr 1) (yErr X 1)) := by
  refine er_enter (L := [(0, _), (1, _)]) rfl rfl rfl ?_
  refine er_loc (pc' := 1) rfl rfl rfl ?_
  refine er_gf (pc' := 4) (_) rfl rfl rfl rfl rfl ?_
  refine er_ldc (pc' := 6) (-1000000000) rfl rfl rfl rfl rfl ?_
  refine er_loc (pc' := 7) rfl rfl rfl ?_
  refine er_isub (pc' := 8) rfl rfl ?_
  refine er_pure (pc' := 9) rfl rfl rfl ?_
  refine er_ia (pc' := 10) (1) rfl rfl rfl (by decide +kernel) (by decide) rfl rfl ?_
  refine er_k (pc' := 11) (nI 1) rfl rfl rfl ?_
  refine er_iadd (pc' := 12) rfl rfl ?_
  refine er_isX (pc' := 13) (1) rfl rfl (fun _ => rfl) (by decide +kernel) (by decide) rfl rfl ?_
  refine er_loc (pc' := 14) rfl rfl rfl ?_
  refine er_iret rfl rfl ?_
  exact RI_of (by decide +kernel) rfl
set_option maxRecDepth 100000 in
set_option maxHeartbeats 4000000 in
theorem l_rError2 (d : Nat) (X Z : Nat → Nat → Int32) : EC (d + 1) 129 [.ref 63, .int (-1000000002)] (Wd X Z) (RI (sErr 2) (yErr X 2)) := by
  refine er_enter (L := [(0, _), (1, _)]) rfl rfl rfl ?_
  refine er_loc (pc' := 1) rfl rfl rfl ?_
  refine er_gf (pc' := 4) (_) rfl rfl rfl rfl rfl ?_
  refine er_ldc (pc' := 6) (-1000000000) rfl rfl rfl rfl rfl ?_
  refine er_loc (pc' := 7) rfl rfl rfl ?_
  refine er_isub (pc' := 8) rfl rfl ?_
  refine er_pure (pc' := 9) rfl rfl rfl ?_
  refine er_ia (pc' := 10) (2) rfl rfl rfl (by decide +kernel) (by decide) rfl rfl ?_
  refine er_k (pc' := 11) (nI 1) rfl rfl rfl ?_
  refine er_iadd (pc' := 12) rfl rfl ?_
  refine er_isX (pc' := 13) (2) rfl rfl (fun _ => rfl) (by decide +kernel) (by decide) rfl rfl ?_
  refine er_loc (pc' := 14) rfl rfl rfl ?_
  refine er_iret rfl rfl ?_
  exact RI_of (by decide +kernel) rfl
set_option maxRecDepth 100000 in
set_option maxHeartbeats 4000000 in
theorem l_rError3 (d : Nat) (X Z : Nat → Nat → Int32) : EC (d + 1) 129 [.ref 63, .int (-1000000003)] (Wd X Z) (RI (sErr 3) (yErr X 3)) := by
  refine er_enter (L := [(0, _), (1, _)]) rfl rfl rfl ?_
  refine er_loc (pc' := 1) rfl rfl rfl ?_
  refine er_gf (pc' := 4) (_) rfl rfl rfl rfl rfl ?_
  refine er_ldc (pc' := 6) (-1000000000) rfl rfl rfl rfl rfl ?_
  refine er_loc (pc' := 7) rfl rfl rfl ?_
  refine er_isub (pc' := 8) rfl rfl ?_
  refine er_pure (pc' := 9) rfl rfl rfl ?_
  refine er_ia (pc' := 10) (3) rfl rfl rfl (by decide +kernel) (by decide) rfl rfl ?_
  refine er_k (pc' := 11) (nI 1) rfl rfl rfl ?_
  refine er_iadd (pc' := 12) rfl rfl ?_
  refine er_isX (pc' := 13) (3) rfl rfl (fun _ => rfl) (by decide +kernel) (by decide) rfl rfl ?_
  refine er_loc (pc' := 14) rfl rfl rfl ?_
  refine er_iret rfl rfl ?_
  exact RI_of (by decide +kernel) rfl
set_option maxRecDepth 100000 in
set_option maxHeartbeats 4000000 in
theorem l_rError4 (d : Nat) (X Z : Nat → Nat → Int32) : EC (d + 1) 129 [.ref 63, .int (-1000000004)] (Wd X Z) (RI (sErr 4) (yErr X 4)) := by
  refine er_enter (L := [(0, _), (1, _)]) rfl rfl rfl ?_
  refine er_loc (pc' := 1) rfl rfl rfl ?_
  refine er_gf (pc' := 4) (_) rfl rfl rfl rfl rfl ?_
  refine er_ldc (pc' := 6) (-1000000000) rfl rfl rfl rfl rfl ?_
  refine er_loc (pc' := 7) rfl rfl rfl ?_
  refine er_isub (pc' := 8) rfl rfl ?_
  refine er_pure (pc' := 9) rfl rfl rfl ?_
  refine er_ia (pc' := 10) (4) rfl rfl rfl (by decide +kernel) (by decide) rfl rfl ?_
  refine er_k (pc' := 11) (nI 1) rfl rfl rfl ?_
  refine er_iadd (pc' := 12) rfl rfl ?_
  refine er_isX (pc' := 13) (4) rfl rfl (fun _ => rfl) (by decide +kernel) (by decide) rfl rfl ?_
  refine er_loc (pc' := 14) rfl rfl rfl ?_
  refine er_iret rfl rfl ?_
  exact RI_of (by decide +kernel) rfl
set_option maxRecDepth 100000 in
set_option maxHeartbeats 4000000 in
theorem l_rError5 (d : Nat) (X Z : Nat → Nat → Int32) : EC (d + 1) 129 [.ref 63, .int (-1000000005)] (Wd X Z) (RI (sErr 5) (yErr X 5)) := by
  refine er_enter (L := [(0, _), (1, _)]) rfl rfl rfl ?_
  refine er_loc (pc' := 1) rfl rfl rfl ?_
  refine er_gf (pc' := 4) (_) rfl rfl rfl rfl rfl ?_
  refine er_ldc (pc' := 6) (-1000000000) rfl rfl rfl rfl rfl ?_
  refine er_loc (pc' := 7) rfl rfl rfl ?_
  refine er_isub (pc' := 8) rfl rfl ?_
  refine er_pure (pc' := 9) rfl rfl rfl ?_
  refine er_ia (pc' := 10) (5) rfl rfl rfl (by decide +kernel) (by decide) rfl rfl ?_
  refine er_k (pc' := 11) (nI 1) rfl rfl rfl ?_
  refine er_iadd (pc' := 12) rfl rfl ?_
  refine er_isX (pc' := 13) (5) rfl rfl (fun _ => rfl) (by decide +kernel) (by decide) rfl rfl ?_
  refine er_loc (pc' := 14) rfl rfl rfl ?_
  refine er_iret rfl rfl ?_
  exact RI_of (by decide +kernel) rfl
set_option maxRecDepth 100000 in
set_option maxHeartbeats 4000000 in
theorem l_rIsStep (d : Nat) (X Z : Nat → Nat → Int32) (s : Int32) : EC (d + 2) 132 [.ref 63, .int s] (Wd X Z) (PI (bI (sIn s (nI 0) (X 64 2 - nI 1))) (Wd X Z)) := by
  refine er_enter (L := [(0, _), (1, _)]) rfl rfl rfl ?_
  refine er_loc (pc' := 1) rfl rfl rfl ?_
  refine er_k (pc' := 2) (nI 0) rfl rfl rfl ?_
  refine er_loc (pc' := 3) rfl rfl rfl ?_
  refine er_gf (pc' := 6) (_) rfl rfl rfl rfl rfl ?_
  refine er_k (pc' := 7) (nI 2) rfl rfl rfl ?_
  refine er_ia (pc' := 8) (2) rfl rfl rfl rfl (by omega) rfl rfl ?_
  refine er_k (pc' := 9) (nI 1) rfl rfl rfl ?_
  refine er_isub (pc' := 10) rfl rfl ?_
  refine er_cSi (pc' := 13) (rest := []) rfl rfl rfl (l_in _ _ _ _ _) ?_
  refine er_zret rfl rfl ?_
  exact PI_of rfl
set_option maxRecDepth 100000 in
set_option maxHeartbeats 4000000 in
theorem l_rOf (d : Nat) (X Z : Nat → Nat → Int32) {i k : Nat} (hi : i < 8) (hk : k < 6) : EC (d + 1) 133 [.ref 63, .int (nI i), .int (nI k)] (Wd X Z) (PI (X 64 (7 + 6 * i + k)) (Wd X Z)) := by
  refine er_enter (L := [(0, _), (1, _), (2, _)]) rfl rfl rfl ?_
  refine er_loc (pc' := 1) rfl rfl rfl ?_
  refine er_gf (pc' := 4) (_) rfl rfl rfl rfl rfl ?_
  refine er_k (pc' := 6) (nI 7) rfl rfl rfl ?_
  refine er_k (pc' := 8) (nI 6) rfl rfl rfl ?_
  refine er_loc (pc' := 9) rfl rfl rfl ?_
  refine er_imul (pc' := 10) rfl rfl ?_
  refine er_iadd (pc' := 11) rfl rfl ?_
  refine er_loc (pc' := 12) rfl rfl rfl ?_
  refine er_iadd (pc' := 13) rfl rfl ?_
  refine er_ia (pc' := 14) (((7 + (6 * i)) + k)) rfl rfl rfl (by simp only [nI_add, nI_mul]) (by omega) rfl rfl ?_
  refine er_iret rfl rfl ?_
  exact PI_of rfl
set_option maxRecDepth 100000 in
set_option maxHeartbeats 4000000 in
theorem l_rLets (d : Nat) (X Z : Nat → Nat → Int32) {i k : Nat} (hi : i < 8) (hk : k < 6) (v : Int32) : EC (d + 1) 130 [.ref 63, .int (nI i), .int (nI k), .int v] (Wd X Z) (RV (ud X 64 (7 + 6 * i + k) v)) := by
  refine er_enter (L := [(0, _), (1, _), (2, _), (3, _)]) rfl rfl rfl ?_
  refine er_loc (pc' := 1) rfl rfl rfl ?_
  refine er_gf (pc' := 4) (_) rfl rfl rfl rfl rfl ?_
  refine er_k (pc' := 6) (nI 7) rfl rfl rfl ?_
  refine er_k (pc' := 8) (nI 6) rfl rfl rfl ?_
  refine er_loc (pc' := 9) rfl rfl rfl ?_
  refine er_imul (pc' := 10) rfl rfl ?_
  refine er_iadd (pc' := 11) rfl rfl ?_
  refine er_loc (pc' := 12) rfl rfl rfl ?_
  refine er_iadd (pc' := 13) rfl rfl ?_
  refine er_loc (pc' := 14) rfl rfl rfl ?_
  refine er_isX (pc' := 15) (((7 + (6 * i)) + k)) rfl rfl (fun _ => rfl) (by simp only [nI_add, nI_mul]) (by omega) rfl rfl ?_
  refine er_vret rfl rfl ?_
  exact RV_of rfl
set_option maxRecDepth 100000 in
set_option maxHeartbeats 4000000 in
theorem l_rDone_loop (d : Nat) (X Z : Nat → Nat → Int32) (n : Nat) (h2 : X 64 2 = nI n) (hn : n ≤ 8) : ∀ (m i : Nat) (a x : Int32), i + m = n → x = nI i → a = rB (X 64) 11 i → ER (d + 1) tb_m135 4 [(0, .ref 63), (1, .int a), (2, .int x)] [] (Wd X Z) (PI (rB (X 64) 11 n) (Wd X Z))
  | 0, i, a, x, hi, hx, ha => by
    have hi0 : i = n := by omega
    subst hx
    subst hi0
    subst ha
    refine er_loc (pc' := 5) rfl rfl rfl ?_
    refine er_loc (pc' := 6) rfl rfl rfl ?_
    refine er_gf (pc' := 9) (_) rfl rfl rfl rfl rfl ?_
    refine er_k (pc' := 10) (nI 2) rfl rfl rfl ?_
    refine er_ia (pc' := 11) (2) rfl rfl rfl rfl (by omega) rfl rfl ?_
    rw [h2]
    refine er_cm_geT rfl (nI_nlt (by omega) (by omega)) ?_
    refine er_loc (pc' := 32) rfl rfl rfl ?_
    refine er_iret rfl rfl ?_
    exact PI_of rfl
  | m + 1, i, a, x, hi, hx, ha => by
    subst hx
    subst ha
    refine er_loc (pc' := 5) rfl rfl rfl ?_
    refine er_loc (pc' := 6) rfl rfl rfl ?_
    refine er_gf (pc' := 9) (_) rfl rfl rfl rfl rfl ?_
    refine er_k (pc' := 10) (nI 2) rfl rfl rfl ?_
    refine er_ia (pc' := 11) (2) rfl rfl rfl rfl (by omega) rfl rfl ?_
    rw [h2]
    refine er_cm_geF (pc' := 14) rfl (nI_lt (by omega) (by omega)) rfl ?_
    refine er_loc (pc' := 15) rfl rfl rfl ?_
    refine er_loc (pc' := 16) rfl rfl rfl ?_
    refine er_loc (pc' := 17) rfl rfl rfl ?_
    refine er_k (pc' := 18) (nI 4) rfl rfl rfl ?_
    refine er_cIi (pc' := 21) (rest := [_]) 12 rfl rfl rfl rfl rfl rfl (l_rOf _ X Z (by omega) (by omega)) ?_
    refine er_loc (pc' := 22) rfl rfl rfl ?_
    refine er_ishl (pc' := 23) rfl rfl ?_
    refine er_ior (pc' := 24) rfl rfl ?_
    refine er_loc (pc' := 25) (L' := [(1, _), (0, _), (2, _)]) rfl rfl rfl ?_
    refine er_loc (L' := [(2, .int (_ + nI 1)), (1, _), (0, _)]) rfl rfl rfl ?_
    refine er_goto rfl ?_
    refine ER_loc [(0, _), (1, _), (2, _)] rfl (List.forall_mem_cons.mpr ⟨rfl, List.forall_mem_cons.mpr ⟨rfl, List.forall_mem_cons.mpr ⟨rfl, fun _ h => absurd h List.not_mem_nil⟩⟩⟩) rfl rfl ?_
    exact l_rDone_loop d X Z n h2 hn m (i + 1) _ _ (by omega) (nI_add i 1) (by rw [show 7 + 6 * i + 4 = 11 + 6 * i by omega]; rfl)
set_option maxRecDepth 100000 in
set_option maxHeartbeats 4000000 in
theorem l_rDone (d : Nat) (X Z : Nat → Nat → Int32) {n : Nat} (h2 : X 64 2 = nI n) (hn : n ≤ 8) : EC (d + 2) 135 [.ref 63] (Wd X Z) (PI (rB (X 64) 11 n) (Wd X Z)) := by
  refine er_enter (L := [(0, _)]) rfl rfl rfl ?_
  refine er_k (pc' := 1) (nI 0) rfl rfl rfl ?_
  refine er_loc (pc' := 2) (L' := [(1, _), (0, _)]) rfl rfl rfl ?_
  refine er_k (pc' := 3) (nI 0) rfl rfl rfl ?_
  refine er_loc (pc' := 4) (L' := [(2, _), (1, _), (0, _)]) rfl rfl rfl ?_
  refine ER_loc [(0, _), (1, _), (2, _)] rfl (List.forall_mem_cons.mpr ⟨rfl, List.forall_mem_cons.mpr ⟨rfl, List.forall_mem_cons.mpr ⟨rfl, fun _ h => absurd h List.not_mem_nil⟩⟩⟩) rfl rfl ?_
  exact l_rDone_loop d X Z n h2 hn n 0 _ _ (by omega) rfl rfl
