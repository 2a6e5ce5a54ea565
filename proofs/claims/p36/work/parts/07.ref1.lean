section
/-! THE REFERENCE: its row as a job in numbers, and small things -/
def cM (a w : Int32) : Int32 := if a = 1 then w else if a = 2 then -1 - w else if a = 3 then -33 else -a
def rB (R : Nat → Int32) (o : Nat) : Nat → Int32
  | 0 => nI 0
  | n + 1 => rB R o n ||| (R (o + 6 * n) <<< (nI n &&& 31))
def jm (R : Nat → Int32) : Nat → Nat → Int32 := fun i k => match i with
  | 0 => (match k with
    | 1 => R 2
    | 6 => rB R 11 (nN (R 2))
    | 7 => rB R 12 (nN (R 2))
    | 8 => R 3
    | 9 => R 4
    | 10 => R 0
    | 14 => R 5
    | 16 => R 6
    | 17 => R 1
    | _ => 0)
  | 1 => if k < 8 then R (7 + 6 * k) else 0
  | 2 => if k < 8 then R (8 + 6 * k) else 0
  | 3 => if k < 8 then R (9 + 6 * k) else 0
  | 4 => if k < 8 then R (10 + 6 * k) else 0
  | 5 => if k = 0 then R 125 else 0
  | 6 => if k < nN (R 125) then cM (R (126 + k)) (R (176 + k)) else 0
  | 7 => if k = 0 then R 226 else 0
  | 8 => if k < nN (R 226) then cM (R (227 + k)) (R (277 + k)) else 0
  | 9 => if k < 50 then R (55 + k) else 0
  | 10 => if k < 20 then R (105 + k) else 0
  | _ => 0
def yErr (X : Nat → Nat → Int32) (k : Nat) : Nat → Nat → Int32 := ud X 67 k (X 67 k + nI 1)
set_option maxRecDepth 100000 in
set_option maxHeartbeats 4000000 in
theorem l_rError1 (d : Nat) (X Z : Nat → Nat → Int32) : EC (d + 1) 129 [.ref 63, .int (-1000000001)] (Wd X Z) (RI (sErr 1) (yErr X 1)) := by
  refine er_enter (L := [(0, _), (1, _)]) rfl rfl rfl ?_
  refine er_loc (pc' := 1) rfl rfl rfl ?_
  refine er_gf (pc' := 4) (_) rfl rfl rfl rfl rfl ?_
  refine er_ldc (pc' := 6) (-1000000000) rfl rfl rfl rfl rfl ?_
  refine er_loc (pc' := 7) rfl rfl rfl ?_
  refine er_isub (pc' := 8) rfl rfl ?_
  refine er_pure (pc' := 9) rfl rfl rfl ?_
  refine er_ia (pc' := 10) (1) rfl rfl rfl (by decide +kernel) (by decide) rfl rfl ?_
  refine er_k (pc' := 11) (nI 1) rfl rfl rfl ?_
  refine er_iadd (pc' := 12) rfl rfl ?_
  refine er_isX (pc' := 13) (1) rfl rfl (fun _ => rfl) (by decide +kernel) (by decide) rfl rfl ?_
  refine er_loc (pc' := 14) rfl rfl rfl ?_
  refine er_iret rfl rfl ?_
  exact RI_of (by decide +kernel) rfl
set_option maxRecDepth 100000 in
set_option maxHeartbeats 4000000 in
theorem l_rError2 (d : Nat) (X Z : Nat → Nat → Int32) : EC (d + 1) 129 [.ref 63, .int (-1000000002)] (Wd X Z) (RI (sErr 2) (yErr X 2)) := by
  refine er_enter (L := [(0, _), (1, _)]) rfl rfl rfl ?_
  refine er_loc (pc' := 1) rfl rfl rfl ?_
  refine er_gf (pc' := 4) (_) rfl rfl rfl rfl rfl ?_
  refine er_ldc (pc' := 6) (-1000000000) rfl rfl rfl rfl rfl ?_
  refine er_loc (pc' := 7) rfl rfl rfl ?_
  refine er_isub (pc' := 8) rfl rfl ?_
  refine er_pure (pc' := 9) rfl rfl rfl ?_
  refine er_ia (pc' := 10) (2) rfl rfl rfl (by decide +kernel) (by decide) rfl rfl ?_
  refine er_k (pc' := 11) (nI 1) rfl rfl rfl ?_
  refine er_iadd (pc' := 12) rfl rfl ?_
  refine er_isX (pc' := 13) (2) rfl rfl (fun _ => rfl) (by decide +kernel) (by decide) rfl rfl ?_
  refine er_loc (pc' := 14) rfl rfl rfl ?_
  refine er_iret rfl rfl ?_
  exact RI_of (by decide +kernel) rfl
set_option maxRecDepth 100000 in
set_option maxHeartbeats 4000000 in
theorem l_rError3 (d : Nat) (X Z : Nat → Nat → Int32) : EC (d + 1) 129 [.ref 63, .int (-1000000003)] (Wd X Z) (RI (sErr 3) (yErr X 3)) := by
  refine er_enter (L := [(0, _), (1, _)]) rfl rfl rfl ?_
  refine er_loc (pc' := 1) rfl rfl rfl ?_
  refine er_gf (pc' := 4) (_) rfl rfl rfl rfl rfl ?_
  refine er_ldc (pc' := 6) (-1000000000) rfl rfl rfl rfl rfl ?_
  refine er_loc (pc' := 7) rfl rfl rfl ?_
  refine er_isub (pc' := 8) rfl rfl ?_
  refine er_pure (pc' := 9) rfl rfl rfl ?_
  refine er_ia (pc' := 10) (3) rfl rfl rfl (by decide +kernel) (by decide) rfl rfl ?_
  refine er_k (pc' := 11) (nI 1) rfl rfl rfl ?_
  refine er_iadd (pc' := 12) rfl rfl ?_
  refine er_isX (pc' := 13) (3) rfl rfl (fun _ => rfl) (by decide +kernel) (by decide) rfl rfl ?_
  refine er_loc (pc' := 14) rfl rfl rfl ?_
  refine er_iret rfl rfl ?_
  exact RI_of (by decide +kernel) rfl
set_option maxRecDepth 100000 in
set_option maxHeartbeats 4000000 in
theorem l_rError4 (d : Nat) (X Z : Nat → Nat → Int32) : EC (d + 1) 129 [.ref 63, .int (-1000000004)] (Wd X Z) (RI (sErr 4) (yErr X 4)) := by
  refine er_enter (L := [(0, _), (1, _)]) rfl rfl rfl ?_
  refine er_loc (pc' := 1) rfl rfl rfl ?_
  refine er_gf (pc' := 4) (_) rfl rfl rfl rfl rfl ?_
  refine er_ldc (pc' := 6) (-1000000000) rfl rfl rfl rfl rfl ?_
  refine er_loc (pc' := 7) rfl rfl rfl ?_
  refine er_isub (pc' := 8) rfl rfl ?_
  refine er_pure (pc' := 9) rfl rfl rfl ?_
  refine er_ia (pc' := 10) (4) rfl rfl rfl (by decide +kernel) (by decide) rfl rfl ?_
  refine er_k (pc' := 11) (nI 1) rfl rfl rfl ?_
  refine er_iadd (pc' := 12) rfl rfl ?_
  refine er_isX (pc' := 13) (4) rfl rfl (fun _ => rfl) (by decide +kernel) (by decide) rfl rfl ?_
  refine er_loc (pc' := 14) rfl rfl rfl ?_
  refine er_iret rfl rfl ?_
  exact RI_of (by decide +kernel) rfl
set_option maxRecDepth 100000 in
set_option maxHeartbeats 4000000 in
theorem l_rError5 (d : Nat) (X Z : Nat → Nat → Int32) : EC (d + 1) 129 [.ref 63, .int (-1000000005)] (Wd X Z) (RI (sErr 5) (yErr X 5)) := by
  refine er_enter (L := [(0, _), (1, _)]) rfl rfl rfl ?_
  refine er_loc (pc' := 1) rfl rfl rfl ?_
  refine er_gf (pc' := 4) (_) rfl rfl rfl rfl rfl ?_
  refine er_ldc (pc' := 6) (-1000000000) rfl rfl rfl rfl rfl ?_
  refine er_loc (pc' := 7) rfl rfl rfl ?_
  refine er_isub (pc' := 8) rfl rfl ?_
  refine er_pure (pc' := 9) rfl rfl rfl ?_
  refine er_ia (pc' := 10) (5) rfl rfl rfl (by decide +kernel) (by decide) rfl rfl ?_
  refine er_k (pc' := 11) (nI 1) rfl rfl rfl ?_
  refine er_iadd (pc' := 12) rfl rfl ?_
  refine er_isX (pc' := 13) (5) rfl rfl (fun _ => rfl) (by decide +kernel) (by decide) rfl rfl ?_
  refine er_loc (pc' := 14) rfl rfl rfl ?_
  refine er_iret rfl rfl ?_
  exact RI_of (by decide +kernel) rfl
set_option maxRecDepth 100000 in
set_option maxHeartbeats 4000000 in
theorem l_rIsStep (d : Nat) (X Z : Nat → Nat → Int32) (s : Int32) : EC (d + 2) 132 [.ref 63, .int s] (Wd X Z) (PI (bI (sIn s (nI 0) (X 64 2 - nI 1))) (Wd X Z)) := by
  refine er_enter (L := [(0, _), (1, _)]) rfl rfl rfl ?_
  refine er_loc (pc' := 1) rfl rfl rfl ?_
  refine er_k (pc' := 2) (nI 0) rfl rfl rfl ?_
  refine er_loc (pc' := 3) rfl rfl rfl ?_
  refine er_gf (pc' := 6) (_) rfl rfl rfl rfl rfl ?_
  refine er_k (pc' := 7) (nI 2) rfl rfl rfl ?_
  refine er_ia (pc' := 8) (2) rfl rfl rfl rfl (by omega) rfl rfl ?_
  refine er_k (pc' := 9) (nI 1) rfl rfl rfl ?_
  refine er_isub (pc' := 10) rfl rfl ?_
  refine er_cSi (pc' := 13) (rest := []) rfl rfl rfl (l_in _ _ _ _ _) ?_
  refine er_zret rfl rfl ?_
  exact PI_of rfl
set_option maxRecDepth 100000 in
set_option maxHeartbeats 4000000 in
theorem l_rOf (d : Nat) (X Z : Nat → Nat → Int32) {i k : Nat} (hi : i < 8) (hk : k < 6) : EC (d + 1) 133 [.ref 63, .int (nI i), .int (nI k)] (Wd X Z) (PI (X 64 (7 + 6 * i + k)) (Wd X Z)) := by
  refine er_enter (L := [(0, _), (1, _), (2, _)]) rfl rfl rfl ?_
  refine er_loc (pc' := 1) rfl rfl rfl ?_
  refine er_gf (pc' := 4) (_) rfl rfl rfl rfl rfl ?_
  refine er_k (pc' := 6) (nI 7) rfl rfl rfl ?_
  refine er_k (pc' := 8) (nI 6) rfl rfl rfl ?_
  refine er_loc (pc' := 9) rfl rfl rfl ?_
  refine er_imul (pc' := 10) rfl rfl ?_
  refine er_iadd (pc' := 11) rfl rfl ?_
  refine er_loc (pc' := 12) rfl rfl rfl ?_
  refine er_iadd (pc' := 13) rfl rfl ?_
  refine er_ia (pc' := 14) (((7 + (6 * i)) + k)) rfl rfl rfl (by simp only [nI_add, nI_mul]) (by omega) rfl rfl ?_
  refine er_iret rfl rfl ?_
  exact PI_of rfl
set_option maxRecDepth 100000 in
set_option maxHeartbeats 4000000 in
theorem l_rLets (d : Nat) (X Z : Nat → Nat → Int32) {i k : Nat} (hi : i < 8) (hk : k < 6) (v : Int32) : EC (d + 1) 130 [.ref 63, .int (nI i), .int (nI k), .int v] (Wd X Z) (RV (ud X 64 (7 + 6 * i + k) v)) := by
  refine er_enter (L := [(0, _), (1, _), (2, _), (3, _)]) rfl rfl rfl ?_
  refine er_loc (pc' := 1) rfl rfl rfl ?_
  refine er_gf (pc' := 4) (_) rfl rfl rfl rfl rfl ?_
  refine er_k (pc' := 6) (nI 7) rfl rfl rfl ?_
  refine er_k (pc' := 8) (nI 6) rfl rfl rfl ?_
  refine er_loc (pc' := 9) rfl rfl rfl ?_
  refine er_imul (pc' := 10) rfl rfl ?_
  refine er_iadd (pc' := 11) rfl rfl ?_
  refine er_loc (pc' := 12) rfl rfl rfl ?_
  refine er_iadd (pc' := 13) rfl rfl ?_
  refine er_loc (pc' := 14) rfl rfl rfl ?_
  refine er_isX (pc' := 15) (((7 + (6 * i)) + k)) rfl rfl (fun _ => rfl) (by simp only [nI_add, nI_mul]) (by omega) rfl rfl ?_
  refine er_vret rfl rfl ?_
  exact RV_of rfl
set_option maxRecDepth 100000 in
set_option maxHeartbeats 4000000 in
theorem l_rDone_loop (d : Nat) (X Z : Nat → Nat → Int32) (n : Nat) (h2 : X 64 2 = nI n) (hn : n ≤ 8) : ∀ (m i : Nat) (a x : Int32), i + m = n → x = nI i → a = rB (X 64) 11 i → ER (d + 1) tb_m135 4 [(0, .ref 63), (1, .int a), (2, .int x)] [] (Wd X Z) (PI (rB (X 64) 11 n) (Wd X Z))
  | 0, i, a, x, hi, hx, ha => by
    have hi0 : i = n := by omega
    subst hx
    subst hi0
    subst ha
    refine er_loc (pc' := 5) rfl rfl rfl ?_
    refine er_loc (pc' := 6) rfl rfl rfl ?_
    refine er_gf (pc' := 9) (_) rfl rfl rfl rfl rfl ?_
    refine er_k (pc' := 10) (nI 2) rfl rfl rfl ?_
    refine er_ia (pc' := 11) (2) rfl rfl rfl rfl (by omega) rfl rfl ?_
    rw [h2]
    refine er_cm_geT rfl (nI_nlt (by omega) (by omega)) ?_
    refine er_loc (pc' := 32) rfl rfl rfl ?_
    refine er_iret rfl rfl ?_
    exact PI_of rfl
  | m + 1, i, a, x, hi, hx, ha => by
    subst hx
    subst ha
    refine er_loc (pc' := 5) rfl rfl rfl ?_
    refine er_loc (pc' := 6) rfl rfl rfl ?_
    refine er_gf (pc' := 9) (_) rfl rfl rfl rfl rfl ?_
    refine er_k (pc' := 10) (nI 2) rfl rfl rfl ?_
    refine er_ia (pc' := 11) (2) rfl rfl rfl rfl (by omega) rfl rfl ?_
    rw [h2]
    refine er_cm_geF (pc' := 14) rfl (nI_lt (by omega) (by omega)) rfl ?_
    refine er_loc (pc' := 15) rfl rfl rfl ?_
    refine er_loc (pc' := 16) rfl rfl rfl ?_
    refine er_loc (pc' := 17) rfl rfl rfl ?_
    refine er_k (pc' := 18) (nI 4) rfl rfl rfl ?_
    refine er_cIi (pc' := 21) (rest := [_]) 12 rfl rfl rfl rfl rfl rfl (l_rOf _ X Z (by omega) (by omega)) ?_
    refine er_loc (pc' := 22) rfl rfl rfl ?_
    refine er_ishl (pc' := 23) rfl rfl ?_
    refine er_ior (pc' := 24) rfl rfl ?_
    refine er_loc (pc' := 25) (L' := [(1, _), (0, _), (2, _)]) rfl rfl rfl ?_
    refine er_loc (L' := [(2, .int (_ + nI 1)), (1, _), (0, _)]) rfl rfl rfl ?_
    refine er_goto rfl ?_
    refine ER_loc [(0, _), (1, _), (2, _)] rfl (List.forall_mem_cons.mpr ⟨rfl, List.forall_mem_cons.mpr ⟨rfl, List.forall_mem_cons.mpr ⟨rfl, fun _ h => absurd h List.not_mem_nil⟩⟩⟩) rfl rfl ?_
    exact l_rDone_loop d X Z n h2 hn m (i + 1) _ _ (by omega) (nI_add i 1) (by rw [show 7 + 6 * i + 4 = 11 + 6 * i by omega]; rfl)
set_option maxRecDepth 100000 in
set_option maxHeartbeats 4000000 in
theorem l_rDone (d : Nat) (X Z : Nat → Nat → Int32) {n : Nat} (h2 : X 64 2 = nI n) (hn : n ≤ 8) : EC (d + 2) 135 [.ref 63] (Wd X Z) (PI (rB (X 64) 11 n) (Wd X Z)) := by
  refine er_enter (L := [(0, _)]) rfl rfl rfl ?_
  refine er_k (pc' := 1) (nI 0) rfl rfl rfl ?_
  refine er_loc (pc' := 2) (L' := [(1, _), (0, _)]) rfl rfl rfl ?_
  refine er_k (pc' := 3) (nI 0) rfl rfl rfl ?_
  refine er_loc (pc' := 4) (L' := [(2, _), (1, _), (0, _)]) rfl rfl rfl ?_
  refine ER_loc [(0, _), (1, _), (2, _)] rfl (List.forall_mem_cons.mpr ⟨rfl, List.forall_mem_cons.mpr ⟨rfl, List.forall_mem_cons.mpr ⟨rfl, fun _ h => absurd h List.not_mem_nil⟩⟩⟩) rfl rfl ?_
  exact l_rDone_loop d X Z n h2 hn n 0 _ _ (by omega) rfl rfl
end
section
/-! THE REFERENCE: small ones over its row -/
def rS (R : Nat → Int32) (o : Nat) : Nat → Int32
  | 0 => nI 0
  | n + 1 => rS R o n + R (o + 6 * n)
def rNever (R : Nat → Int32) (i : Nat) : Bool := decide (R (7 + 6 * i) = nI 2) || decide (R (7 + 6 * i) = nI 5)
set_option maxRecDepth 100000 in
set_option maxHeartbeats 4000000 in
theorem l_rTired (d : Nat) (X Z : Nat → Nat → Int32) : EC (d + 2) 140 [.ref 63] (Wd X Z) (PI (sHeld (X 64 0 / nI 30) (nI 0) (nI 9)) (Wd X Z)) := by
  refine er_enter (L := [(0, _)]) rfl rfl rfl ?_
  refine er_loc (pc' := 1) rfl rfl rfl ?_
  refine er_gf (pc' := 4) (_) rfl rfl rfl rfl rfl ?_
  refine er_k (pc' := 5) (nI 0) rfl rfl rfl ?_
  refine er_ia (pc' := 6) (0) rfl rfl rfl rfl (by omega) rfl rfl ?_
  refine er_k (pc' := 8) (nI 30) rfl rfl rfl ?_
  refine er_idiv (pc' := 9) rfl rfl (by decide) ?_
  refine er_k (pc' := 10) (nI 0) rfl rfl rfl ?_
  refine er_k (pc' := 12) (nI 9) rfl rfl rfl ?_
  refine er_cSi (pc' := 15) (rest := []) rfl rfl rfl (l_held _ _ _ _ _) ?_
  refine er_iret rfl rfl ?_
  exact PI_of rfl
set_option maxRecDepth 100000 in
set_option maxHeartbeats 4000000 in
theorem l_rBecomes (d : Nat) (X Z : Nat → Nat → Int32) {p : Nat} (hp : p < 327) (v : Int32) : EC (d + 1) 147 [.ref 63, .int (nI p), .int v] (Wd X Z) (RI (X 64 p) (ud X 64 p v)) := by
  refine er_enter (L := [(0, _), (1, _), (2, _)]) rfl rfl rfl ?_
  refine er_loc (pc' := 1) rfl rfl rfl ?_
  refine er_gf (pc' := 4) (_) rfl rfl rfl rfl rfl ?_
  refine er_loc (pc' := 5) rfl rfl rfl ?_
  refine er_ia (pc' := 6) (p) rfl rfl rfl rfl (by omega) rfl rfl ?_
  refine er_loc (pc' := 7) (L' := [(3, _), (0, _), (1, _), (2, _)]) rfl rfl rfl ?_
  refine er_loc (pc' := 8) rfl rfl rfl ?_
  refine er_gf (pc' := 11) (_) rfl rfl rfl rfl rfl ?_
  refine er_loc (pc' := 12) rfl rfl rfl ?_
  refine er_loc (pc' := 13) rfl rfl rfl ?_
  refine er_isX (pc' := 14) (p) rfl rfl (fun _ => rfl) rfl (by omega) rfl rfl ?_
  refine er_loc (pc' := 15) rfl rfl rfl ?_
  refine er_iret rfl rfl ?_
  exact RI_of rfl rfl
set_option maxRecDepth 100000 in
set_option maxHeartbeats 4000000 in
theorem l_rNever (d : Nat) (X Z : Nat → Nat → Int32) {i : Nat} (hi : i < 8) : EC (d + 2) 137 [.ref 63, .int (nI i)] (Wd X Z) (PI (bI (rNever (X 64) i)) (Wd X Z)) := by
  refine er_enter (L := [(0, _), (1, _)]) rfl rfl rfl ?_
  refine er_loc (pc' := 1) rfl rfl rfl ?_
  refine er_loc (pc' := 2) rfl rfl rfl ?_
  refine er_k (pc' := 3) (nI 0) rfl rfl rfl ?_
  refine er_cIi (pc' := 6) (rest := []) 12 rfl rfl rfl rfl rfl rfl (l_rOf _ X Z hi (by omega)) ?_
  rw [show 7 + 6 * i + 0 = 7 + 6 * i from rfl]
  refine er_k (pc' := 7) (nI 2) rfl rfl rfl ?_
  refine er_cm_eq (pc' := 10) rfl rfl (fun h7 => ?_) (fun h7 => ?_)
  · refine er_k (pc' := 21) (nI 1) rfl rfl rfl ?_
    refine er_goto rfl ?_
    refine er_ret _ rfl rfl ?_
    exact PI_of (bI_eq1 (by simp [rNever, *]))
  · refine er_loc (pc' := 11) rfl rfl rfl ?_
    refine er_loc (pc' := 12) rfl rfl rfl ?_
    refine er_k (pc' := 13) (nI 0) rfl rfl rfl ?_
    refine er_cIi (pc' := 16) (rest := []) 12 rfl rfl rfl rfl rfl rfl (l_rOf _ X Z hi (by omega)) ?_
    rw [show 7 + 6 * i + 0 = 7 + 6 * i from rfl]
    refine er_k (pc' := 17) (nI 5) rfl rfl rfl ?_
    refine er_cm_ne (pc' := 20) rfl rfl (fun h17 => ?_) (fun h17 => ?_)
    · refine er_k (pc' := 25) (nI 0) rfl rfl rfl ?_
      refine er_ret _ rfl rfl ?_
      exact PI_of (bI_eq0 (by simp [rNever, *]))
    · refine er_k (pc' := 21) (nI 1) rfl rfl rfl ?_
      refine er_goto rfl ?_
      refine er_ret _ rfl rfl ?_
      exact PI_of (bI_eq1 (by simp [rNever, *]))
set_option maxRecDepth 100000 in
set_option maxHeartbeats 4000000 in
theorem l_rWrongs_loop (d : Nat) (X Z : Nat → Nat → Int32) (n : Nat) (h2 : X 64 2 = nI n) (hn : n ≤ 8) : ∀ (m i : Nat) (a x : Int32), i + m = n → x = nI i → a = rS (X 64) 12 i → ER (d + 1) tb_m180 4 [(0, .ref 63), (1, .int a), (2, .int x)] [] (Wd X Z) (PI (rS (X 64) 12 n) (Wd X Z))
  | 0, i, a, x, hi, hx, ha => by
    have hi0 : i = n := by omega
    subst hx
    subst hi0
    subst ha
    refine er_loc (pc' := 5) rfl rfl rfl ?_
    refine er_loc (pc' := 6) rfl rfl rfl ?_
    refine er_gf (pc' := 9) (_) rfl rfl rfl rfl rfl ?_
    refine er_k (pc' := 10) (nI 2) rfl rfl rfl ?_
    refine er_ia (pc' := 11) (2) rfl rfl rfl rfl (by omega) rfl rfl ?_
    rw [h2]
    refine er_cm_geT rfl (nI_nlt (by omega) (by omega)) ?_
    refine er_loc (pc' := 30) rfl rfl rfl ?_
    refine er_iret rfl rfl ?_
    exact PI_of rfl
  | m + 1, i, a, x, hi, hx, ha => by
    subst hx
    subst ha
    refine er_loc (pc' := 5) rfl rfl rfl ?_
    refine er_loc (pc' := 6) rfl rfl rfl ?_
    refine er_gf (pc' := 9) (_) rfl rfl rfl rfl rfl ?_
    refine er_k (pc' := 10) (nI 2) rfl rfl rfl ?_
    refine er_ia (pc' := 11) (2) rfl rfl rfl rfl (by omega) rfl rfl ?_
    rw [h2]
    refine er_cm_geF (pc' := 14) rfl (nI_lt (by omega) (by omega)) rfl ?_
    refine er_loc (pc' := 15) rfl rfl rfl ?_
    refine er_loc (pc' := 16) rfl rfl rfl ?_
    refine er_loc (pc' := 17) rfl rfl rfl ?_
    refine er_k (pc' := 18) (nI 5) rfl rfl rfl ?_
    refine er_cIi (pc' := 21) (rest := [_]) 12 rfl rfl rfl rfl rfl rfl (l_rOf _ X Z (by omega) (by omega)) ?_
    refine er_iadd (pc' := 22) rfl rfl ?_
    refine er_loc (pc' := 23) (L' := [(1, _), (0, _), (2, _)]) rfl rfl rfl ?_
    refine er_loc (L' := [(2, .int (_ + nI 1)), (1, _), (0, _)]) rfl rfl rfl ?_
    refine er_goto rfl ?_
    refine ER_loc [(0, _), (1, _), (2, _)] rfl (List.forall_mem_cons.mpr ⟨rfl, List.forall_mem_cons.mpr ⟨rfl, List.forall_mem_cons.mpr ⟨rfl, fun _ h => absurd h List.not_mem_nil⟩⟩⟩) rfl rfl ?_
    exact l_rWrongs_loop d X Z n h2 hn m (i + 1) _ _ (by omega) (nI_add i 1) (by rw [show 7 + 6 * i + 5 = 12 + 6 * i by omega]; rfl)
set_option maxRecDepth 100000 in
set_option maxHeartbeats 4000000 in
theorem l_rWrongs (d : Nat) (X Z : Nat → Nat → Int32) {n : Nat} (h2 : X 64 2 = nI n) (hn : n ≤ 8) : EC (d + 2) 180 [.ref 63] (Wd X Z) (PI (rS (X 64) 12 n) (Wd X Z)) := by
  refine er_enter (L := [(0, _)]) rfl rfl rfl ?_
  refine er_k (pc' := 1) (nI 0) rfl rfl rfl ?_
  refine er_loc (pc' := 2) (L' := [(1, _), (0, _)]) rfl rfl rfl ?_
  refine er_k (pc' := 3) (nI 0) rfl rfl rfl ?_
  refine er_loc (pc' := 4) (L' := [(2, _), (1, _), (0, _)]) rfl rfl rfl ?_
  refine ER_loc [(0, _), (1, _), (2, _)] rfl (List.forall_mem_cons.mpr ⟨rfl, List.forall_mem_cons.mpr ⟨rfl, List.forall_mem_cons.mpr ⟨rfl, fun _ h => absurd h List.not_mem_nil⟩⟩⟩) rfl rfl ?_
  exact l_rWrongs_loop d X Z n h2 hn n 0 _ _ (by omega) rfl rfl
end
section
/-! THE REFERENCE: what its row says when a place of it changes -/
def fl (v : Int32) : Prop := v = nI 0 ∨ v = nI 1
def aOK (a w : Int32) : Prop := (a = nI 1 ∧ ¬ w < 0) ∨ (a = nI 2 ∧ (w = nI 0 ∨ w = nI 1 ∨ w = nI 2)) ∨ a = nI 3 ∨ okSg a
def tOK (R : Nat → Int32) (p : Nat) : Prop := ∀ k, k < nN (R p) → aOK (R (p + 1 + k)) (R (p + 51 + k))
def RK (T : Nat) (R : Nat → Int32) : Prop := IJ T (jm R) ∧ (∀ i, i < 8 → fl (R (11 + 6 * i)) ∧ fl (R (12 + 6 * i))) ∧ tOK R 125 ∧ tOK R 226
theorem RK.ij {T : Nat} {R : Nat → Int32} (h : RK T R) : IJ T (jm R) := h.1
theorem RK.fD {T : Nat} {R : Nat → Int32} (h : RK T R) {i : Nat} (hi : i < 8) : fl (R (11 + 6 * i)) := (h.2.1 i hi).1
theorem RK.fW {T : Nat} {R : Nat → Int32} (h : RK T R) {i : Nat} (hi : i < 8) : fl (R (12 + 6 * i)) := (h.2.1 i hi).2
theorem RK.n8 {T : Nat} {R : Nat → Int32} (h : RK T R) : nN (R 2) ≤ 8 := h.1.n.2
theorem RK.n {T : Nat} {R : Nat → Int32} (h : RK T R) : R 2 = nI (jn (jm R)) := h.1.n.1
theorem rB_cong {R R' : Nat → Int32} {p : Nat} : ∀ {n : Nat}, (∀ i, i < n → R (p + 6 * i) = R' (p + 6 * i)) → rB R p n = rB R' p n
  | 0, _ => rfl
  | n + 1, h => by
    show _ ||| _ = _ ||| _
    rw [rB_cong (fun i hi => h i (by omega)), h n (by omega)]
theorem fl_b {v : Int32} (h : fl v) : v = bI (decide (v = nI 1)) := by
  rcases h with h | h <;> subst h <;> decide +kernel
theorem fl_bI (c : Bool) : fl (bI c) := by cases c; exact Or.inl rfl; exact Or.inr rfl
theorem sh0 {k : Nat} (h : k < 32) : nI 0 <<< (nI k &&& 31) = nI 0 := fin32 (p := fun k => nI 0 <<< (nI k &&& 31) = nI 0) h (by decide +kernel)
theorem bt_shl {v : Int32} {k : Nat} (hv : fl v) (hk : k < 32) (i : Nat) : bt (v <<< (nI k &&& 31)) i = (decide (v = nI 1) && decide (i = k)) := by
  rcases hv with h | h
  · subst h
    rw [sh0 hk, bt_0, show decide (nI 0 = nI 1) = false from by decide +kernel]
    rfl
  · subst h
    rw [bt_one hk, show decide (nI 1 = nI 1) = true from by decide +kernel]
    rfl
theorem bt_rB {R : Nat → Int32} {p : Nat} : ∀ {n : Nat}, n ≤ 8 → (∀ i, i < n → fl (R (p + 6 * i))) → ∀ i, bt (rB R p n) i = (decide (i < n) && decide (R (p + 6 * i) = nI 1))
  | 0, _, _, i => by
    rw [show rB R p 0 = nI 0 from rfl, bt_0, decide_eq_false (by omega)]
    rfl
  | n + 1, hn, hf, i => by
    rw [show rB R p (n + 1) = rB R p n ||| (R (p + 6 * n) <<< (nI n &&& 31)) from rfl, bt_or, bt_rB (by omega) (fun j hj => hf j (by omega)) i, bt_shl (hf n (by omega)) (by omega)]
    by_cases h1 : i = n
    · subst h1
      rw [decide_eq_false (Nat.lt_irrefl i), decide_eq_true (Nat.lt_succ_self i)]
      simp
    · have e : decide (i < n + 1) = decide (i < n) := decide_eq_decide.mpr (by omega)
      rw [e, decide_eq_false h1]
      simp
theorem rB_set {R : Nat → Int32} {p n k : Nat} {c : Bool} (hn : n ≤ 8) (hk : k < n) (hf : ∀ i, i < n → fl (R (p + 6 * i))) : rB (u1 R (p + 6 * k) (bI c)) p n = sWith (rB R p n) (nI k) c := by
  apply bt_ext
  intro i _
  have hf2 : ∀ i, i < n → fl (u1 R (p + 6 * k) (bI c) (p + 6 * i)) := by
    intro i hi
    rw [u1_at]
    split
    · exact fl_bI c
    · exact hf i hi
  rw [bt_rB hn hf2, bt_with (by omega), bt_rB hn hf, u1_at]
  by_cases h : i = k
  · subst h
    rw [if_pos rfl, if_pos rfl, decide_eq_true hk]
    cases c <;> decide +kernel
  · rw [if_neg (by omega), if_neg h]
theorem u1_comm {f : Nat → Int32} {a b : Nat} {v w : Int32} (h : a ≠ b) : u1 (u1 f a v) b w = u1 (u1 f b w) a v := by
  funext i
  simp only [u1_at]
  by_cases h1 : i = b
  · subst h1
    rw [if_pos rfl, if_neg (Ne.symm h), if_pos rfl]
  · rw [if_neg h1, if_neg h1]
theorem jm_uMin_r {R R' : Nat → Int32} {v : Int32} (hR : R' = u1 R (0) v) : jm R' = ud (jm R) 0 10 v := by
  have ho : ∀ q, q ≠ 0 → R' q = R q := fun q hq => by rw [hR]; exact u1_ne hq
  have hv : R' (0) = v := by rw [hR, u1_same]
  funext i j
  rw [ud_at]
  have e2 : R' 2 = R 2 := ho _ (by omega)
  have e6 : rB R' 11 (nN (R' 2)) = rB R 11 (nN (R 2)) := by rw [e2]; exact rB_cong (fun i hi => ho _ (by omega))
  have e7 : rB R' 12 (nN (R' 2)) = rB R 12 (nN (R 2)) := by rw [e2]; exact rB_cong (fun i hi => ho _ (by omega))
  clear hR
  match i with
  | 0 =>
    rw [if_pos rfl]
    match j with
    | 0 => rw [if_neg (by omega)]; exact (show jm R' 0 0 = 0 from rfl).trans (show 0 = jm R 0 0 from rfl)
    | 1 => rw [if_neg (by omega)]; exact ho 2 (by omega)
    | 2 => rw [if_neg (by omega)]; exact (show jm R' 0 2 = 0 from rfl).trans (show 0 = jm R 0 2 from rfl)
    | 3 => rw [if_neg (by omega)]; exact (show jm R' 0 3 = 0 from rfl).trans (show 0 = jm R 0 3 from rfl)
    | 4 => rw [if_neg (by omega)]; exact (show jm R' 0 4 = 0 from rfl).trans (show 0 = jm R 0 4 from rfl)
    | 5 => rw [if_neg (by omega)]; exact (show jm R' 0 5 = 0 from rfl).trans (show 0 = jm R 0 5 from rfl)
    | 6 => rw [if_neg (by omega)]; exact e6
    | 7 => rw [if_neg (by omega)]; exact e7
    | 8 => rw [if_neg (by omega)]; exact ho 3 (by omega)
    | 9 => rw [if_neg (by omega)]; exact ho 4 (by omega)
    | 10 => rw [if_pos rfl]; exact hv
    | 11 => rw [if_neg (by omega)]; exact (show jm R' 0 11 = 0 from rfl).trans (show 0 = jm R 0 11 from rfl)
    | 12 => rw [if_neg (by omega)]; exact (show jm R' 0 12 = 0 from rfl).trans (show 0 = jm R 0 12 from rfl)
    | 13 => rw [if_neg (by omega)]; exact (show jm R' 0 13 = 0 from rfl).trans (show 0 = jm R 0 13 from rfl)
    | 14 => rw [if_neg (by omega)]; exact ho 5 (by omega)
    | 15 => rw [if_neg (by omega)]; exact (show jm R' 0 15 = 0 from rfl).trans (show 0 = jm R 0 15 from rfl)
    | 16 => rw [if_neg (by omega)]; exact ho 6 (by omega)
    | 17 => rw [if_neg (by omega)]; exact ho 1 (by omega)
    | j + 18 => rw [if_neg (by omega)]; exact (show jm R' 0 (j + 18) = 0 from rfl).trans (show 0 = jm R 0 (j + 18) from rfl)
  | 1 =>
    rw [if_neg (by omega)]
    show (if j < 8 then R' (7 + 6 * j) else 0) = (if j < 8 then R (7 + 6 * j) else 0)
    split
    · exact ho _ (by omega)
    · rfl
  | 2 =>
    rw [if_neg (by omega)]
    show (if j < 8 then R' (8 + 6 * j) else 0) = (if j < 8 then R (8 + 6 * j) else 0)
    split
    · exact ho _ (by omega)
    · rfl
  | 3 =>
    rw [if_neg (by omega)]
    show (if j < 8 then R' (9 + 6 * j) else 0) = (if j < 8 then R (9 + 6 * j) else 0)
    split
    · exact ho _ (by omega)
    · rfl
  | 4 =>
    rw [if_neg (by omega)]
    show (if j < 8 then R' (10 + 6 * j) else 0) = (if j < 8 then R (10 + 6 * j) else 0)
    split
    · exact ho _ (by omega)
    · rfl
  | 5 =>
    rw [if_neg (by omega)]
    show (if j = 0 then R' 125 else 0) = (if j = 0 then R 125 else 0)
    rw [ho 125 (by omega)]
  | 6 =>
    rw [if_neg (by omega)]
    show (if j < nN (R' 125) then cM (R' (126 + j)) (R' (176 + j)) else 0) = (if j < nN (R 125) then cM (R (126 + j)) (R (176 + j)) else 0)
    rw [ho 125 (by omega), ho (126 + j) (by omega), ho (176 + j) (by omega)]
  | 7 =>
    rw [if_neg (by omega)]
    show (if j = 0 then R' 226 else 0) = (if j = 0 then R 226 else 0)
    rw [ho 226 (by omega)]
  | 8 =>
    rw [if_neg (by omega)]
    show (if j < nN (R' 226) then cM (R' (227 + j)) (R' (277 + j)) else 0) = (if j < nN (R 226) then cM (R (227 + j)) (R (277 + j)) else 0)
    rw [ho 226 (by omega), ho (227 + j) (by omega), ho (277 + j) (by omega)]
  | 9 =>
    rw [if_neg (by omega)]
    show (if j < 50 then R' (55 + j) else 0) = (if j < 50 then R (55 + j) else 0)
    split
    · exact ho _ (by omega)
    · rfl
  | 10 =>
    rw [if_neg (by omega)]
    show (if j < 20 then R' (105 + j) else 0) = (if j < 20 then R (105 + j) else 0)
    split
    · exact ho _ (by omega)
    · rfl
  | i + 11 =>
    rw [if_neg (by omega)]; exact (show jm R' (i + 11) j = 0 from rfl).trans (show 0 = jm R (i + 11) j from rfl)
theorem jm_uMin {R : Nat → Int32} {v : Int32} : jm (u1 R (0) v) = ud (jm R) 0 10 v := jm_uMin_r  rfl
theorem jm_uZ_r {R R' : Nat → Int32} {v : Int32} (hR : R' = u1 R (1) v) : jm R' = ud (jm R) 0 17 v := by
  have ho : ∀ q, q ≠ 1 → R' q = R q := fun q hq => by rw [hR]; exact u1_ne hq
  have hv : R' (1) = v := by rw [hR, u1_same]
  funext i j
  rw [ud_at]
  have e2 : R' 2 = R 2 := ho _ (by omega)
  have e6 : rB R' 11 (nN (R' 2)) = rB R 11 (nN (R 2)) := by rw [e2]; exact rB_cong (fun i hi => ho _ (by omega))
  have e7 : rB R' 12 (nN (R' 2)) = rB R 12 (nN (R 2)) := by rw [e2]; exact rB_cong (fun i hi => ho _ (by omega))
  clear hR
  match i with
  | 0 =>
    rw [if_pos rfl]
    match j with
    | 0 => rw [if_neg (by omega)]; exact (show jm R' 0 0 = 0 from rfl).trans (show 0 = jm R 0 0 from rfl)
    | 1 => rw [if_neg (by omega)]; exact ho 2 (by omega)
    | 2 => rw [if_neg (by omega)]; exact (show jm R' 0 2 = 0 from rfl).trans (show 0 = jm R 0 2 from rfl)
    | 3 => rw [if_neg (by omega)]; exact (show jm R' 0 3 = 0 from rfl).trans (show 0 = jm R 0 3 from rfl)
    | 4 => rw [if_neg (by omega)]; exact (show jm R' 0 4 = 0 from rfl).trans (show 0 = jm R 0 4 from rfl)
    | 5 => rw [if_neg (by omega)]; exact (show jm R' 0 5 = 0 from rfl).trans (show 0 = jm R 0 5 from rfl)
    | 6 => rw [if_neg (by omega)]; exact e6
    | 7 => rw [if_neg (by omega)]; exact e7
    | 8 => rw [if_neg (by omega)]; exact ho 3 (by omega)
    | 9 => rw [if_neg (by omega)]; exact ho 4 (by omega)
    | 10 => rw [if_neg (by omega)]; exact ho 0 (by omega)
    | 11 => rw [if_neg (by omega)]; exact (show jm R' 0 11 = 0 from rfl).trans (show 0 = jm R 0 11 from rfl)
    | 12 => rw [if_neg (by omega)]; exact (show jm R' 0 12 = 0 from rfl).trans (show 0 = jm R 0 12 from rfl)
    | 13 => rw [if_neg (by omega)]; exact (show jm R' 0 13 = 0 from rfl).trans (show 0 = jm R 0 13 from rfl)
    | 14 => rw [if_neg (by omega)]; exact ho 5 (by omega)
    | 15 => rw [if_neg (by omega)]; exact (show jm R' 0 15 = 0 from rfl).trans (show 0 = jm R 0 15 from rfl)
    | 16 => rw [if_neg (by omega)]; exact ho 6 (by omega)
    | 17 => rw [if_pos rfl]; exact hv
    | j + 18 => rw [if_neg (by omega)]; exact (show jm R' 0 (j + 18) = 0 from rfl).trans (show 0 = jm R 0 (j + 18) from rfl)
  | 1 =>
    rw [if_neg (by omega)]
    show (if j < 8 then R' (7 + 6 * j) else 0) = (if j < 8 then R (7 + 6 * j) else 0)
    split
    · exact ho _ (by omega)
    · rfl
  | 2 =>
    rw [if_neg (by omega)]
    show (if j < 8 then R' (8 + 6 * j) else 0) = (if j < 8 then R (8 + 6 * j) else 0)
    split
    · exact ho _ (by omega)
    · rfl
  | 3 =>
    rw [if_neg (by omega)]
    show (if j < 8 then R' (9 + 6 * j) else 0) = (if j < 8 then R (9 + 6 * j) else 0)
    split
    · exact ho _ (by omega)
    · rfl
  | 4 =>
    rw [if_neg (by omega)]
    show (if j < 8 then R' (10 + 6 * j) else 0) = (if j < 8 then R (10 + 6 * j) else 0)
    split
    · exact ho _ (by omega)
    · rfl
  | 5 =>
    rw [if_neg (by omega)]
    show (if j = 0 then R' 125 else 0) = (if j = 0 then R 125 else 0)
    rw [ho 125 (by omega)]
  | 6 =>
    rw [if_neg (by omega)]
    show (if j < nN (R' 125) then cM (R' (126 + j)) (R' (176 + j)) else 0) = (if j < nN (R 125) then cM (R (126 + j)) (R (176 + j)) else 0)
    rw [ho 125 (by omega), ho (126 + j) (by omega), ho (176 + j) (by omega)]
  | 7 =>
    rw [if_neg (by omega)]
    show (if j = 0 then R' 226 else 0) = (if j = 0 then R 226 else 0)
    rw [ho 226 (by omega)]
  | 8 =>
    rw [if_neg (by omega)]
    show (if j < nN (R' 226) then cM (R' (227 + j)) (R' (277 + j)) else 0) = (if j < nN (R 226) then cM (R (227 + j)) (R (277 + j)) else 0)
    rw [ho 226 (by omega), ho (227 + j) (by omega), ho (277 + j) (by omega)]
  | 9 =>
    rw [if_neg (by omega)]
    show (if j < 50 then R' (55 + j) else 0) = (if j < 50 then R (55 + j) else 0)
    split
    · exact ho _ (by omega)
    · rfl
  | 10 =>
    rw [if_neg (by omega)]
    show (if j < 20 then R' (105 + j) else 0) = (if j < 20 then R (105 + j) else 0)
    split
    · exact ho _ (by omega)
    · rfl
  | i + 11 =>
    rw [if_neg (by omega)]; exact (show jm R' (i + 11) j = 0 from rfl).trans (show 0 = jm R (i + 11) j from rfl)
theorem jm_uZ {R : Nat → Int32} {v : Int32} : jm (u1 R (1) v) = ud (jm R) 0 17 v := jm_uZ_r  rfl
theorem jm_uHands_r {R R' : Nat → Int32} {v : Int32} (hR : R' = u1 R (3) v) : jm R' = ud (jm R) 0 8 v := by
  have ho : ∀ q, q ≠ 3 → R' q = R q := fun q hq => by rw [hR]; exact u1_ne hq
  have hv : R' (3) = v := by rw [hR, u1_same]
  funext i j
  rw [ud_at]
  have e2 : R' 2 = R 2 := ho _ (by omega)
  have e6 : rB R' 11 (nN (R' 2)) = rB R 11 (nN (R 2)) := by rw [e2]; exact rB_cong (fun i hi => ho _ (by omega))
  have e7 : rB R' 12 (nN (R' 2)) = rB R 12 (nN (R 2)) := by rw [e2]; exact rB_cong (fun i hi => ho _ (by omega))
  clear hR
  match i with
  | 0 =>
    rw [if_pos rfl]
    match j with
    | 0 => rw [if_neg (by omega)]; exact (show jm R' 0 0 = 0 from rfl).trans (show 0 = jm R 0 0 from rfl)
    | 1 => rw [if_neg (by omega)]; exact ho 2 (by omega)
    | 2 => rw [if_neg (by omega)]; exact (show jm R' 0 2 = 0 from rfl).trans (show 0 = jm R 0 2 from rfl)
    | 3 => rw [if_neg (by omega)]; exact (show jm R' 0 3 = 0 from rfl).trans (show 0 = jm R 0 3 from rfl)
    | 4 => rw [if_neg (by omega)]; exact (show jm R' 0 4 = 0 from rfl).trans (show 0 = jm R 0 4 from rfl)
    | 5 => rw [if_neg (by omega)]; exact (show jm R' 0 5 = 0 from rfl).trans (show 0 = jm R 0 5 from rfl)
    | 6 => rw [if_neg (by omega)]; exact e6
    | 7 => rw [if_neg (by omega)]; exact e7
    | 8 => rw [if_pos rfl]; exact hv
    | 9 => rw [if_neg (by omega)]; exact ho 4 (by omega)
    | 10 => rw [if_neg (by omega)]; exact ho 0 (by omega)
    | 11 => rw [if_neg (by omega)]; exact (show jm R' 0 11 = 0 from rfl).trans (show 0 = jm R 0 11 from rfl)
    | 12 => rw [if_neg (by omega)]; exact (show jm R' 0 12 = 0 from rfl).trans (show 0 = jm R 0 12 from rfl)
    | 13 => rw [if_neg (by omega)]; exact (show jm R' 0 13 = 0 from rfl).trans (show 0 = jm R 0 13 from rfl)
    | 14 => rw [if_neg (by omega)]; exact ho 5 (by omega)
    | 15 => rw [if_neg (by omega)]; exact (show jm R' 0 15 = 0 from rfl).trans (show 0 = jm R 0 15 from rfl)
    | 16 => rw [if_neg (by omega)]; exact ho 6 (by omega)
    | 17 => rw [if_neg (by omega)]; exact ho 1 (by omega)
    | j + 18 => rw [if_neg (by omega)]; exact (show jm R' 0 (j + 18) = 0 from rfl).trans (show 0 = jm R 0 (j + 18) from rfl)
  | 1 =>
    rw [if_neg (by omega)]
    show (if j < 8 then R' (7 + 6 * j) else 0) = (if j < 8 then R (7 + 6 * j) else 0)
    split
    · exact ho _ (by omega)
    · rfl
  | 2 =>
    rw [if_neg (by omega)]
    show (if j < 8 then R' (8 + 6 * j) else 0) = (if j < 8 then R (8 + 6 * j) else 0)
    split
    · exact ho _ (by omega)
    · rfl
  | 3 =>
    rw [if_neg (by omega)]
    show (if j < 8 then R' (9 + 6 * j) else 0) = (if j < 8 then R (9 + 6 * j) else 0)
    split
    · exact ho _ (by omega)
    · rfl
  | 4 =>
    rw [if_neg (by omega)]
    show (if j < 8 then R' (10 + 6 * j) else 0) = (if j < 8 then R (10 + 6 * j) else 0)
    split
    · exact ho _ (by omega)
    · rfl
  | 5 =>
    rw [if_neg (by omega)]
    show (if j = 0 then R' 125 else 0) = (if j = 0 then R 125 else 0)
    rw [ho 125 (by omega)]
  | 6 =>
    rw [if_neg (by omega)]
    show (if j < nN (R' 125) then cM (R' (126 + j)) (R' (176 + j)) else 0) = (if j < nN (R 125) then cM (R (126 + j)) (R (176 + j)) else 0)
    rw [ho 125 (by omega), ho (126 + j) (by omega), ho (176 + j) (by omega)]
  | 7 =>
    rw [if_neg (by omega)]
    show (if j = 0 then R' 226 else 0) = (if j = 0 then R 226 else 0)
    rw [ho 226 (by omega)]
  | 8 =>
    rw [if_neg (by omega)]
    show (if j < nN (R' 226) then cM (R' (227 + j)) (R' (277 + j)) else 0) = (if j < nN (R 226) then cM (R (227 + j)) (R (277 + j)) else 0)
    rw [ho 226 (by omega), ho (227 + j) (by omega), ho (277 + j) (by omega)]
  | 9 =>
    rw [if_neg (by omega)]
    show (if j < 50 then R' (55 + j) else 0) = (if j < 50 then R (55 + j) else 0)
    split
    · exact ho _ (by omega)
    · rfl
  | 10 =>
    rw [if_neg (by omega)]
    show (if j < 20 then R' (105 + j) else 0) = (if j < 20 then R (105 + j) else 0)
    split
    · exact ho _ (by omega)
    · rfl
  | i + 11 =>
    rw [if_neg (by omega)]; exact (show jm R' (i + 11) j = 0 from rfl).trans (show 0 = jm R (i + 11) j from rfl)
theorem jm_uHands {R : Nat → Int32} {v : Int32} : jm (u1 R (3) v) = ud (jm R) 0 8 v := jm_uHands_r  rfl
theorem jm_uBag_r {R R' : Nat → Int32} {v : Int32} (hR : R' = u1 R (4) v) : jm R' = ud (jm R) 0 9 v := by
  have ho : ∀ q, q ≠ 4 → R' q = R q := fun q hq => by rw [hR]; exact u1_ne hq
  have hv : R' (4) = v := by rw [hR, u1_same]
  funext i j
  rw [ud_at]
  have e2 : R' 2 = R 2 := ho _ (by omega)
  have e6 : rB R' 11 (nN (R' 2)) = rB R 11 (nN (R 2)) := by rw [e2]; exact rB_cong (fun i hi => ho _ (by omega))
  have e7 : rB R' 12 (nN (R' 2)) = rB R 12 (nN (R 2)) := by rw [e2]; exact rB_cong (fun i hi => ho _ (by omega))
  clear hR
  match i with
  | 0 =>
    rw [if_pos rfl]
    match j with
    | 0 => rw [if_neg (by omega)]; exact (show jm R' 0 0 = 0 from rfl).trans (show 0 = jm R 0 0 from rfl)
    | 1 => rw [if_neg (by omega)]; exact ho 2 (by omega)
    | 2 => rw [if_neg (by omega)]; exact (show jm R' 0 2 = 0 from rfl).trans (show 0 = jm R 0 2 from rfl)
    | 3 => rw [if_neg (by omega)]; exact (show jm R' 0 3 = 0 from rfl).trans (show 0 = jm R 0 3 from rfl)
    | 4 => rw [if_neg (by omega)]; exact (show jm R' 0 4 = 0 from rfl).trans (show 0 = jm R 0 4 from rfl)
    | 5 => rw [if_neg (by omega)]; exact (show jm R' 0 5 = 0 from rfl).trans (show 0 = jm R 0 5 from rfl)
    | 6 => rw [if_neg (by omega)]; exact e6
    | 7 => rw [if_neg (by omega)]; exact e7
    | 8 => rw [if_neg (by omega)]; exact ho 3 (by omega)
    | 9 => rw [if_pos rfl]; exact hv
    | 10 => rw [if_neg (by omega)]; exact ho 0 (by omega)
    | 11 => rw [if_neg (by omega)]; exact (show jm R' 0 11 = 0 from rfl).trans (show 0 = jm R 0 11 from rfl)
    | 12 => rw [if_neg (by omega)]; exact (show jm R' 0 12 = 0 from rfl).trans (show 0 = jm R 0 12 from rfl)
    | 13 => rw [if_neg (by omega)]; exact (show jm R' 0 13 = 0 from rfl).trans (show 0 = jm R 0 13 from rfl)
    | 14 => rw [if_neg (by omega)]; exact ho 5 (by omega)
    | 15 => rw [if_neg (by omega)]; exact (show jm R' 0 15 = 0 from rfl).trans (show 0 = jm R 0 15 from rfl)
    | 16 => rw [if_neg (by omega)]; exact ho 6 (by omega)
    | 17 => rw [if_neg (by omega)]; exact ho 1 (by omega)
    | j + 18 => rw [if_neg (by omega)]; exact (show jm R' 0 (j + 18) = 0 from rfl).trans (show 0 = jm R 0 (j + 18) from rfl)
  | 1 =>
    rw [if_neg (by omega)]
    show (if j < 8 then R' (7 + 6 * j) else 0) = (if j < 8 then R (7 + 6 * j) else 0)
    split
    · exact ho _ (by omega)
    · rfl
  | 2 =>
    rw [if_neg (by omega)]
    show (if j < 8 then R' (8 + 6 * j) else 0) = (if j < 8 then R (8 + 6 * j) else 0)
    split
    · exact ho _ (by omega)
    · rfl
  | 3 =>
    rw [if_neg (by omega)]
    show (if j < 8 then R' (9 + 6 * j) else 0) = (if j < 8 then R (9 + 6 * j) else 0)
    split
    · exact ho _ (by omega)
    · rfl
  | 4 =>
    rw [if_neg (by omega)]
    show (if j < 8 then R' (10 + 6 * j) else 0) = (if j < 8 then R (10 + 6 * j) else 0)
    split
    · exact ho _ (by omega)
    · rfl
  | 5 =>
    rw [if_neg (by omega)]
    show (if j = 0 then R' 125 else 0) = (if j = 0 then R 125 else 0)
    rw [ho 125 (by omega)]
  | 6 =>
    rw [if_neg (by omega)]
    show (if j < nN (R' 125) then cM (R' (126 + j)) (R' (176 + j)) else 0) = (if j < nN (R 125) then cM (R (126 + j)) (R (176 + j)) else 0)
    rw [ho 125 (by omega), ho (126 + j) (by omega), ho (176 + j) (by omega)]
  | 7 =>
    rw [if_neg (by omega)]
    show (if j = 0 then R' 226 else 0) = (if j = 0 then R 226 else 0)
    rw [ho 226 (by omega)]
  | 8 =>
    rw [if_neg (by omega)]
    show (if j < nN (R' 226) then cM (R' (227 + j)) (R' (277 + j)) else 0) = (if j < nN (R 226) then cM (R (227 + j)) (R (277 + j)) else 0)
    rw [ho 226 (by omega), ho (227 + j) (by omega), ho (277 + j) (by omega)]
  | 9 =>
    rw [if_neg (by omega)]
    show (if j < 50 then R' (55 + j) else 0) = (if j < 50 then R (55 + j) else 0)
    split
    · exact ho _ (by omega)
    · rfl
  | 10 =>
    rw [if_neg (by omega)]
    show (if j < 20 then R' (105 + j) else 0) = (if j < 20 then R (105 + j) else 0)
    split
    · exact ho _ (by omega)
    · rfl
  | i + 11 =>
    rw [if_neg (by omega)]; exact (show jm R' (i + 11) j = 0 from rfl).trans (show 0 = jm R (i + 11) j from rfl)
theorem jm_uBag {R : Nat → Int32} {v : Int32} : jm (u1 R (4) v) = ud (jm R) 0 9 v := jm_uBag_r  rfl
theorem jm_uFed_r {R R' : Nat → Int32} {v : Int32} (hR : R' = u1 R (5) v) : jm R' = ud (jm R) 0 14 v := by
  have ho : ∀ q, q ≠ 5 → R' q = R q := fun q hq => by rw [hR]; exact u1_ne hq
  have hv : R' (5) = v := by rw [hR, u1_same]
  funext i j
  rw [ud_at]
  have e2 : R' 2 = R 2 := ho _ (by omega)
  have e6 : rB R' 11 (nN (R' 2)) = rB R 11 (nN (R 2)) := by rw [e2]; exact rB_cong (fun i hi => ho _ (by omega))
  have e7 : rB R' 12 (nN (R' 2)) = rB R 12 (nN (R 2)) := by rw [e2]; exact rB_cong (fun i hi => ho _ (by omega))
  clear hR
  match i with
  | 0 =>
    rw [if_pos rfl]
    match j with
    | 0 => rw [if_neg (by omega)]; exact (show jm R' 0 0 = 0 from rfl).trans (show 0 = jm R 0 0 from rfl)
    | 1 => rw [if_neg (by omega)]; exact ho 2 (by omega)
    | 2 => rw [if_neg (by omega)]; exact (show jm R' 0 2 = 0 from rfl).trans (show 0 = jm R 0 2 from rfl)
    | 3 => rw [if_neg (by omega)]; exact (show jm R' 0 3 = 0 from rfl).trans (show 0 = jm R 0 3 from rfl)
    | 4 => rw [if_neg (by omega)]; exact (show jm R' 0 4 = 0 from rfl).trans (show 0 = jm R 0 4 from rfl)
    | 5 => rw [if_neg (by omega)]; exact (show jm R' 0 5 = 0 from rfl).trans (show 0 = jm R 0 5 from rfl)
    | 6 => rw [if_neg (by omega)]; exact e6
    | 7 => rw [if_neg (by omega)]; exact e7
    | 8 => rw [if_neg (by omega)]; exact ho 3 (by omega)
    | 9 => rw [if_neg (by omega)]; exact ho 4 (by omega)
    | 10 => rw [if_neg (by omega)]; exact ho 0 (by omega)
    | 11 => rw [if_neg (by omega)]; exact (show jm R' 0 11 = 0 from rfl).trans (show 0 = jm R 0 11 from rfl)
    | 12 => rw [if_neg (by omega)]; exact (show jm R' 0 12 = 0 from rfl).trans (show 0 = jm R 0 12 from rfl)
    | 13 => rw [if_neg (by omega)]; exact (show jm R' 0 13 = 0 from rfl).trans (show 0 = jm R 0 13 from rfl)
    | 14 => rw [if_pos rfl]; exact hv
    | 15 => rw [if_neg (by omega)]; exact (show jm R' 0 15 = 0 from rfl).trans (show 0 = jm R 0 15 from rfl)
    | 16 => rw [if_neg (by omega)]; exact ho 6 (by omega)
    | 17 => rw [if_neg (by omega)]; exact ho 1 (by omega)
    | j + 18 => rw [if_neg (by omega)]; exact (show jm R' 0 (j + 18) = 0 from rfl).trans (show 0 = jm R 0 (j + 18) from rfl)
  | 1 =>
    rw [if_neg (by omega)]
    show (if j < 8 then R' (7 + 6 * j) else 0) = (if j < 8 then R (7 + 6 * j) else 0)
    split
    · exact ho _ (by omega)
    · rfl
  | 2 =>
    rw [if_neg (by omega)]
    show (if j < 8 then R' (8 + 6 * j) else 0) = (if j < 8 then R (8 + 6 * j) else 0)
    split
    · exact ho _ (by omega)
    · rfl
  | 3 =>
    rw [if_neg (by omega)]
    show (if j < 8 then R' (9 + 6 * j) else 0) = (if j < 8 then R (9 + 6 * j) else 0)
    split
    · exact ho _ (by omega)
    · rfl
  | 4 =>
    rw [if_neg (by omega)]
    show (if j < 8 then R' (10 + 6 * j) else 0) = (if j < 8 then R (10 + 6 * j) else 0)
    split
    · exact ho _ (by omega)
    · rfl
  | 5 =>
    rw [if_neg (by omega)]
    show (if j = 0 then R' 125 else 0) = (if j = 0 then R 125 else 0)
    rw [ho 125 (by omega)]
  | 6 =>
    rw [if_neg (by omega)]
    show (if j < nN (R' 125) then cM (R' (126 + j)) (R' (176 + j)) else 0) = (if j < nN (R 125) then cM (R (126 + j)) (R (176 + j)) else 0)
    rw [ho 125 (by omega), ho (126 + j) (by omega), ho (176 + j) (by omega)]
  | 7 =>
    rw [if_neg (by omega)]
    show (if j = 0 then R' 226 else 0) = (if j = 0 then R 226 else 0)
    rw [ho 226 (by omega)]
  | 8 =>
    rw [if_neg (by omega)]
    show (if j < nN (R' 226) then cM (R' (227 + j)) (R' (277 + j)) else 0) = (if j < nN (R 226) then cM (R (227 + j)) (R (277 + j)) else 0)
    rw [ho 226 (by omega), ho (227 + j) (by omega), ho (277 + j) (by omega)]
  | 9 =>
    rw [if_neg (by omega)]
    show (if j < 50 then R' (55 + j) else 0) = (if j < 50 then R (55 + j) else 0)
    split
    · exact ho _ (by omega)
    · rfl
  | 10 =>
    rw [if_neg (by omega)]
    show (if j < 20 then R' (105 + j) else 0) = (if j < 20 then R (105 + j) else 0)
    split
    · exact ho _ (by omega)
    · rfl
  | i + 11 =>
    rw [if_neg (by omega)]; exact (show jm R' (i + 11) j = 0 from rfl).trans (show 0 = jm R (i + 11) j from rfl)
theorem jm_uFed {R : Nat → Int32} {v : Int32} : jm (u1 R (5) v) = ud (jm R) 0 14 v := jm_uFed_r  rfl
theorem jm_uWaits_r {R R' : Nat → Int32} {v : Int32} (hR : R' = u1 R (6) v) : jm R' = ud (jm R) 0 16 v := by
  have ho : ∀ q, q ≠ 6 → R' q = R q := fun q hq => by rw [hR]; exact u1_ne hq
  have hv : R' (6) = v := by rw [hR, u1_same]
  funext i j
  rw [ud_at]
  have e2 : R' 2 = R 2 := ho _ (by omega)
  have e6 : rB R' 11 (nN (R' 2)) = rB R 11 (nN (R 2)) := by rw [e2]; exact rB_cong (fun i hi => ho _ (by omega))
  have e7 : rB R' 12 (nN (R' 2)) = rB R 12 (nN (R 2)) := by rw [e2]; exact rB_cong (fun i hi => ho _ (by omega))
  clear hR
  match i with
  | 0 =>
    rw [if_pos rfl]
    match j with
    | 0 => rw [if_neg (by omega)]; exact (show jm R' 0 0 = 0 from rfl).trans (show 0 = jm R 0 0 from rfl)
    | 1 => rw [if_neg (by omega)]; exact ho 2 (by omega)
    | 2 => rw [if_neg (by omega)]; exact (show jm R' 0 2 = 0 from rfl).trans (show 0 = jm R 0 2 from rfl)
    | 3 => rw [if_neg (by omega)]; exact (show jm R' 0 3 = 0 from rfl).trans (show 0 = jm R 0 3 from rfl)
    | 4 => rw [if_neg (by omega)]; exact (show jm R' 0 4 = 0 from rfl).trans (show 0 = jm R 0 4 from rfl)
    | 5 => rw [if_neg (by omega)]; exact (show jm R' 0 5 = 0 from rfl).trans (show 0 = jm R 0 5 from rfl)
    | 6 => rw [if_neg (by omega)]; exact e6
    | 7 => rw [if_neg (by omega)]; exact e7
    | 8 => rw [if_neg (by omega)]; exact ho 3 (by omega)
    | 9 => rw [if_neg (by omega)]; exact ho 4 (by omega)
    | 10 => rw [if_neg (by omega)]; exact ho 0 (by omega)
    | 11 => rw [if_neg (by omega)]; exact (show jm R' 0 11 = 0 from rfl).trans (show 0 = jm R 0 11 from rfl)
    | 12 => rw [if_neg (by omega)]; exact (show jm R' 0 12 = 0 from rfl).trans (show 0 = jm R 0 12 from rfl)
    | 13 => rw [if_neg (by omega)]; exact (show jm R' 0 13 = 0 from rfl).trans (show 0 = jm R 0 13 from rfl)
    | 14 => rw [if_neg (by omega)]; exact ho 5 (by omega)
    | 15 => rw [if_neg (by omega)]; exact (show jm R' 0 15 = 0 from rfl).trans (show 0 = jm R 0 15 from rfl)
    | 16 => rw [if_pos rfl]; exact hv
    | 17 => rw [if_neg (by omega)]; exact ho 1 (by omega)
    | j + 18 => rw [if_neg (by omega)]; exact (show jm R' 0 (j + 18) = 0 from rfl).trans (show 0 = jm R 0 (j + 18) from rfl)
  | 1 =>
    rw [if_neg (by omega)]
    show (if j < 8 then R' (7 + 6 * j) else 0) = (if j < 8 then R (7 + 6 * j) else 0)
    split
    · exact ho _ (by omega)
    · rfl
  | 2 =>
    rw [if_neg (by omega)]
    show (if j < 8 then R' (8 + 6 * j) else 0) = (if j < 8 then R (8 + 6 * j) else 0)
    split
    · exact ho _ (by omega)
    · rfl
  | 3 =>
    rw [if_neg (by omega)]
    show (if j < 8 then R' (9 + 6 * j) else 0) = (if j < 8 then R (9 + 6 * j) else 0)
    split
    · exact ho _ (by omega)
    · rfl
  | 4 =>
    rw [if_neg (by omega)]
    show (if j < 8 then R' (10 + 6 * j) else 0) = (if j < 8 then R (10 + 6 * j) else 0)
    split
    · exact ho _ (by omega)
    · rfl
  | 5 =>
    rw [if_neg (by omega)]
    show (if j = 0 then R' 125 else 0) = (if j = 0 then R 125 else 0)
    rw [ho 125 (by omega)]
  | 6 =>
    rw [if_neg (by omega)]
    show (if j < nN (R' 125) then cM (R' (126 + j)) (R' (176 + j)) else 0) = (if j < nN (R 125) then cM (R (126 + j)) (R (176 + j)) else 0)
    rw [ho 125 (by omega), ho (126 + j) (by omega), ho (176 + j) (by omega)]
  | 7 =>
    rw [if_neg (by omega)]
    show (if j = 0 then R' 226 else 0) = (if j = 0 then R 226 else 0)
    rw [ho 226 (by omega)]
  | 8 =>
    rw [if_neg (by omega)]
    show (if j < nN (R' 226) then cM (R' (227 + j)) (R' (277 + j)) else 0) = (if j < nN (R 226) then cM (R (227 + j)) (R (277 + j)) else 0)
    rw [ho 226 (by omega), ho (227 + j) (by omega), ho (277 + j) (by omega)]
  | 9 =>
    rw [if_neg (by omega)]
    show (if j < 50 then R' (55 + j) else 0) = (if j < 50 then R (55 + j) else 0)
    split
    · exact ho _ (by omega)
    · rfl
  | 10 =>
    rw [if_neg (by omega)]
    show (if j < 20 then R' (105 + j) else 0) = (if j < 20 then R (105 + j) else 0)
    split
    · exact ho _ (by omega)
    · rfl
  | i + 11 =>
    rw [if_neg (by omega)]; exact (show jm R' (i + 11) j = 0 from rfl).trans (show 0 = jm R (i + 11) j from rfl)
theorem jm_uWaits {R : Nat → Int32} {v : Int32} : jm (u1 R (6) v) = ud (jm R) 0 16 v := jm_uWaits_r  rfl
theorem jm_uKind_r {R R' : Nat → Int32} {v : Int32} {k : Nat} (hk : k < 8) (hR : R' = u1 R (7 + 6 * k) v) : jm R' = ud (jm R) 1 k v := by
  have ho : ∀ q, q ≠ 7 + 6 * k → R' q = R q := fun q hq => by rw [hR]; exact u1_ne hq
  have hv : R' (7 + 6 * k) = v := by rw [hR, u1_same]
  funext i j
  rw [ud_at]
  have e2 : R' 2 = R 2 := ho _ (by omega)
  have e6 : rB R' 11 (nN (R' 2)) = rB R 11 (nN (R 2)) := by rw [e2]; exact rB_cong (fun i hi => ho _ (by omega))
  have e7 : rB R' 12 (nN (R' 2)) = rB R 12 (nN (R 2)) := by rw [e2]; exact rB_cong (fun i hi => ho _ (by omega))
  clear hR
  match i with
  | 0 =>
    rw [if_neg (by omega)]
    match j with
    | 0 => exact (show jm R' 0 0 = 0 from rfl).trans (show 0 = jm R 0 0 from rfl)
    | 1 => exact ho 2 (by omega)
    | 2 => exact (show jm R' 0 2 = 0 from rfl).trans (show 0 = jm R 0 2 from rfl)
    | 3 => exact (show jm R' 0 3 = 0 from rfl).trans (show 0 = jm R 0 3 from rfl)
    | 4 => exact (show jm R' 0 4 = 0 from rfl).trans (show 0 = jm R 0 4 from rfl)
    | 5 => exact (show jm R' 0 5 = 0 from rfl).trans (show 0 = jm R 0 5 from rfl)
    | 6 => exact e6
    | 7 => exact e7
    | 8 => exact ho 3 (by omega)
    | 9 => exact ho 4 (by omega)
    | 10 => exact ho 0 (by omega)
    | 11 => exact (show jm R' 0 11 = 0 from rfl).trans (show 0 = jm R 0 11 from rfl)
    | 12 => exact (show jm R' 0 12 = 0 from rfl).trans (show 0 = jm R 0 12 from rfl)
    | 13 => exact (show jm R' 0 13 = 0 from rfl).trans (show 0 = jm R 0 13 from rfl)
    | 14 => exact ho 5 (by omega)
    | 15 => exact (show jm R' 0 15 = 0 from rfl).trans (show 0 = jm R 0 15 from rfl)
    | 16 => exact ho 6 (by omega)
    | 17 => exact ho 1 (by omega)
    | j + 18 => exact (show jm R' 0 (j + 18) = 0 from rfl).trans (show 0 = jm R 0 (j + 18) from rfl)
  | 1 =>
    rw [if_pos rfl]
    show (if j < 8 then R' (7 + 6 * j) else 0) = _
    by_cases hj : j = k
    · subst hj
      rw [if_pos hk, if_pos rfl, hv]
    · rw [if_neg hj]
      show _ = (if j < 8 then R (7 + 6 * j) else 0)
      split
      · exact ho _ (by omega)
      · rfl
  | 2 =>
    rw [if_neg (by omega)]
    show (if j < 8 then R' (8 + 6 * j) else 0) = (if j < 8 then R (8 + 6 * j) else 0)
    split
    · exact ho _ (by omega)
    · rfl
  | 3 =>
    rw [if_neg (by omega)]
    show (if j < 8 then R' (9 + 6 * j) else 0) = (if j < 8 then R (9 + 6 * j) else 0)
    split
    · exact ho _ (by omega)
    · rfl
  | 4 =>
    rw [if_neg (by omega)]
    show (if j < 8 then R' (10 + 6 * j) else 0) = (if j < 8 then R (10 + 6 * j) else 0)
    split
    · exact ho _ (by omega)
    · rfl
  | 5 =>
    rw [if_neg (by omega)]
    show (if j = 0 then R' 125 else 0) = (if j = 0 then R 125 else 0)
    rw [ho 125 (by omega)]
  | 6 =>
    rw [if_neg (by omega)]
    show (if j < nN (R' 125) then cM (R' (126 + j)) (R' (176 + j)) else 0) = (if j < nN (R 125) then cM (R (126 + j)) (R (176 + j)) else 0)
    rw [ho 125 (by omega), ho (126 + j) (by omega), ho (176 + j) (by omega)]
  | 7 =>
    rw [if_neg (by omega)]
    show (if j = 0 then R' 226 else 0) = (if j = 0 then R 226 else 0)
    rw [ho 226 (by omega)]
  | 8 =>
    rw [if_neg (by omega)]
    show (if j < nN (R' 226) then cM (R' (227 + j)) (R' (277 + j)) else 0) = (if j < nN (R 226) then cM (R (227 + j)) (R (277 + j)) else 0)
    rw [ho 226 (by omega), ho (227 + j) (by omega), ho (277 + j) (by omega)]
  | 9 =>
    rw [if_neg (by omega)]
    show (if j < 50 then R' (55 + j) else 0) = (if j < 50 then R (55 + j) else 0)
    split
    · exact ho _ (by omega)
    · rfl
  | 10 =>
    rw [if_neg (by omega)]
    show (if j < 20 then R' (105 + j) else 0) = (if j < 20 then R (105 + j) else 0)
    split
    · exact ho _ (by omega)
    · rfl
  | i + 11 =>
    rw [if_neg (by omega)]; exact (show jm R' (i + 11) j = 0 from rfl).trans (show 0 = jm R (i + 11) j from rfl)
theorem jm_uKind {R : Nat → Int32} {v : Int32} {k : Nat} (hk : k < 8) : jm (u1 R (7 + 6 * k) v) = ud (jm R) 1 k v := jm_uKind_r hk rfl
theorem jm_uM_r {R R' : Nat → Int32} {v : Int32} {k : Nat} (hk : k < 8) (hR : R' = u1 R (8 + 6 * k) v) : jm R' = ud (jm R) 2 k v := by
  have ho : ∀ q, q ≠ 8 + 6 * k → R' q = R q := fun q hq => by rw [hR]; exact u1_ne hq
  have hv : R' (8 + 6 * k) = v := by rw [hR, u1_same]
  funext i j
  rw [ud_at]
  have e2 : R' 2 = R 2 := ho _ (by omega)
  have e6 : rB R' 11 (nN (R' 2)) = rB R 11 (nN (R 2)) := by rw [e2]; exact rB_cong (fun i hi => ho _ (by omega))
  have e7 : rB R' 12 (nN (R' 2)) = rB R 12 (nN (R 2)) := by rw [e2]; exact rB_cong (fun i hi => ho _ (by omega))
  clear hR
  match i with
  | 0 =>
    rw [if_neg (by omega)]
    match j with
    | 0 => exact (show jm R' 0 0 = 0 from rfl).trans (show 0 = jm R 0 0 from rfl)
    | 1 => exact ho 2 (by omega)
    | 2 => exact (show jm R' 0 2 = 0 from rfl).trans (show 0 = jm R 0 2 from rfl)
    | 3 => exact (show jm R' 0 3 = 0 from rfl).trans (show 0 = jm R 0 3 from rfl)
    | 4 => exact (show jm R' 0 4 = 0 from rfl).trans (show 0 = jm R 0 4 from rfl)
    | 5 => exact (show jm R' 0 5 = 0 from rfl).trans (show 0 = jm R 0 5 from rfl)
    | 6 => exact e6
    | 7 => exact e7
    | 8 => exact ho 3 (by omega)
    | 9 => exact ho 4 (by omega)
    | 10 => exact ho 0 (by omega)
    | 11 => exact (show jm R' 0 11 = 0 from rfl).trans (show 0 = jm R 0 11 from rfl)
    | 12 => exact (show jm R' 0 12 = 0 from rfl).trans (show 0 = jm R 0 12 from rfl)
    | 13 => exact (show jm R' 0 13 = 0 from rfl).trans (show 0 = jm R 0 13 from rfl)
    | 14 => exact ho 5 (by omega)
    | 15 => exact (show jm R' 0 15 = 0 from rfl).trans (show 0 = jm R 0 15 from rfl)
    | 16 => exact ho 6 (by omega)
    | 17 => exact ho 1 (by omega)
    | j + 18 => exact (show jm R' 0 (j + 18) = 0 from rfl).trans (show 0 = jm R 0 (j + 18) from rfl)
  | 1 =>
    rw [if_neg (by omega)]
    show (if j < 8 then R' (7 + 6 * j) else 0) = (if j < 8 then R (7 + 6 * j) else 0)
    split
    · exact ho _ (by omega)
    · rfl
  | 2 =>
    rw [if_pos rfl]
    show (if j < 8 then R' (8 + 6 * j) else 0) = _
    by_cases hj : j = k
    · subst hj
      rw [if_pos hk, if_pos rfl, hv]
    · rw [if_neg hj]
      show _ = (if j < 8 then R (8 + 6 * j) else 0)
      split
      · exact ho _ (by omega)
      · rfl
  | 3 =>
    rw [if_neg (by omega)]
    show (if j < 8 then R' (9 + 6 * j) else 0) = (if j < 8 then R (9 + 6 * j) else 0)
    split
    · exact ho _ (by omega)
    · rfl
  | 4 =>
    rw [if_neg (by omega)]
    show (if j < 8 then R' (10 + 6 * j) else 0) = (if j < 8 then R (10 + 6 * j) else 0)
    split
    · exact ho _ (by omega)
    · rfl
  | 5 =>
    rw [if_neg (by omega)]
    show (if j = 0 then R' 125 else 0) = (if j = 0 then R 125 else 0)
    rw [ho 125 (by omega)]
  | 6 =>
    rw [if_neg (by omega)]
    show (if j < nN (R' 125) then cM (R' (126 + j)) (R' (176 + j)) else 0) = (if j < nN (R 125) then cM (R (126 + j)) (R (176 + j)) else 0)
    rw [ho 125 (by omega), ho (126 + j) (by omega), ho (176 + j) (by omega)]
  | 7 =>
    rw [if_neg (by omega)]
    show (if j = 0 then R' 226 else 0) = (if j = 0 then R 226 else 0)
    rw [ho 226 (by omega)]
  | 8 =>
    rw [if_neg (by omega)]
    show (if j < nN (R' 226) then cM (R' (227 + j)) (R' (277 + j)) else 0) = (if j < nN (R 226) then cM (R (227 + j)) (R (277 + j)) else 0)
    rw [ho 226 (by omega), ho (227 + j) (by omega), ho (277 + j) (by omega)]
  | 9 =>
    rw [if_neg (by omega)]
    show (if j < 50 then R' (55 + j) else 0) = (if j < 50 then R (55 + j) else 0)
    split
    · exact ho _ (by omega)
    · rfl
  | 10 =>
    rw [if_neg (by omega)]
    show (if j < 20 then R' (105 + j) else 0) = (if j < 20 then R (105 + j) else 0)
    split
    · exact ho _ (by omega)
    · rfl
  | i + 11 =>
    rw [if_neg (by omega)]; exact (show jm R' (i + 11) j = 0 from rfl).trans (show 0 = jm R (i + 11) j from rfl)
theorem jm_uM {R : Nat → Int32} {v : Int32} {k : Nat} (hk : k < 8) : jm (u1 R (8 + 6 * k) v) = ud (jm R) 2 k v := jm_uM_r hk rfl
theorem jm_uSc_r {R R' : Nat → Int32} {v : Int32} {k : Nat} (hk : k < 8) (hR : R' = u1 R (9 + 6 * k) v) : jm R' = ud (jm R) 3 k v := by
  have ho : ∀ q, q ≠ 9 + 6 * k → R' q = R q := fun q hq => by rw [hR]; exact u1_ne hq
  have hv : R' (9 + 6 * k) = v := by rw [hR, u1_same]
  funext i j
  rw [ud_at]
  have e2 : R' 2 = R 2 := ho _ (by omega)
  have e6 : rB R' 11 (nN (R' 2)) = rB R 11 (nN (R 2)) := by rw [e2]; exact rB_cong (fun i hi => ho _ (by omega))
  have e7 : rB R' 12 (nN (R' 2)) = rB R 12 (nN (R 2)) := by rw [e2]; exact rB_cong (fun i hi => ho _ (by omega))
  clear hR
  match i with
  | 0 =>
    rw [if_neg (by omega)]
    match j with
    | 0 => exact (show jm R' 0 0 = 0 from rfl).trans (show 0 = jm R 0 0 from rfl)
    | 1 => exact ho 2 (by omega)
    | 2 => exact (show jm R' 0 2 = 0 from rfl).trans (show 0 = jm R 0 2 from rfl)
    | 3 => exact (show jm R' 0 3 = 0 from rfl).trans (show 0 = jm R 0 3 from rfl)
    | 4 => exact (show jm R' 0 4 = 0 from rfl).trans (show 0 = jm R 0 4 from rfl)
    | 5 => exact (show jm R' 0 5 = 0 from rfl).trans (show 0 = jm R 0 5 from rfl)
    | 6 => exact e6
    | 7 => exact e7
    | 8 => exact ho 3 (by omega)
    | 9 => exact ho 4 (by omega)
    | 10 => exact ho 0 (by omega)
    | 11 => exact (show jm R' 0 11 = 0 from rfl).trans (show 0 = jm R 0 11 from rfl)
    | 12 => exact (show jm R' 0 12 = 0 from rfl).trans (show 0 = jm R 0 12 from rfl)
    | 13 => exact (show jm R' 0 13 = 0 from rfl).trans (show 0 = jm R 0 13 from rfl)
    | 14 => exact ho 5 (by omega)
    | 15 => exact (show jm R' 0 15 = 0 from rfl).trans (show 0 = jm R 0 15 from rfl)
    | 16 => exact ho 6 (by omega)
    | 17 => exact ho 1 (by omega)
    | j + 18 => exact (show jm R' 0 (j + 18) = 0 from rfl).trans (show 0 = jm R 0 (j + 18) from rfl)
  | 1 =>
    rw [if_neg (by omega)]
    show (if j < 8 then R' (7 + 6 * j) else 0) = (if j < 8 then R (7 + 6 * j) else 0)
    split
    · exact ho _ (by omega)
    · rfl
  | 2 =>
    rw [if_neg (by omega)]
    show (if j < 8 then R' (8 + 6 * j) else 0) = (if j < 8 then R (8 + 6 * j) else 0)
    split
    · exact ho _ (by omega)
    · rfl
  | 3 =>
    rw [if_pos rfl]
    show (if j < 8 then R' (9 + 6 * j) else 0) = _
    by_cases hj : j = k
    · subst hj
      rw [if_pos hk, if_pos rfl, hv]
    · rw [if_neg hj]
      show _ = (if j < 8 then R (9 + 6 * j) else 0)
      split
      · exact ho _ (by omega)
      · rfl
  | 4 =>
    rw [if_neg (by omega)]
    show (if j < 8 then R' (10 + 6 * j) else 0) = (if j < 8 then R (10 + 6 * j) else 0)
    split
    · exact ho _ (by omega)
    · rfl
  | 5 =>
    rw [if_neg (by omega)]
    show (if j = 0 then R' 125 else 0) = (if j = 0 then R 125 else 0)
    rw [ho 125 (by omega)]
  | 6 =>
    rw [if_neg (by omega)]
    show (if j < nN (R' 125) then cM (R' (126 + j)) (R' (176 + j)) else 0) = (if j < nN (R 125) then cM (R (126 + j)) (R (176 + j)) else 0)
    rw [ho 125 (by omega), ho (126 + j) (by omega), ho (176 + j) (by omega)]
  | 7 =>
    rw [if_neg (by omega)]
    show (if j = 0 then R' 226 else 0) = (if j = 0 then R 226 else 0)
    rw [ho 226 (by omega)]
  | 8 =>
    rw [if_neg (by omega)]
    show (if j < nN (R' 226) then cM (R' (227 + j)) (R' (277 + j)) else 0) = (if j < nN (R 226) then cM (R (227 + j)) (R (277 + j)) else 0)
    rw [ho 226 (by omega), ho (227 + j) (by omega), ho (277 + j) (by omega)]
  | 9 =>
    rw [if_neg (by omega)]
    show (if j < 50 then R' (55 + j) else 0) = (if j < 50 then R (55 + j) else 0)
    split
    · exact ho _ (by omega)
    · rfl
  | 10 =>
    rw [if_neg (by omega)]
    show (if j < 20 then R' (105 + j) else 0) = (if j < 20 then R (105 + j) else 0)
    split
    · exact ho _ (by omega)
    · rfl
  | i + 11 =>
    rw [if_neg (by omega)]; exact (show jm R' (i + 11) j = 0 from rfl).trans (show 0 = jm R (i + 11) j from rfl)
theorem jm_uSc {R : Nat → Int32} {v : Int32} {k : Nat} (hk : k < 8) : jm (u1 R (9 + 6 * k) v) = ud (jm R) 3 k v := jm_uSc_r hk rfl
theorem jm_uNeeds_r {R R' : Nat → Int32} {v : Int32} {k : Nat} (hk : k < 8) (hR : R' = u1 R (10 + 6 * k) v) : jm R' = ud (jm R) 4 k v := by
  have ho : ∀ q, q ≠ 10 + 6 * k → R' q = R q := fun q hq => by rw [hR]; exact u1_ne hq
  have hv : R' (10 + 6 * k) = v := by rw [hR, u1_same]
  funext i j
  rw [ud_at]
  have e2 : R' 2 = R 2 := ho _ (by omega)
  have e6 : rB R' 11 (nN (R' 2)) = rB R 11 (nN (R 2)) := by rw [e2]; exact rB_cong (fun i hi => ho _ (by omega))
  have e7 : rB R' 12 (nN (R' 2)) = rB R 12 (nN (R 2)) := by rw [e2]; exact rB_cong (fun i hi => ho _ (by omega))
  clear hR
  match i with
  | 0 =>
    rw [if_neg (by omega)]
    match j with
    | 0 => exact (show jm R' 0 0 = 0 from rfl).trans (show 0 = jm R 0 0 from rfl)
    | 1 => exact ho 2 (by omega)
    | 2 => exact (show jm R' 0 2 = 0 from rfl).trans (show 0 = jm R 0 2 from rfl)
    | 3 => exact (show jm R' 0 3 = 0 from rfl).trans (show 0 = jm R 0 3 from rfl)
    | 4 => exact (show jm R' 0 4 = 0 from rfl).trans (show 0 = jm R 0 4 from rfl)
    | 5 => exact (show jm R' 0 5 = 0 from rfl).trans (show 0 = jm R 0 5 from rfl)
    | 6 => exact e6
    | 7 => exact e7
    | 8 => exact ho 3 (by omega)
    | 9 => exact ho 4 (by omega)
    | 10 => exact ho 0 (by omega)
    | 11 => exact (show jm R' 0 11 = 0 from rfl).trans (show 0 = jm R 0 11 from rfl)
    | 12 => exact (show jm R' 0 12 = 0 from rfl).trans (show 0 = jm R 0 12 from rfl)
    | 13 => exact (show jm R' 0 13 = 0 from rfl).trans (show 0 = jm R 0 13 from rfl)
    | 14 => exact ho 5 (by omega)
    | 15 => exact (show jm R' 0 15 = 0 from rfl).trans (show 0 = jm R 0 15 from rfl)
    | 16 => exact ho 6 (by omega)
    | 17 => exact ho 1 (by omega)
    | j + 18 => exact (show jm R' 0 (j + 18) = 0 from rfl).trans (show 0 = jm R 0 (j + 18) from rfl)
  | 1 =>
    rw [if_neg (by omega)]
    show (if j < 8 then R' (7 + 6 * j) else 0) = (if j < 8 then R (7 + 6 * j) else 0)
    split
    · exact ho _ (by omega)
    · rfl
  | 2 =>
    rw [if_neg (by omega)]
    show (if j < 8 then R' (8 + 6 * j) else 0) = (if j < 8 then R (8 + 6 * j) else 0)
    split
    · exact ho _ (by omega)
    · rfl
  | 3 =>
    rw [if_neg (by omega)]
    show (if j < 8 then R' (9 + 6 * j) else 0) = (if j < 8 then R (9 + 6 * j) else 0)
    split
    · exact ho _ (by omega)
    · rfl
  | 4 =>
    rw [if_pos rfl]
    show (if j < 8 then R' (10 + 6 * j) else 0) = _
    by_cases hj : j = k
    · subst hj
      rw [if_pos hk, if_pos rfl, hv]
    · rw [if_neg hj]
      show _ = (if j < 8 then R (10 + 6 * j) else 0)
      split
      · exact ho _ (by omega)
      · rfl
  | 5 =>
    rw [if_neg (by omega)]
    show (if j = 0 then R' 125 else 0) = (if j = 0 then R 125 else 0)
    rw [ho 125 (by omega)]
  | 6 =>
    rw [if_neg (by omega)]
    show (if j < nN (R' 125) then cM (R' (126 + j)) (R' (176 + j)) else 0) = (if j < nN (R 125) then cM (R (126 + j)) (R (176 + j)) else 0)
    rw [ho 125 (by omega), ho (126 + j) (by omega), ho (176 + j) (by omega)]
  | 7 =>
    rw [if_neg (by omega)]
    show (if j = 0 then R' 226 else 0) = (if j = 0 then R 226 else 0)
    rw [ho 226 (by omega)]
  | 8 =>
    rw [if_neg (by omega)]
    show (if j < nN (R' 226) then cM (R' (227 + j)) (R' (277 + j)) else 0) = (if j < nN (R 226) then cM (R (227 + j)) (R (277 + j)) else 0)
    rw [ho 226 (by omega), ho (227 + j) (by omega), ho (277 + j) (by omega)]
  | 9 =>
    rw [if_neg (by omega)]
    show (if j < 50 then R' (55 + j) else 0) = (if j < 50 then R (55 + j) else 0)
    split
    · exact ho _ (by omega)
    · rfl
  | 10 =>
    rw [if_neg (by omega)]
    show (if j < 20 then R' (105 + j) else 0) = (if j < 20 then R (105 + j) else 0)
    split
    · exact ho _ (by omega)
    · rfl
  | i + 11 =>
    rw [if_neg (by omega)]; exact (show jm R' (i + 11) j = 0 from rfl).trans (show 0 = jm R (i + 11) j from rfl)
theorem jm_uNeeds {R : Nat → Int32} {v : Int32} {k : Nat} (hk : k < 8) : jm (u1 R (10 + 6 * k) v) = ud (jm R) 4 k v := jm_uNeeds_r hk rfl
theorem jm_uTape_r {R R' : Nat → Int32} {v : Int32} {k : Nat} (hn : nN (R 2) ≤ 8) (hk : k < 50) (hR : R' = u1 R (55 + k) v) : jm R' = ud (jm R) 9 k v := by
  have ho : ∀ q, q ≠ 55 + k → R' q = R q := fun q hq => by rw [hR]; exact u1_ne hq
  have hv : R' (55 + k) = v := by rw [hR, u1_same]
  funext i j
  rw [ud_at]
  have e2 : R' 2 = R 2 := ho _ (by omega)
  have e6 : rB R' 11 (nN (R' 2)) = rB R 11 (nN (R 2)) := by rw [e2]; exact rB_cong (fun i hi => ho _ (by omega))
  have e7 : rB R' 12 (nN (R' 2)) = rB R 12 (nN (R 2)) := by rw [e2]; exact rB_cong (fun i hi => ho _ (by omega))
  clear hR
  match i with
  | 0 =>
    rw [if_neg (by omega)]
    match j with
    | 0 => exact (show jm R' 0 0 = 0 from rfl).trans (show 0 = jm R 0 0 from rfl)
    | 1 => exact ho 2 (by omega)
    | 2 => exact (show jm R' 0 2 = 0 from rfl).trans (show 0 = jm R 0 2 from rfl)
    | 3 => exact (show jm R' 0 3 = 0 from rfl).trans (show 0 = jm R 0 3 from rfl)
    | 4 => exact (show jm R' 0 4 = 0 from rfl).trans (show 0 = jm R 0 4 from rfl)
    | 5 => exact (show jm R' 0 5 = 0 from rfl).trans (show 0 = jm R 0 5 from rfl)
    | 6 => exact e6
    | 7 => exact e7
    | 8 => exact ho 3 (by omega)
    | 9 => exact ho 4 (by omega)
    | 10 => exact ho 0 (by omega)
    | 11 => exact (show jm R' 0 11 = 0 from rfl).trans (show 0 = jm R 0 11 from rfl)
    | 12 => exact (show jm R' 0 12 = 0 from rfl).trans (show 0 = jm R 0 12 from rfl)
    | 13 => exact (show jm R' 0 13 = 0 from rfl).trans (show 0 = jm R 0 13 from rfl)
    | 14 => exact ho 5 (by omega)
    | 15 => exact (show jm R' 0 15 = 0 from rfl).trans (show 0 = jm R 0 15 from rfl)
    | 16 => exact ho 6 (by omega)
    | 17 => exact ho 1 (by omega)
    | j + 18 => exact (show jm R' 0 (j + 18) = 0 from rfl).trans (show 0 = jm R 0 (j + 18) from rfl)
  | 1 =>
    rw [if_neg (by omega)]
    show (if j < 8 then R' (7 + 6 * j) else 0) = (if j < 8 then R (7 + 6 * j) else 0)
    split
    · exact ho _ (by omega)
    · rfl
  | 2 =>
    rw [if_neg (by omega)]
    show (if j < 8 then R' (8 + 6 * j) else 0) = (if j < 8 then R (8 + 6 * j) else 0)
    split
    · exact ho _ (by omega)
    · rfl
  | 3 =>
    rw [if_neg (by omega)]
    show (if j < 8 then R' (9 + 6 * j) else 0) = (if j < 8 then R (9 + 6 * j) else 0)
    split
    · exact ho _ (by omega)
    · rfl
  | 4 =>
    rw [if_neg (by omega)]
    show (if j < 8 then R' (10 + 6 * j) else 0) = (if j < 8 then R (10 + 6 * j) else 0)
    split
    · exact ho _ (by omega)
    · rfl
  | 5 =>
    rw [if_neg (by omega)]
    show (if j = 0 then R' 125 else 0) = (if j = 0 then R 125 else 0)
    rw [ho 125 (by omega)]
  | 6 =>
    rw [if_neg (by omega)]
    show (if j < nN (R' 125) then cM (R' (126 + j)) (R' (176 + j)) else 0) = (if j < nN (R 125) then cM (R (126 + j)) (R (176 + j)) else 0)
    rw [ho 125 (by omega), ho (126 + j) (by omega), ho (176 + j) (by omega)]
  | 7 =>
    rw [if_neg (by omega)]
    show (if j = 0 then R' 226 else 0) = (if j = 0 then R 226 else 0)
    rw [ho 226 (by omega)]
  | 8 =>
    rw [if_neg (by omega)]
    show (if j < nN (R' 226) then cM (R' (227 + j)) (R' (277 + j)) else 0) = (if j < nN (R 226) then cM (R (227 + j)) (R (277 + j)) else 0)
    rw [ho 226 (by omega), ho (227 + j) (by omega), ho (277 + j) (by omega)]
  | 9 =>
    rw [if_pos rfl]
    show (if j < 50 then R' (55 + j) else 0) = _
    by_cases hj : j = k
    · subst hj
      rw [if_pos hk, if_pos rfl, hv]
    · rw [if_neg hj]
      show _ = (if j < 50 then R (55 + j) else 0)
      split
      · exact ho _ (by omega)
      · rfl
  | 10 =>
    rw [if_neg (by omega)]
    show (if j < 20 then R' (105 + j) else 0) = (if j < 20 then R (105 + j) else 0)
    split
    · exact ho _ (by omega)
    · rfl
  | i + 11 =>
    rw [if_neg (by omega)]; exact (show jm R' (i + 11) j = 0 from rfl).trans (show 0 = jm R (i + 11) j from rfl)
theorem jm_uTape {R : Nat → Int32} {v : Int32} {k : Nat} (hn : nN (R 2) ≤ 8) (hk : k < 50) : jm (u1 R (55 + k) v) = ud (jm R) 9 k v := jm_uTape_r hn hk rfl
theorem jm_uWait_r {R R' : Nat → Int32} {v : Int32} {k : Nat} (hn : nN (R 2) ≤ 8) (hk : k < 20) (hR : R' = u1 R (105 + k) v) : jm R' = ud (jm R) 10 k v := by
  have ho : ∀ q, q ≠ 105 + k → R' q = R q := fun q hq => by rw [hR]; exact u1_ne hq
  have hv : R' (105 + k) = v := by rw [hR, u1_same]
  funext i j
  rw [ud_at]
  have e2 : R' 2 = R 2 := ho _ (by omega)
  have e6 : rB R' 11 (nN (R' 2)) = rB R 11 (nN (R 2)) := by rw [e2]; exact rB_cong (fun i hi => ho _ (by omega))
  have e7 : rB R' 12 (nN (R' 2)) = rB R 12 (nN (R 2)) := by rw [e2]; exact rB_cong (fun i hi => ho _ (by omega))
  clear hR
  match i with
  | 0 =>
    rw [if_neg (by omega)]
    match j with
    | 0 => exact (show jm R' 0 0 = 0 from rfl).trans (show 0 = jm R 0 0 from rfl)
    | 1 => exact ho 2 (by omega)
    | 2 => exact (show jm R' 0 2 = 0 from rfl).trans (show 0 = jm R 0 2 from rfl)
    | 3 => exact (show jm R' 0 3 = 0 from rfl).trans (show 0 = jm R 0 3 from rfl)
    | 4 => exact (show jm R' 0 4 = 0 from rfl).trans (show 0 = jm R 0 4 from rfl)
    | 5 => exact (show jm R' 0 5 = 0 from rfl).trans (show 0 = jm R 0 5 from rfl)
    | 6 => exact e6
    | 7 => exact e7
    | 8 => exact ho 3 (by omega)
    | 9 => exact ho 4 (by omega)
    | 10 => exact ho 0 (by omega)
    | 11 => exact (show jm R' 0 11 = 0 from rfl).trans (show 0 = jm R 0 11 from rfl)
    | 12 => exact (show jm R' 0 12 = 0 from rfl).trans (show 0 = jm R 0 12 from rfl)
    | 13 => exact (show jm R' 0 13 = 0 from rfl).trans (show 0 = jm R 0 13 from rfl)
    | 14 => exact ho 5 (by omega)
    | 15 => exact (show jm R' 0 15 = 0 from rfl).trans (show 0 = jm R 0 15 from rfl)
    | 16 => exact ho 6 (by omega)
    | 17 => exact ho 1 (by omega)
    | j + 18 => exact (show jm R' 0 (j + 18) = 0 from rfl).trans (show 0 = jm R 0 (j + 18) from rfl)
  | 1 =>
    rw [if_neg (by omega)]
    show (if j < 8 then R' (7 + 6 * j) else 0) = (if j < 8 then R (7 + 6 * j) else 0)
    split
    · exact ho _ (by omega)
    · rfl
  | 2 =>
    rw [if_neg (by omega)]
    show (if j < 8 then R' (8 + 6 * j) else 0) = (if j < 8 then R (8 + 6 * j) else 0)
    split
    · exact ho _ (by omega)
    · rfl
  | 3 =>
    rw [if_neg (by omega)]
    show (if j < 8 then R' (9 + 6 * j) else 0) = (if j < 8 then R (9 + 6 * j) else 0)
    split
    · exact ho _ (by omega)
    · rfl
  | 4 =>
    rw [if_neg (by omega)]
    show (if j < 8 then R' (10 + 6 * j) else 0) = (if j < 8 then R (10 + 6 * j) else 0)
    split
    · exact ho _ (by omega)
    · rfl
  | 5 =>
    rw [if_neg (by omega)]
    show (if j = 0 then R' 125 else 0) = (if j = 0 then R 125 else 0)
    rw [ho 125 (by omega)]
  | 6 =>
    rw [if_neg (by omega)]
    show (if j < nN (R' 125) then cM (R' (126 + j)) (R' (176 + j)) else 0) = (if j < nN (R 125) then cM (R (126 + j)) (R (176 + j)) else 0)
    rw [ho 125 (by omega), ho (126 + j) (by omega), ho (176 + j) (by omega)]
  | 7 =>
    rw [if_neg (by omega)]
    show (if j = 0 then R' 226 else 0) = (if j = 0 then R 226 else 0)
    rw [ho 226 (by omega)]
  | 8 =>
    rw [if_neg (by omega)]
    show (if j < nN (R' 226) then cM (R' (227 + j)) (R' (277 + j)) else 0) = (if j < nN (R 226) then cM (R (227 + j)) (R (277 + j)) else 0)
    rw [ho 226 (by omega), ho (227 + j) (by omega), ho (277 + j) (by omega)]
  | 9 =>
    rw [if_neg (by omega)]
    show (if j < 50 then R' (55 + j) else 0) = (if j < 50 then R (55 + j) else 0)
    split
    · exact ho _ (by omega)
    · rfl
  | 10 =>
    rw [if_pos rfl]
    show (if j < 20 then R' (105 + j) else 0) = _
    by_cases hj : j = k
    · subst hj
      rw [if_pos hk, if_pos rfl, hv]
    · rw [if_neg hj]
      show _ = (if j < 20 then R (105 + j) else 0)
      split
      · exact ho _ (by omega)
      · rfl
  | i + 11 =>
    rw [if_neg (by omega)]; exact (show jm R' (i + 11) j = 0 from rfl).trans (show 0 = jm R (i + 11) j from rfl)
theorem jm_uWait {R : Nat → Int32} {v : Int32} {k : Nat} (hn : nN (R 2) ≤ 8) (hk : k < 20) : jm (u1 R (105 + k) v) = ud (jm R) 10 k v := jm_uWait_r hn hk rfl
theorem jm_uDone_r {R R' : Nat → Int32} {k : Nat} {c : Bool} (hn : nN (R 2) ≤ 8) (hk : k < nN (R 2)) (hf : ∀ i, i < nN (R 2) → fl (R (11 + 6 * i))) (hR : R' = u1 R (11 + 6 * k) (bI c)) : jm R' = ud (jm R) 0 6 (sWith (jm R 0 6) (nI k) c) := by
  have ho : ∀ q, q ≠ 11 + 6 * k → R' q = R q := fun q hq => by rw [hR]; exact u1_ne hq
  have hv : R' (11 + 6 * k) = (bI c) := by rw [hR, u1_same]
  funext i j
  rw [ud_at]
  have e2 : R' 2 = R 2 := ho _ (by omega)
  have e6 : rB R' 11 (nN (R' 2)) = sWith (jm R 0 6) (nI k) c := by rw [e2, hR]; exact rB_set hn hk hf
  have e7 : rB R' 12 (nN (R' 2)) = rB R 12 (nN (R 2)) := by rw [e2]; exact rB_cong (fun i hi => ho _ (by omega))
  clear hR
  match i with
  | 0 =>
    rw [if_pos rfl]
    match j with
    | 0 => rw [if_neg (by omega)]; exact (show jm R' 0 0 = 0 from rfl).trans (show 0 = jm R 0 0 from rfl)
    | 1 => rw [if_neg (by omega)]; exact ho 2 (by omega)
    | 2 => rw [if_neg (by omega)]; exact (show jm R' 0 2 = 0 from rfl).trans (show 0 = jm R 0 2 from rfl)
    | 3 => rw [if_neg (by omega)]; exact (show jm R' 0 3 = 0 from rfl).trans (show 0 = jm R 0 3 from rfl)
    | 4 => rw [if_neg (by omega)]; exact (show jm R' 0 4 = 0 from rfl).trans (show 0 = jm R 0 4 from rfl)
    | 5 => rw [if_neg (by omega)]; exact (show jm R' 0 5 = 0 from rfl).trans (show 0 = jm R 0 5 from rfl)
    | 6 => rw [if_pos rfl]; exact e6
    | 7 => rw [if_neg (by omega)]; exact e7
    | 8 => rw [if_neg (by omega)]; exact ho 3 (by omega)
    | 9 => rw [if_neg (by omega)]; exact ho 4 (by omega)
    | 10 => rw [if_neg (by omega)]; exact ho 0 (by omega)
    | 11 => rw [if_neg (by omega)]; exact (show jm R' 0 11 = 0 from rfl).trans (show 0 = jm R 0 11 from rfl)
    | 12 => rw [if_neg (by omega)]; exact (show jm R' 0 12 = 0 from rfl).trans (show 0 = jm R 0 12 from rfl)
    | 13 => rw [if_neg (by omega)]; exact (show jm R' 0 13 = 0 from rfl).trans (show 0 = jm R 0 13 from rfl)
    | 14 => rw [if_neg (by omega)]; exact ho 5 (by omega)
    | 15 => rw [if_neg (by omega)]; exact (show jm R' 0 15 = 0 from rfl).trans (show 0 = jm R 0 15 from rfl)
    | 16 => rw [if_neg (by omega)]; exact ho 6 (by omega)
    | 17 => rw [if_neg (by omega)]; exact ho 1 (by omega)
    | j + 18 => rw [if_neg (by omega)]; exact (show jm R' 0 (j + 18) = 0 from rfl).trans (show 0 = jm R 0 (j + 18) from rfl)
  | 1 =>
    rw [if_neg (by omega)]
    show (if j < 8 then R' (7 + 6 * j) else 0) = (if j < 8 then R (7 + 6 * j) else 0)
    split
    · exact ho _ (by omega)
    · rfl
  | 2 =>
    rw [if_neg (by omega)]
    show (if j < 8 then R' (8 + 6 * j) else 0) = (if j < 8 then R (8 + 6 * j) else 0)
    split
    · exact ho _ (by omega)
    · rfl
  | 3 =>
    rw [if_neg (by omega)]
    show (if j < 8 then R' (9 + 6 * j) else 0) = (if j < 8 then R (9 + 6 * j) else 0)
    split
    · exact ho _ (by omega)
    · rfl
  | 4 =>
    rw [if_neg (by omega)]
    show (if j < 8 then R' (10 + 6 * j) else 0) = (if j < 8 then R (10 + 6 * j) else 0)
    split
    · exact ho _ (by omega)
    · rfl
  | 5 =>
    rw [if_neg (by omega)]
    show (if j = 0 then R' 125 else 0) = (if j = 0 then R 125 else 0)
    rw [ho 125 (by omega)]
  | 6 =>
    rw [if_neg (by omega)]
    show (if j < nN (R' 125) then cM (R' (126 + j)) (R' (176 + j)) else 0) = (if j < nN (R 125) then cM (R (126 + j)) (R (176 + j)) else 0)
    rw [ho 125 (by omega), ho (126 + j) (by omega), ho (176 + j) (by omega)]
  | 7 =>
    rw [if_neg (by omega)]
    show (if j = 0 then R' 226 else 0) = (if j = 0 then R 226 else 0)
    rw [ho 226 (by omega)]
  | 8 =>
    rw [if_neg (by omega)]
    show (if j < nN (R' 226) then cM (R' (227 + j)) (R' (277 + j)) else 0) = (if j < nN (R 226) then cM (R (227 + j)) (R (277 + j)) else 0)
    rw [ho 226 (by omega), ho (227 + j) (by omega), ho (277 + j) (by omega)]
  | 9 =>
    rw [if_neg (by omega)]
    show (if j < 50 then R' (55 + j) else 0) = (if j < 50 then R (55 + j) else 0)
    split
    · exact ho _ (by omega)
    · rfl
  | 10 =>
    rw [if_neg (by omega)]
    show (if j < 20 then R' (105 + j) else 0) = (if j < 20 then R (105 + j) else 0)
    split
    · exact ho _ (by omega)
    · rfl
  | i + 11 =>
    rw [if_neg (by omega)]; exact (show jm R' (i + 11) j = 0 from rfl).trans (show 0 = jm R (i + 11) j from rfl)
theorem jm_uDone {R : Nat → Int32} {k : Nat} {c : Bool} (hn : nN (R 2) ≤ 8) (hk : k < nN (R 2)) (hf : ∀ i, i < nN (R 2) → fl (R (11 + 6 * i))) : jm (u1 R (11 + 6 * k) (bI c)) = ud (jm R) 0 6 (sWith (jm R 0 6) (nI k) c) := jm_uDone_r hn hk hf rfl
theorem jm_uWrong_r {R R' : Nat → Int32} {k : Nat} {c : Bool} (hn : nN (R 2) ≤ 8) (hk : k < nN (R 2)) (hf : ∀ i, i < nN (R 2) → fl (R (12 + 6 * i))) (hR : R' = u1 R (12 + 6 * k) (bI c)) : jm R' = ud (jm R) 0 7 (sWith (jm R 0 7) (nI k) c) := by
  have ho : ∀ q, q ≠ 12 + 6 * k → R' q = R q := fun q hq => by rw [hR]; exact u1_ne hq
  have hv : R' (12 + 6 * k) = (bI c) := by rw [hR, u1_same]
  funext i j
  rw [ud_at]
  have e2 : R' 2 = R 2 := ho _ (by omega)
  have e6 : rB R' 11 (nN (R' 2)) = rB R 11 (nN (R 2)) := by rw [e2]; exact rB_cong (fun i hi => ho _ (by omega))
  have e7 : rB R' 12 (nN (R' 2)) = sWith (jm R 0 7) (nI k) c := by rw [e2, hR]; exact rB_set hn hk hf
  clear hR
  match i with
  | 0 =>
    rw [if_pos rfl]
    match j with
    | 0 => rw [if_neg (by omega)]; exact (show jm R' 0 0 = 0 from rfl).trans (show 0 = jm R 0 0 from rfl)
    | 1 => rw [if_neg (by omega)]; exact ho 2 (by omega)
    | 2 => rw [if_neg (by omega)]; exact (show jm R' 0 2 = 0 from rfl).trans (show 0 = jm R 0 2 from rfl)
    | 3 => rw [if_neg (by omega)]; exact (show jm R' 0 3 = 0 from rfl).trans (show 0 = jm R 0 3 from rfl)
    | 4 => rw [if_neg (by omega)]; exact (show jm R' 0 4 = 0 from rfl).trans (show 0 = jm R 0 4 from rfl)
    | 5 => rw [if_neg (by omega)]; exact (show jm R' 0 5 = 0 from rfl).trans (show 0 = jm R 0 5 from rfl)
    | 6 => rw [if_neg (by omega)]; exact e6
    | 7 => rw [if_pos rfl]; exact e7
    | 8 => rw [if_neg (by omega)]; exact ho 3 (by omega)
    | 9 => rw [if_neg (by omega)]; exact ho 4 (by omega)
    | 10 => rw [if_neg (by omega)]; exact ho 0 (by omega)
    | 11 => rw [if_neg (by omega)]; exact (show jm R' 0 11 = 0 from rfl).trans (show 0 = jm R 0 11 from rfl)
    | 12 => rw [if_neg (by omega)]; exact (show jm R' 0 12 = 0 from rfl).trans (show 0 = jm R 0 12 from rfl)
    | 13 => rw [if_neg (by omega)]; exact (show jm R' 0 13 = 0 from rfl).trans (show 0 = jm R 0 13 from rfl)
    | 14 => rw [if_neg (by omega)]; exact ho 5 (by omega)
    | 15 => rw [if_neg (by omega)]; exact (show jm R' 0 15 = 0 from rfl).trans (show 0 = jm R 0 15 from rfl)
    | 16 => rw [if_neg (by omega)]; exact ho 6 (by omega)
    | 17 => rw [if_neg (by omega)]; exact ho 1 (by omega)
    | j + 18 => rw [if_neg (by omega)]; exact (show jm R' 0 (j + 18) = 0 from rfl).trans (show 0 = jm R 0 (j + 18) from rfl)
  | 1 =>
    rw [if_neg (by omega)]
    show (if j < 8 then R' (7 + 6 * j) else 0) = (if j < 8 then R (7 + 6 * j) else 0)
    split
    · exact ho _ (by omega)
    · rfl
  | 2 =>
    rw [if_neg (by omega)]
    show (if j < 8 then R' (8 + 6 * j) else 0) = (if j < 8 then R (8 + 6 * j) else 0)
    split
    · exact ho _ (by omega)
    · rfl
  | 3 =>
    rw [if_neg (by omega)]
    show (if j < 8 then R' (9 + 6 * j) else 0) = (if j < 8 then R (9 + 6 * j) else 0)
    split
    · exact ho _ (by omega)
    · rfl
  | 4 =>
    rw [if_neg (by omega)]
    show (if j < 8 then R' (10 + 6 * j) else 0) = (if j < 8 then R (10 + 6 * j) else 0)
    split
    · exact ho _ (by omega)
    · rfl
  | 5 =>
    rw [if_neg (by omega)]
    show (if j = 0 then R' 125 else 0) = (if j = 0 then R 125 else 0)
    rw [ho 125 (by omega)]
  | 6 =>
    rw [if_neg (by omega)]
    show (if j < nN (R' 125) then cM (R' (126 + j)) (R' (176 + j)) else 0) = (if j < nN (R 125) then cM (R (126 + j)) (R (176 + j)) else 0)
    rw [ho 125 (by omega), ho (126 + j) (by omega), ho (176 + j) (by omega)]
  | 7 =>
    rw [if_neg (by omega)]
    show (if j = 0 then R' 226 else 0) = (if j = 0 then R 226 else 0)
    rw [ho 226 (by omega)]
  | 8 =>
    rw [if_neg (by omega)]
    show (if j < nN (R' 226) then cM (R' (227 + j)) (R' (277 + j)) else 0) = (if j < nN (R 226) then cM (R (227 + j)) (R (277 + j)) else 0)
    rw [ho 226 (by omega), ho (227 + j) (by omega), ho (277 + j) (by omega)]
  | 9 =>
    rw [if_neg (by omega)]
    show (if j < 50 then R' (55 + j) else 0) = (if j < 50 then R (55 + j) else 0)
    split
    · exact ho _ (by omega)
    · rfl
  | 10 =>
    rw [if_neg (by omega)]
    show (if j < 20 then R' (105 + j) else 0) = (if j < 20 then R (105 + j) else 0)
    split
    · exact ho _ (by omega)
    · rfl
  | i + 11 =>
    rw [if_neg (by omega)]; exact (show jm R' (i + 11) j = 0 from rfl).trans (show 0 = jm R (i + 11) j from rfl)
theorem jm_uWrong {R : Nat → Int32} {k : Nat} {c : Bool} (hn : nN (R 2) ≤ 8) (hk : k < nN (R 2)) (hf : ∀ i, i < nN (R 2) → fl (R (12 + 6 * i))) : jm (u1 R (12 + 6 * k) (bI c)) = ud (jm R) 0 7 (sWith (jm R 0 7) (nI k) c) := jm_uWrong_r hn hk hf rfl
end
section
/-! THE REFERENCE: its laws worked out -/
section JM
variable {R : Nat → Int32} {k : Nat}
theorem jm1 (h : k < 8) : jm R 1 k = R (7 + 6 * k) := if_pos h
theorem jm2 (h : k < 8) : jm R 2 k = R (8 + 6 * k) := if_pos h
theorem jm3 (h : k < 8) : jm R 3 k = R (9 + 6 * k) := if_pos h
theorem jm4 (h : k < 8) : jm R 4 k = R (10 + 6 * k) := if_pos h
theorem jm5 : jm R 5 0 = R 125 := id rfl
theorem jm7 : jm R 7 0 = R 226 := id rfl
theorem jm6 (h : k < nN (R 125)) : jm R 6 k = cM (R (126 + k)) (R (176 + k)) := if_pos h
theorem jm8 (h : k < nN (R 226)) : jm R 8 k = cM (R (227 + k)) (R (277 + k)) := if_pos h
theorem jm9 (h : k < 50) : jm R 9 k = R (55 + k) := if_pos h
theorem jm10 (h : k < 20) : jm R 10 k = R (105 + k) := if_pos h
theorem jm01 : jm R 0 1 = R 2 := id rfl
theorem jm08 : jm R 0 8 = R 3 := id rfl
theorem jm09 : jm R 0 9 = R 4 := id rfl
theorem jm010 : jm R 0 10 = R 0 := id rfl
theorem jm014 : jm R 0 14 = R 5 := id rfl
theorem jm016 : jm R 0 16 = R 6 := id rfl
theorem jm017 : jm R 0 17 = R 1 := id rfl
theorem jm06 : jm R 0 6 = rB R 11 (nN (R 2)) := id rfl
theorem jm07 : jm R 0 7 = rB R 12 (nN (R 2)) := id rfl
end JM
def cF (R : Nat → Int32) (p : Nat) : Nat → Int32 := fun k => cM (R (p + 1 + k)) (R (p + 51 + k))
theorem okSg_f {g : Int32} (h : okSg g) : (¬ g = nI 1 ∧ ¬ g = nI 2 ∧ ¬ g = nI 3) ∧ (-g < -3 ∧ ¬ -g = -33) ∧ (¬ g = 1 ∧ ¬ g = 2 ∧ ¬ g = 3) := by
  rcases h with h | h | h | h | h | h | h | h | h | h <;> subst h <;> decide +kernel
theorem cM_1 {a w : Int32} (h : a = nI 1) : cM a w = w := by
  subst h
  exact if_pos (by decide +kernel)
theorem cM_2 {a w : Int32} (h : a = nI 2) : cM a w = -1 - w := by
  subst h
  exact (if_neg (by decide +kernel)).trans (if_pos (by decide +kernel))
theorem cM_3 {a w : Int32} (h : a = nI 3) : cM a w = -33 := by
  subst h
  exact (if_neg (by decide +kernel)).trans ((if_neg (by decide +kernel)).trans (if_pos (by decide +kernel)))
theorem cM_g {a w : Int32} (h : okSg a) : cM a w = -a := by
  obtain ⟨_, _, h1, h2, h3⟩ := okSg_f h
  exact (if_neg h1).trans ((if_neg h2).trans (if_neg h3))
theorem ge0_f {w : Int32} (h : ¬ w < 0) : ¬ w < -3 ∧ ¬ w = -3 ∧ ¬ w = -2 ∧ ¬ w = -1 := by
  have h0 : (0 : Int32) ≤ w := Int32.not_lt.mp h
  have h1 : (0 : Int) ≤ w.toInt := by
    have := Int32.le_iff_toInt_le.mp h0
    exact this
  refine ⟨fun hh => ?_, fun hh => ?_, fun hh => ?_, fun hh => ?_⟩
  · have h2 : w.toInt < (-3 : Int32).toInt := Int32.lt_iff_toInt_lt.mp hh
    have e : (-3 : Int32).toInt = -3 := by decide +kernel
    omega
  · subst hh; exact absurd h (by decide +kernel)
  · subst hh; exact absurd h (by decide +kernel)
  · subst hh; exact absurd h (by decide +kernel)
theorem sVal_p {w a b c : Int32} (h : ¬ w < 0) : sVal w a b c = w := by
  obtain ⟨_, h1, h2, h3⟩ := ge0_f h
  exact (if_neg h1).trans ((if_neg h2).trans (if_neg h3))
theorem nam_f {w : Int32} (h : w = nI 0 ∨ w = nI 1 ∨ w = nI 2) : ∃ j, j < 3 ∧ w = nI j := by
  rcases h with h | h | h
  · exact ⟨0, by omega, h⟩
  · exact ⟨1, by omega, h⟩
  · exact ⟨2, by omega, h⟩
theorem lt3 {q : Nat} (h : q < 3) : q = 0 ∨ q = 1 ∨ q = 2 := by omega
theorem sVal_n {j : Nat} (h : j < 3) {f : Nat → Int32} : sVal (-1 - nI j) (f 0) (f 1) (f 2) = f j := by
  rcases lt3 h with e | e | e <;> subst e
  · exact (if_neg (by decide +kernel)).trans ((if_neg (by decide +kernel)).trans (if_pos (by decide +kernel)))
  · exact (if_neg (by decide +kernel)).trans (if_pos (by decide +kernel))
  · exact if_pos (by decide +kernel)
theorem nam_lt {j : Nat} (h : j < 3) : ¬ -1 - nI j < -3 := by
  rcases lt3 h with e | e | e <;> subst e <;> decide +kernel
theorem RK.upd {R : Nat → Int32} {p : Nat} {v : Int32} {T T' : Nat} (h : RK T R) (hp : p < 125) (hf : ∀ i, i < 8 → 11 + 6 * i ≠ p ∧ 12 + 6 * i ≠ p) (hj : IJ T' (jm (u1 R p v))) : RK T' (u1 R p v) := by
  refine ⟨hj, ?_, ?_, ?_⟩
  · intro i hi
    rw [u1_ne (hf i hi).1, u1_ne (hf i hi).2]
    exact h.2.1 i hi
  · intro k hk
    rw [u1_ne (by omega)] at hk
    rw [u1_ne (by omega), u1_ne (by omega)]
    exact h.2.2.1 k hk
  · intro k hk
    rw [u1_ne (by omega)] at hk
    rw [u1_ne (by omega), u1_ne (by omega)]
    exact h.2.2.2 k hk
theorem RK.updF {R : Nat → Int32} {p : Nat} {v : Int32} {T T' : Nat} (h : RK T R) (hp : p < 125) (hv : fl v) (hj : IJ T' (jm (u1 R p v))) : RK T' (u1 R p v) := by
  refine ⟨hj, ?_, ?_, ?_⟩
  · intro i hi
    rw [u1_at, u1_at]
    refine ⟨?_, ?_⟩
    · split
      · exact hv
      · exact h.fD hi
    · split
      · exact hv
      · exact h.fW hi
  · intro k hk
    rw [u1_ne (by omega)] at hk
    rw [u1_ne (by omega), u1_ne (by omega)]
    exact h.2.2.1 k hk
  · intro k hk
    rw [u1_ne (by omega)] at hk
    rw [u1_ne (by omega), u1_ne (by omega)]
    exact h.2.2.2 k hk
theorem RK.done {T : Nat} {R : Nat → Int32} (h : RK T R) {k : Nat} (hk : k < jn (jm R)) : R (11 + 6 * k) = bI (sDone (jm R) k) := by
  have h8 := h.n8
  have hk' : k < nN (R 2) := hk
  rw [fl_b (h.fD (show k < 8 by omega))]
  congr 1
  unfold sDone
  rw [sBit_bt (by omega), jm06, bt_rB h8 (fun i hi => h.fD (by omega)), decide_eq_true hk', Bool.true_and]
theorem RK.wrong {T : Nat} {R : Nat → Int32} (h : RK T R) {k : Nat} (hk : k < jn (jm R)) : R (12 + 6 * k) = bI (sBit (jm R 0 7) (nI k)) := by
  have h8 := h.n8
  have hk' : k < nN (R 2) := hk
  rw [fl_b (h.fW (show k < 8 by omega))]
  congr 1
  rw [sBit_bt (by omega), jm07, bt_rB h8 (fun i hi => h.fW (by omega)), decide_eq_true hk', Bool.true_and]
set_option maxRecDepth 100000 in
set_option maxHeartbeats 4000000 in
theorem l_wk_loop (d : Nat) (X : Nat → Nat → Int32) (p len : Nat) (a b c : Int32) (hp : p ≤ 226) (hl : X 64 p = nI len) (hok : ∀ k, k < len → aOK (X 64 (p + 1 + k)) (X 64 (p + 51 + k))) (hw : wfC (cF (X 64) p) len) (h0 : 0 < len) : ∀ (m i : Nat) (Z : Nat → Nat → Int32), i + m = len → Stk (Z 71) (sEv (cF (X 64) p) a b c i) → (Z 70 0 = a ∧ Z 70 1 = b ∧ Z 70 2 = c) → ER (d + 1) tb_m143 4 [(0, .ref 63), (1, .int (nI p)), (2, .int (nI (sDp (cF (X 64) p) i))), (3, .int (nI i))] [] (Wd X Z) (RI (sVl (cF (X 64) p) len a b c) X)
  | 0, i, Z, hi, hs, hfa => by
    have hi : i = len := by omega
    subst hi
    have h50 := hw.1
    refine er_loc (pc' := 5) rfl rfl rfl ?_
    refine er_loc (pc' := 6) rfl rfl rfl ?_
    refine er_gf (pc' := 9) (_) rfl rfl rfl rfl rfl ?_
    refine er_loc (pc' := 10) rfl rfl rfl ?_
    refine er_ia (pc' := 11) (p) rfl rfl rfl rfl (by omega) rfl rfl ?_
    rw [hl]
    refine er_cm_geT rfl (nI_nlt (by omega) (by omega)) ?_
    refine er_loc (pc' := 156) rfl rfl rfl ?_
    refine er_gf (pc' := 159) (_) rfl rfl rfl rfl rfl ?_
    refine er_k (pc' := 160) (nI 0) rfl rfl rfl ?_
    refine er_ia (pc' := 161) (0) rfl rfl rfl rfl (by omega) rfl rfl ?_
    refine er_iret rfl rfl ?_
    exact ⟨_, by rw [Stk_one hs (by rw [sEv_len hw _ (Nat.le_refl _)]; exact hw.2.1 h0)]; rfl⟩
  | m + 1, i, Z, hi, hs, hfa => by
    have h50 := hw.1
    obtain ⟨w1, w2, w3⟩ := hw.2.2 i (by omega)
    have hlen := sEv_len (a := a) (b := b) (c := c) hw i (by omega)
    have hd50 : sDp (cF (X 64) p) i ≤ 50 := Nat.le_trans (sDp_le _ i) (by omega)
    rcases hok i (by omega) with ⟨ha, hw0⟩ | ⟨ha, hn⟩ | ha | ha
    · have hF : cF (X 64) p i = X 64 (p + 51 + i) := cM_1 ha
      have h28 : ¬ cF (X 64) p i < -3 := by rw [hF]; exact (ge0_f hw0).1
      refine er_loc (pc' := 5) rfl rfl rfl ?_
      refine er_loc (pc' := 6) rfl rfl rfl ?_
      refine er_gf (pc' := 9) (_) rfl rfl rfl rfl rfl ?_
      refine er_loc (pc' := 10) rfl rfl rfl ?_
      refine er_ia (pc' := 11) (p) rfl rfl rfl rfl (by omega) rfl rfl ?_
      rw [hl]
      refine er_cm_geF (pc' := 14) rfl (nI_lt (by omega) (by omega)) rfl ?_
      refine er_loc (pc' := 15) rfl rfl rfl ?_
      refine er_gf (pc' := 18) (_) rfl rfl rfl rfl rfl ?_
      refine er_loc (pc' := 19) rfl rfl rfl ?_
      refine er_k (pc' := 20) (nI 1) rfl rfl rfl ?_
      refine er_iadd (pc' := 21) rfl rfl ?_
      refine er_loc (pc' := 22) rfl rfl rfl ?_
      refine er_iadd (pc' := 23) rfl rfl ?_
      refine er_ia (pc' := 24) (((p + 1) + i)) rfl rfl rfl (by simp only [nI_add, nI_mul]) (by omega) rfl rfl ?_
      rw [ha]
      refine er_loc (pc' := 26) (L' := [(4, _), (0, _), (1, _), (2, _), (3, _)]) rfl rfl rfl ?_
      refine er_loc (pc' := 28) rfl rfl rfl ?_
      refine er_k (pc' := 29) (nI 1) rfl rfl rfl ?_
      refine er_cm_eqT rfl (rfl) ?_
      refine er_loc (pc' := 39) rfl rfl rfl ?_
      refine er_gf (pc' := 42) (_) rfl rfl rfl rfl rfl ?_
      refine er_loc (pc' := 43) rfl rfl rfl ?_
      refine er_loc (pc' := 45) rfl rfl rfl ?_
      refine er_k (pc' := 46) (nI 1) rfl rfl rfl ?_
      refine er_cm_neF (pc' := 49) rfl (rfl) rfl ?_
      refine er_loc (pc' := 50) rfl rfl rfl ?_
      refine er_gf (pc' := 53) (_) rfl rfl rfl rfl rfl ?_
      refine er_loc (pc' := 54) rfl rfl rfl ?_
      refine er_k (pc' := 56) (nI 51) rfl rfl rfl ?_
      refine er_iadd (pc' := 57) rfl rfl ?_
      refine er_loc (pc' := 58) rfl rfl rfl ?_
      refine er_iadd (pc' := 59) rfl rfl ?_
      refine er_ia (pc' := 60) (((p + 51) + i)) rfl rfl rfl (by simp only [nI_add, nI_mul]) (by omega) rfl rfl ?_
      refine er_goto rfl ?_
      refine er_isZ (pc' := 80) (sDp (cF (X 64) p) i) rfl rfl (fun _ => rfl) rfl (w1 h28) rfl rfl ?_
      refine er_loc (pc' := 83) (L' := [(2, .int (_ + nI 1)), (4, _), (0, _), (1, _), (3, _)]) rfl rfl rfl ?_
      refine er_goto rfl ?_
      refine er_loc (L' := [(3, .int (_ + nI 1)), (2, _), (4, _), (0, _), (1, _)]) rfl rfl rfl ?_
      refine er_goto rfl ?_
      rw [nI_add i 1]
      rw [nI_add]
      refine ER_loc [(0, _), (1, _), (2, _), (3, _)] rfl (List.forall_mem_cons.mpr ⟨rfl, List.forall_mem_cons.mpr ⟨rfl, List.forall_mem_cons.mpr ⟨rfl, List.forall_mem_cons.mpr ⟨rfl, fun _ h => absurd h List.not_mem_nil⟩⟩⟩⟩) rfl rfl ?_
      have ih := fun Z1 => l_wk_loop d X p len a b c hp hl hok hw h0 m (i + 1) Z1 (by omega)
      rw [sDp_push h28] at ih
      refine ih _ ?_ ⟨by rw [ud_ne (by omega)]; exact hfa.1, by rw [ud_ne (by omega)]; exact hfa.2.1, by rw [ud_ne (by omega)]; exact hfa.2.2⟩
      rw [ud_same]
      rw [sEv_push h28, hF, sVal_p hw0, ← hlen]
      exact Stk_push _ hs
    · obtain ⟨j, hj3, hj⟩ := nam_f hn
      have hF : cF (X 64) p i = -1 - nI j := by rw [← hj]; exact cM_2 ha
      have h28 : ¬ cF (X 64) p i < -3 := by rw [hF]; exact nam_lt hj3
      refine er_loc (pc' := 5) rfl rfl rfl ?_
      refine er_loc (pc' := 6) rfl rfl rfl ?_
      refine er_gf (pc' := 9) (_) rfl rfl rfl rfl rfl ?_
      refine er_loc (pc' := 10) rfl rfl rfl ?_
      refine er_ia (pc' := 11) (p) rfl rfl rfl rfl (by omega) rfl rfl ?_
      rw [hl]
      refine er_cm_geF (pc' := 14) rfl (nI_lt (by omega) (by omega)) rfl ?_
      refine er_loc (pc' := 15) rfl rfl rfl ?_
      refine er_gf (pc' := 18) (_) rfl rfl rfl rfl rfl ?_
      refine er_loc (pc' := 19) rfl rfl rfl ?_
      refine er_k (pc' := 20) (nI 1) rfl rfl rfl ?_
      refine er_iadd (pc' := 21) rfl rfl ?_
      refine er_loc (pc' := 22) rfl rfl rfl ?_
      refine er_iadd (pc' := 23) rfl rfl ?_
      refine er_ia (pc' := 24) (((p + 1) + i)) rfl rfl rfl (by simp only [nI_add, nI_mul]) (by omega) rfl rfl ?_
      rw [ha]
      refine er_loc (pc' := 26) (L' := [(4, _), (0, _), (1, _), (2, _), (3, _)]) rfl rfl rfl ?_
      refine er_loc (pc' := 28) rfl rfl rfl ?_
      refine er_k (pc' := 29) (nI 1) rfl rfl rfl ?_
      refine er_cm_eqF (pc' := 32) rfl (by decide +kernel) rfl ?_
      refine er_loc (pc' := 34) rfl rfl rfl ?_
      refine er_k (pc' := 35) (nI 2) rfl rfl rfl ?_
      refine er_cm_neF (pc' := 38) rfl (rfl) rfl ?_
      refine er_loc (pc' := 39) rfl rfl rfl ?_
      refine er_gf (pc' := 42) (_) rfl rfl rfl rfl rfl ?_
      refine er_loc (pc' := 43) rfl rfl rfl ?_
      refine er_loc (pc' := 45) rfl rfl rfl ?_
      refine er_k (pc' := 46) (nI 1) rfl rfl rfl ?_
      refine er_cm_neT rfl (by decide +kernel) ?_
      refine er_loc (pc' := 64) rfl rfl rfl ?_
      refine er_gf (pc' := 67) (_) rfl rfl rfl rfl rfl ?_
      refine er_loc (pc' := 68) rfl rfl rfl ?_
      refine er_gf (pc' := 71) (_) rfl rfl rfl rfl rfl ?_
      refine er_loc (pc' := 72) rfl rfl rfl ?_
      refine er_k (pc' := 74) (nI 51) rfl rfl rfl ?_
      refine er_iadd (pc' := 75) rfl rfl ?_
      refine er_loc (pc' := 76) rfl rfl rfl ?_
      refine er_iadd (pc' := 77) rfl rfl ?_
      refine er_ia (pc' := 78) (((p + 51) + i)) rfl rfl rfl (by simp only [nI_add, nI_mul]) (by omega) rfl rfl ?_
      rw [hj]
      refine er_ia (pc' := 79) (j) rfl rfl rfl rfl (by omega) rfl rfl ?_
      refine er_isZ (pc' := 80) (sDp (cF (X 64) p) i) rfl rfl (fun _ => rfl) rfl (w1 h28) rfl rfl ?_
      refine er_loc (pc' := 83) (L' := [(2, .int (_ + nI 1)), (4, _), (0, _), (1, _), (3, _)]) rfl rfl rfl ?_
      refine er_goto rfl ?_
      refine er_loc (L' := [(3, .int (_ + nI 1)), (2, _), (4, _), (0, _), (1, _)]) rfl rfl rfl ?_
      refine er_goto rfl ?_
      rw [nI_add i 1]
      rw [nI_add]
      refine ER_loc [(0, _), (1, _), (2, _), (3, _)] rfl (List.forall_mem_cons.mpr ⟨rfl, List.forall_mem_cons.mpr ⟨rfl, List.forall_mem_cons.mpr ⟨rfl, List.forall_mem_cons.mpr ⟨rfl, fun _ h => absurd h List.not_mem_nil⟩⟩⟩⟩) rfl rfl ?_
      have ih := fun Z1 => l_wk_loop d X p len a b c hp hl hok hw h0 m (i + 1) Z1 (by omega)
      rw [sDp_push h28] at ih
      refine ih _ ?_ ⟨by rw [ud_ne (by omega)]; exact hfa.1, by rw [ud_ne (by omega)]; exact hfa.2.1, by rw [ud_ne (by omega)]; exact hfa.2.2⟩
      rw [ud_same]
      have hv : sVal (-1 - nI j) a b c = Z 70 j := by rw [← hfa.1, ← hfa.2.1, ← hfa.2.2]; exact sVal_n hj3
      rw [sEv_push h28, hF, hv, ← hlen]
      exact Stk_push _ hs
    · have h66 : cF (X 64) p i = -33 := cM_3 ha
      have h28 : cF (X 64) p i < -3 := by rw [h66]; decide +kernel
      have d1 := w2 h66
      obtain ⟨x0, r0, hl0, hr0⟩ := ne_nil hlen d1
      have hz0 := hs
      rw [hl0] at hz0
      refine er_loc (pc' := 5) rfl rfl rfl ?_
      refine er_loc (pc' := 6) rfl rfl rfl ?_
      refine er_gf (pc' := 9) (_) rfl rfl rfl rfl rfl ?_
      refine er_loc (pc' := 10) rfl rfl rfl ?_
      refine er_ia (pc' := 11) (p) rfl rfl rfl rfl (by omega) rfl rfl ?_
      rw [hl]
      refine er_cm_geF (pc' := 14) rfl (nI_lt (by omega) (by omega)) rfl ?_
      refine er_loc (pc' := 15) rfl rfl rfl ?_
      refine er_gf (pc' := 18) (_) rfl rfl rfl rfl rfl ?_
      refine er_loc (pc' := 19) rfl rfl rfl ?_
      refine er_k (pc' := 20) (nI 1) rfl rfl rfl ?_
      refine er_iadd (pc' := 21) rfl rfl ?_
      refine er_loc (pc' := 22) rfl rfl rfl ?_
      refine er_iadd (pc' := 23) rfl rfl ?_
      refine er_ia (pc' := 24) (((p + 1) + i)) rfl rfl rfl (by simp only [nI_add, nI_mul]) (by omega) rfl rfl ?_
      rw [ha]
      refine er_loc (pc' := 26) (L' := [(4, _), (0, _), (1, _), (2, _), (3, _)]) rfl rfl rfl ?_
      refine er_loc (pc' := 28) rfl rfl rfl ?_
      refine er_k (pc' := 29) (nI 1) rfl rfl rfl ?_
      refine er_cm_eqF (pc' := 32) rfl (by decide +kernel) rfl ?_
      refine er_loc (pc' := 34) rfl rfl rfl ?_
      refine er_k (pc' := 35) (nI 2) rfl rfl rfl ?_
      refine er_cm_neT rfl (by decide +kernel) ?_
      refine er_loc (pc' := 88) rfl rfl rfl ?_
      refine er_k (pc' := 89) (nI 3) rfl rfl rfl ?_
      refine er_cm_neF (pc' := 92) rfl (rfl) rfl ?_
      refine er_loc (pc' := 93) rfl rfl rfl ?_
      refine er_gf (pc' := 96) (_) rfl rfl rfl rfl rfl ?_
      refine er_loc (pc' := 97) rfl rfl rfl ?_
      refine er_k (pc' := 98) (nI 1) rfl rfl rfl ?_
      refine er_isub (pc' := 99) rfl rfl ?_
      refine er_loc (pc' := 100) rfl rfl rfl ?_
      refine er_gf (pc' := 103) (_) rfl rfl rfl rfl rfl ?_
      refine er_loc (pc' := 104) rfl rfl rfl ?_
      refine er_k (pc' := 105) (nI 1) rfl rfl rfl ?_
      refine er_isub (pc' := 106) rfl rfl ?_
      refine er_ia (pc' := 107) (sDp (cF (X 64) p) i - 1) rfl rfl rfl (nI_sub d1) (by omega) rfl rfl ?_
      rw [show Z 71 (sDp (cF (X 64) p) i - 1) = x0 from by rw [← hr0]; exact hz0.1]
      refine er_if_ne (pc' := 110) rfl rfl (fun h107 => ?_) (fun h107 => ?_)
      · refine er_k (nI 0) rfl rfl rfl ?_
        refine er_isZ (pc' := 116) (sDp (cF (X 64) p) i - 1) rfl rfl (fun _ => rfl) (nI_sub d1) (by omega) rfl rfl ?_
        refine er_goto rfl ?_
        refine er_loc (L' := [(3, .int (_ + nI 1)), (4, _), (0, _), (1, _), (2, _)]) rfl rfl rfl ?_
        refine er_goto rfl ?_
        rw [nI_add i 1]
        refine ER_loc [(0, _), (1, _), (2, _), (3, _)] rfl (List.forall_mem_cons.mpr ⟨rfl, List.forall_mem_cons.mpr ⟨rfl, List.forall_mem_cons.mpr ⟨rfl, List.forall_mem_cons.mpr ⟨rfl, fun _ h => absurd h List.not_mem_nil⟩⟩⟩⟩) rfl rfl ?_
        have ih := fun Z1 => l_wk_loop d X p len a b c hp hl hok hw h0 m (i + 1) Z1 (by omega)
        rw [sDp_deny h28 h66] at ih
        refine ih _ ?_ ⟨by rw [ud_ne (by omega)]; exact hfa.1, by rw [ud_ne (by omega)]; exact hfa.2.1, by rw [ud_ne (by omega)]; exact hfa.2.2⟩
        rw [ud_same]
        rw [sEv_deny h28 h66 hl0, decide_eq_false h107, ← hr0]
        exact Stk_push _ hz0.2
      · refine er_k (nI 1) rfl rfl rfl ?_
        refine er_goto rfl ?_
        refine er_isZ (pc' := 116) (sDp (cF (X 64) p) i - 1) rfl rfl (fun _ => rfl) (nI_sub d1) (by omega) rfl rfl ?_
        refine er_goto rfl ?_
        refine er_loc (L' := [(3, .int (_ + nI 1)), (4, _), (0, _), (1, _), (2, _)]) rfl rfl rfl ?_
        refine er_goto rfl ?_
        rw [nI_add i 1]
        refine ER_loc [(0, _), (1, _), (2, _), (3, _)] rfl (List.forall_mem_cons.mpr ⟨rfl, List.forall_mem_cons.mpr ⟨rfl, List.forall_mem_cons.mpr ⟨rfl, List.forall_mem_cons.mpr ⟨rfl, fun _ h => absurd h List.not_mem_nil⟩⟩⟩⟩) rfl rfl ?_
        have ih := fun Z1 => l_wk_loop d X p len a b c hp hl hok hw h0 m (i + 1) Z1 (by omega)
        rw [sDp_deny h28 h66] at ih
        refine ih _ ?_ ⟨by rw [ud_ne (by omega)]; exact hfa.1, by rw [ud_ne (by omega)]; exact hfa.2.1, by rw [ud_ne (by omega)]; exact hfa.2.2⟩
        rw [ud_same]
        rw [sEv_deny h28 h66 hl0, decide_eq_true h107, ← hr0]
        exact Stk_push _ hz0.2
    · obtain ⟨⟨g1, g2, g3⟩, ⟨g4, g5⟩, _⟩ := okSg_f ha
      have hF : cF (X 64) p i = -(X 64 (p + 1 + i)) := cM_g ha
      have h66 : ¬ cF (X 64) p i = -33 := by rw [hF]; exact g5
      have h28 : cF (X 64) p i < -3 := by rw [hF]; exact g4
      have d1 := w3 h28 h66
      obtain ⟨y0, x0, r0, hl0, hr0⟩ := ne_nil2 hlen d1
      have hz0 := hs
      rw [hl0] at hz0
      refine er_loc (pc' := 5) rfl rfl rfl ?_
      refine er_loc (pc' := 6) rfl rfl rfl ?_
      refine er_gf (pc' := 9) (_) rfl rfl rfl rfl rfl ?_
      refine er_loc (pc' := 10) rfl rfl rfl ?_
      refine er_ia (pc' := 11) (p) rfl rfl rfl rfl (by omega) rfl rfl ?_
      rw [hl]
      refine er_cm_geF (pc' := 14) rfl (nI_lt (by omega) (by omega)) rfl ?_
      refine er_loc (pc' := 15) rfl rfl rfl ?_
      refine er_gf (pc' := 18) (_) rfl rfl rfl rfl rfl ?_
      refine er_loc (pc' := 19) rfl rfl rfl ?_
      refine er_k (pc' := 20) (nI 1) rfl rfl rfl ?_
      refine er_iadd (pc' := 21) rfl rfl ?_
      refine er_loc (pc' := 22) rfl rfl rfl ?_
      refine er_iadd (pc' := 23) rfl rfl ?_
      refine er_ia (pc' := 24) (((p + 1) + i)) rfl rfl rfl (by simp only [nI_add, nI_mul]) (by omega) rfl rfl ?_
      refine er_loc (pc' := 26) (L' := [(4, _), (0, _), (1, _), (2, _), (3, _)]) rfl rfl rfl ?_
      refine er_loc (pc' := 28) rfl rfl rfl ?_
      refine er_k (pc' := 29) (nI 1) rfl rfl rfl ?_
      refine er_cm_eqF (pc' := 32) rfl (g1) rfl ?_
      refine er_loc (pc' := 34) rfl rfl rfl ?_
      refine er_k (pc' := 35) (nI 2) rfl rfl rfl ?_
      refine er_cm_neT rfl (g2) ?_
      refine er_loc (pc' := 88) rfl rfl rfl ?_
      refine er_k (pc' := 89) (nI 3) rfl rfl rfl ?_
      refine er_cm_neT rfl (g3) ?_
      refine er_loc (pc' := 122) (L' := [(2, .int (_ + (-1))), (4, _), (0, _), (1, _), (3, _)]) rfl rfl rfl ?_
      rw [nI_addm1 (by omega)]
      refine er_loc (pc' := 123) rfl rfl rfl ?_
      refine er_gf (pc' := 126) (_) rfl rfl rfl rfl rfl ?_
      refine er_loc (pc' := 127) rfl rfl rfl ?_
      refine er_k (pc' := 128) (nI 1) rfl rfl rfl ?_
      refine er_isub (pc' := 129) rfl rfl ?_
      refine er_loc (pc' := 131) rfl rfl rfl ?_
      refine er_loc (pc' := 132) rfl rfl rfl ?_
      refine er_gf (pc' := 135) (_) rfl rfl rfl rfl rfl ?_
      refine er_loc (pc' := 136) rfl rfl rfl ?_
      refine er_k (pc' := 137) (nI 1) rfl rfl rfl ?_
      refine er_isub (pc' := 138) rfl rfl ?_
      refine er_ia (pc' := 139) (sDp (cF (X 64) p) i - 2) rfl rfl rfl ((nI_sub (by omega)).trans (congrArg nI (by omega))) (by omega) rfl rfl ?_
      refine er_loc (pc' := 140) rfl rfl rfl ?_
      refine er_gf (pc' := 143) (_) rfl rfl rfl rfl rfl ?_
      refine er_loc (pc' := 144) rfl rfl rfl ?_
      refine er_ia (pc' := 145) (sDp (cF (X 64) p) i - 1) rfl rfl rfl rfl (by omega) rfl rfl ?_
      refine er_cSi (pc' := 148) (rest := [_, _]) rfl rfl rfl (l_twoOf _ _ _ _ _ ha) ?_
      refine er_isZ (pc' := 149) (sDp (cF (X 64) p) i - 2) rfl rfl (fun _ => rfl) ((nI_sub (by omega)).trans (congrArg nI (by omega))) (by omega) rfl rfl ?_
      refine er_loc (L' := [(3, .int (_ + nI 1)), (2, _), (4, _), (0, _), (1, _)]) rfl rfl rfl ?_
      refine er_goto rfl ?_
      rw [nI_add i 1]
      refine ER_loc [(0, _), (1, _), (2, _), (3, _)] rfl (List.forall_mem_cons.mpr ⟨rfl, List.forall_mem_cons.mpr ⟨rfl, List.forall_mem_cons.mpr ⟨rfl, List.forall_mem_cons.mpr ⟨rfl, fun _ h => absurd h List.not_mem_nil⟩⟩⟩⟩) rfl rfl ?_
      have ih := fun Z1 => l_wk_loop d X p len a b c hp hl hok hw h0 m (i + 1) Z1 (by omega)
      rw [sDp_join h28 h66] at ih
      refine ih _ ?_ ⟨by rw [ud_ne (by omega)]; exact hfa.1, by rw [ud_ne (by omega)]; exact hfa.2.1, by rw [ud_ne (by omega)]; exact hfa.2.2⟩
      rw [ud_same]
      rw [sEv_join h28 h66 hl0, hF, Int32.neg_neg, show Z 71 (sDp (cF (X 64) p) i - 2) = x0 from by rw [← hr0]; exact hz0.2.1, show Z 71 (sDp (cF (X 64) p) i - 1) = y0 from by rw [show sDp (cF (X 64) p) i - 1 = (x0 :: r0).length from by simp only [List.length_cons]; omega]; exact hz0.1, ← hr0]
      exact Stk_push _ hz0.2.2
set_option maxRecDepth 100000 in
set_option maxHeartbeats 4000000 in
theorem l_rWorks (d : Nat) (X Z : Nat → Nat → Int32) (p len : Nat) (a b c : Int32) (hp : p ≤ 226) (hl : X 64 p = nI len) (hok : ∀ k, k < len → aOK (X 64 (p + 1 + k)) (X 64 (p + 51 + k))) (hw : wfC (cF (X 64) p) len) (h0 : 0 < len) (hfa : Z 70 0 = a ∧ Z 70 1 = b ∧ Z 70 2 = c) : EC (d + 2) 143 [.ref 63, .int (nI p)] (Wd X Z) (RI (sVl (cF (X 64) p) len a b c) X) := by
  refine er_enter (L := [(0, _), (1, _)]) rfl rfl rfl ?_
  refine er_k (pc' := 1) (nI 0) rfl rfl rfl ?_
  refine er_loc (pc' := 2) (L' := [(2, _), (0, _), (1, _)]) rfl rfl rfl ?_
  refine er_k (pc' := 3) (nI 0) rfl rfl rfl ?_
  refine er_loc (pc' := 4) (L' := [(3, _), (2, _), (0, _), (1, _)]) rfl rfl rfl ?_
  refine ER_loc [(0, _), (1, _), (2, _), (3, _)] rfl (List.forall_mem_cons.mpr ⟨rfl, List.forall_mem_cons.mpr ⟨rfl, List.forall_mem_cons.mpr ⟨rfl, List.forall_mem_cons.mpr ⟨rfl, fun _ h => absurd h List.not_mem_nil⟩⟩⟩⟩) rfl rfl ?_
  exact l_wk_loop d X p len a b c hp hl hok hw h0 len 0 Z (by omega) trivial hfa
theorem wfM6 {T : Nat} {R : Nat → Int32} (h : IJ T (jm R)) : wfC (cF R 125) (nN (R 125)) := wfC_cong (fun i hi => jm6 hi) h.tl.2
theorem wfM8 {T : Nat} {R : Nat → Int32} (h : IJ T (jm R)) : wfC (cF R 226) (nN (R 226)) := wfC_cong (fun i hi => jm8 hi) h.te.2
theorem vlM6 {R : Nat → Int32} {a b c : Int32} : sVl (cF R 125) (nN (R 125)) a b c = sVl (jm R 6) (jl (jm R)) a b c := sVl_cong (fun i hi => (jm6 hi).symm)
theorem vlM8 {R : Nat → Int32} {a b c : Int32} : sVl (cF R 226) (nN (R 226)) a b c = sVl (jm R 8) (je (jm R)) a b c := sVl_cong (fun i hi => (jm8 hi).symm)
theorem nI_pos0 {n : Nat} (h : n ≤ 50) : (0 < nI n) ↔ 0 < n := fin_le (m := 50) (p := fun n => (0 < nI n) ↔ 0 < n) h (by decide +kernel)
set_option maxRecDepth 100000 in
set_option maxHeartbeats 4000000 in
theorem l_rGives0 (d : Nat) (X Z : Nat → Nat → Int32) {T : Nat} (hI : RK T (X 64)) (a b c : Int32) : EC (d + 3) 142 [.ref 63, .int (nI 0), .int a, .int b, .int c] (Wd X Z) (RI (sLastsBy (jm (X 64)) a b c) X) := by
  refine er_enter (L := [(0, _), (1, _), (2, _), (3, _), (4, _)]) rfl rfl rfl ?_
  have hl : X 64 125 = nI (nN (X 64 125)) := hI.ij.tl.1.1
  refine er_k (pc' := 2) (nI 125) rfl rfl rfl ?_
  refine er_k (pc' := 4) (nI 101) rfl rfl rfl ?_
  refine er_loc (pc' := 5) rfl rfl rfl ?_
  refine er_imul (pc' := 6) rfl rfl ?_
  refine er_iadd (pc' := 7) rfl rfl ?_
  rw [show nI 125 + nI 101 * nI 0 = nI 125 from by decide +kernel]
  refine er_loc (pc' := 9) (L' := [(5, _), (0, _), (1, _), (2, _), (3, _), (4, _)]) rfl rfl rfl ?_
  refine er_loc (pc' := 10) rfl rfl rfl ?_
  refine er_gf (pc' := 13) (_) rfl rfl rfl rfl rfl ?_
  refine er_k (pc' := 14) (nI 0) rfl rfl rfl ?_
  refine er_loc (pc' := 15) rfl rfl rfl ?_
  refine er_isZ (pc' := 16) (0) rfl rfl (fun _ => rfl) rfl (by omega) rfl rfl ?_
  refine er_loc (pc' := 17) rfl rfl rfl ?_
  refine er_gf (pc' := 20) (_) rfl rfl rfl rfl rfl ?_
  refine er_k (pc' := 21) (nI 1) rfl rfl rfl ?_
  refine er_loc (pc' := 22) rfl rfl rfl ?_
  refine er_isZ (pc' := 23) (1) rfl rfl (fun _ => rfl) rfl (by omega) rfl rfl ?_
  refine er_loc (pc' := 24) rfl rfl rfl ?_
  refine er_gf (pc' := 27) (_) rfl rfl rfl rfl rfl ?_
  refine er_k (pc' := 28) (nI 2) rfl rfl rfl ?_
  refine er_loc (pc' := 30) rfl rfl rfl ?_
  refine er_isZ (pc' := 31) (2) rfl rfl (fun _ => rfl) rfl (by omega) rfl rfl ?_
  refine er_loc (pc' := 32) rfl rfl rfl ?_
  refine er_gf (pc' := 35) (_) rfl rfl rfl rfl rfl ?_
  refine er_loc (pc' := 37) rfl rfl rfl ?_
  refine er_ia (pc' := 38) (125) rfl rfl rfl rfl (by omega) rfl rfl ?_
  rw [hl]
  refine er_if_le (pc' := 41) rfl rfl (fun h38 => ?_) (fun h38 => ?_)
  · have hz : ¬ 0 < nN (X 64 125) := fun hh => h38 ((nI_pos0 hI.ij.tl.1.2).mpr hh)
    refine er_loc (pc' := 51) rfl rfl rfl ?_
    refine er_if_neF (pc' := 54) rfl (rfl) rfl ?_
    refine er_k (pc' := 55) (nI 1) rfl rfl rfl ?_
    refine er_loc (pc' := 56) rfl rfl rfl ?_
    refine er_iadd (pc' := 57) rfl rfl ?_
    refine er_loc (pc' := 59) rfl rfl rfl ?_
    refine er_iadd (pc' := 60) rfl rfl ?_
    refine er_goto rfl ?_
    refine er_loc (pc' := 78) (L' := [(6, _), (5, _), (0, _), (1, _), (2, _), (3, _), (4, _)]) rfl rfl rfl ?_
    refine er_loc (pc' := 79) rfl rfl rfl ?_
    refine er_if_neF (pc' := 82) rfl (rfl) rfl ?_
    refine er_loc (pc' := 84) rfl rfl rfl ?_
    refine er_k (pc' := 85) (nI 1) rfl rfl rfl ?_
    refine er_k (pc' := 87) (nI 99) rfl rfl rfl ?_
    refine er_cSi (pc' := 90) (rest := []) rfl rfl rfl (l_held _ _ _ _ _) ?_
    refine er_goto rfl ?_
    refine er_iret rfl rfl ?_
    refine RI_of ?_ rfl
    show sHeld _ _ _ = sHeld (if 0 < nN (X 64 125) then _ else _) _ _
    rw [if_neg hz]
  · have hz : 0 < nN (X 64 125) := (nI_pos0 hI.ij.tl.1.2).mp h38
    refine er_loc (pc' := 42) rfl rfl rfl ?_
    refine er_loc (pc' := 44) rfl rfl rfl ?_
    refine er_cIz (pc' := 47) (rest := []) 12 rfl rfl rfl rfl rfl rfl (l_rWorks _ X _ 125 (nN (X 64 125)) a b c (by omega) hl (fun k hk => hI.2.2.1 k hk) (wfM6 hI.ij) hz ⟨by simp [ud_at], by simp [ud_at], by simp [ud_at]⟩) ?_
    intro Z2
    refine er_goto rfl ?_
    refine er_loc (pc' := 78) (L' := [(6, _), (5, _), (0, _), (1, _), (2, _), (3, _), (4, _)]) rfl rfl rfl ?_
    refine er_loc (pc' := 79) rfl rfl rfl ?_
    refine er_if_neF (pc' := 82) rfl (rfl) rfl ?_
    refine er_loc (pc' := 84) rfl rfl rfl ?_
    refine er_k (pc' := 85) (nI 1) rfl rfl rfl ?_
    refine er_k (pc' := 87) (nI 99) rfl rfl rfl ?_
    refine er_cSi (pc' := 90) (rest := []) rfl rfl rfl (l_held _ _ _ _ _) ?_
    refine er_goto rfl ?_
    refine er_iret rfl rfl ?_
    refine RI_of ?_ rfl
    rw [vlM6]
    show sHeld _ _ _ = sHeld (if 0 < nN (X 64 125) then _ else _) _ _
    rw [if_pos hz]
set_option maxRecDepth 100000 in
set_option maxHeartbeats 4000000 in
theorem l_rGives1 (d : Nat) (X Z : Nat → Nat → Int32) {T : Nat} (hI : RK T (X 64)) (a b c : Int32) : EC (d + 3) 142 [.ref 63, .int (nI 1), .int a, .int b, .int c] (Wd X Z) (RI (sErrsBy (jm (X 64)) a b c) X) := by
  refine er_enter (L := [(0, _), (1, _), (2, _), (3, _), (4, _)]) rfl rfl rfl ?_
  have hl : X 64 226 = nI (nN (X 64 226)) := hI.ij.te.1.1
  refine er_k (pc' := 2) (nI 125) rfl rfl rfl ?_
  refine er_k (pc' := 4) (nI 101) rfl rfl rfl ?_
  refine er_loc (pc' := 5) rfl rfl rfl ?_
  refine er_imul (pc' := 6) rfl rfl ?_
  refine er_iadd (pc' := 7) rfl rfl ?_
  rw [show nI 125 + nI 101 * nI 1 = nI 226 from by decide +kernel]
  refine er_loc (pc' := 9) (L' := [(5, _), (0, _), (1, _), (2, _), (3, _), (4, _)]) rfl rfl rfl ?_
  refine er_loc (pc' := 10) rfl rfl rfl ?_
  refine er_gf (pc' := 13) (_) rfl rfl rfl rfl rfl ?_
  refine er_k (pc' := 14) (nI 0) rfl rfl rfl ?_
  refine er_loc (pc' := 15) rfl rfl rfl ?_
  refine er_isZ (pc' := 16) (0) rfl rfl (fun _ => rfl) rfl (by omega) rfl rfl ?_
  refine er_loc (pc' := 17) rfl rfl rfl ?_
  refine er_gf (pc' := 20) (_) rfl rfl rfl rfl rfl ?_
  refine er_k (pc' := 21) (nI 1) rfl rfl rfl ?_
  refine er_loc (pc' := 22) rfl rfl rfl ?_
  refine er_isZ (pc' := 23) (1) rfl rfl (fun _ => rfl) rfl (by omega) rfl rfl ?_
  refine er_loc (pc' := 24) rfl rfl rfl ?_
  refine er_gf (pc' := 27) (_) rfl rfl rfl rfl rfl ?_
  refine er_k (pc' := 28) (nI 2) rfl rfl rfl ?_
  refine er_loc (pc' := 30) rfl rfl rfl ?_
  refine er_isZ (pc' := 31) (2) rfl rfl (fun _ => rfl) rfl (by omega) rfl rfl ?_
  refine er_loc (pc' := 32) rfl rfl rfl ?_
  refine er_gf (pc' := 35) (_) rfl rfl rfl rfl rfl ?_
  refine er_loc (pc' := 37) rfl rfl rfl ?_
  refine er_ia (pc' := 38) (226) rfl rfl rfl rfl (by omega) rfl rfl ?_
  rw [hl]
  refine er_if_le (pc' := 41) rfl rfl (fun h38 => ?_) (fun h38 => ?_)
  · have hz : ¬ 0 < nN (X 64 226) := fun hh => h38 ((nI_pos0 hI.ij.te.1.2).mpr hh)
    refine er_loc (pc' := 51) rfl rfl rfl ?_
    refine er_if_neT rfl (by decide +kernel) ?_
    refine er_loc (pc' := 64) rfl rfl rfl ?_
    refine er_loc (pc' := 65) rfl rfl rfl ?_
    refine er_iadd (pc' := 66) rfl rfl ?_
    refine er_k (pc' := 68) (nI 9) rfl rfl rfl ?_
    refine er_cm_le (pc' := 71) rfl rfl (fun h68 => ?_) (fun h68 => ?_)
    · refine er_k (nI 0) rfl rfl rfl ?_
      refine er_loc (pc' := 78) (L' := [(6, _), (5, _), (0, _), (1, _), (2, _), (3, _), (4, _)]) rfl rfl rfl ?_
      refine er_loc (pc' := 79) rfl rfl rfl ?_
      refine er_if_neT rfl (by decide +kernel) ?_
      refine er_loc (pc' := 95) rfl rfl rfl ?_
      refine er_k (pc' := 96) (nI 0) rfl rfl rfl ?_
      refine er_k (pc' := 97) (nI 1) rfl rfl rfl ?_
      refine er_cSi (pc' := 100) (rest := []) rfl rfl rfl (l_held _ _ _ _ _) ?_
      refine er_iret rfl rfl ?_
      refine RI_of ?_ rfl
      show sHeld _ _ _ = sHeld (if 0 < nN (X 64 226) then _ else (if nI 9 < _ then _ else _)) _ _
      rw [if_neg hz, if_neg h68]
    · refine er_k (nI 1) rfl rfl rfl ?_
      refine er_goto rfl ?_
      refine er_loc (pc' := 78) (L' := [(6, _), (5, _), (0, _), (1, _), (2, _), (3, _), (4, _)]) rfl rfl rfl ?_
      refine er_loc (pc' := 79) rfl rfl rfl ?_
      refine er_if_neT rfl (by decide +kernel) ?_
      refine er_loc (pc' := 95) rfl rfl rfl ?_
      refine er_k (pc' := 96) (nI 0) rfl rfl rfl ?_
      refine er_k (pc' := 97) (nI 1) rfl rfl rfl ?_
      refine er_cSi (pc' := 100) (rest := []) rfl rfl rfl (l_held _ _ _ _ _) ?_
      refine er_iret rfl rfl ?_
      refine RI_of ?_ rfl
      show sHeld _ _ _ = sHeld (if 0 < nN (X 64 226) then _ else (if nI 9 < _ then _ else _)) _ _
      rw [if_neg hz, if_pos h68]
  · have hz : 0 < nN (X 64 226) := (nI_pos0 hI.ij.te.1.2).mp h38
    refine er_loc (pc' := 42) rfl rfl rfl ?_
    refine er_loc (pc' := 44) rfl rfl rfl ?_
    refine er_cIz (pc' := 47) (rest := []) 12 rfl rfl rfl rfl rfl rfl (l_rWorks _ X _ 226 (nN (X 64 226)) a b c (by omega) hl (fun k hk => hI.2.2.2 k hk) (wfM8 hI.ij) hz ⟨by simp [ud_at], by simp [ud_at], by simp [ud_at]⟩) ?_
    intro Z2
    refine er_goto rfl ?_
    refine er_loc (pc' := 78) (L' := [(6, _), (5, _), (0, _), (1, _), (2, _), (3, _), (4, _)]) rfl rfl rfl ?_
    refine er_loc (pc' := 79) rfl rfl rfl ?_
    refine er_if_neT rfl (by decide +kernel) ?_
    refine er_loc (pc' := 95) rfl rfl rfl ?_
    refine er_k (pc' := 96) (nI 0) rfl rfl rfl ?_
    refine er_k (pc' := 97) (nI 1) rfl rfl rfl ?_
    refine er_cSi (pc' := 100) (rest := []) rfl rfl rfl (l_held _ _ _ _ _) ?_
    refine er_iret rfl rfl ?_
    refine RI_of ?_ rfl
    rw [vlM8]
    show sHeld _ _ _ = sHeld (if 0 < nN (X 64 226) then _ else _) _ _
    rw [if_pos hz]
end
section
/-! THE REFERENCE: how long, what may be -/
theorem nIj {a b : Nat} (ha : a < 2 ^ 31) (hb : b < 2 ^ 31) (h : nI a = nI b) : a = b := by
  have e := congrArg nN h
  rwa [nN_nI ha, nN_nI hb] at e
def jHas (J : Nat → Nat → Int32) (s : Int32) : Bool := !decide (s < 0) && decide (s < J 0 1)
theorem I_lt {x y : Int32} : (x < y) ↔ (x.toInt < y.toInt) := Int32.lt_iff_toInt_lt
theorem jHas_in {s : Int32} {n : Nat} (h : n ≤ 8) : sIn s (nI 0) (nI n - nI 1) = (!decide (s < 0) && decide (s < nI n)) := by
  unfold sIn
  have e0 : (nI 0 : Int32) = 0 := by decide +kernel
  rw [e0]
  by_cases h0 : s < 0
  · rw [decide_eq_true h0]; rfl
  · rw [decide_eq_false h0]
    have h1 : ¬ s.toInt < 0 := fun hh => h0 (I_lt.mpr hh)
    have en : (nI n).toInt = (n : Int) := nI_toInt (by omega)
    have em : (nI n - nI 1).toInt = (n : Int) - 1 := fin_le (m := 8) (p := fun n => (nI n - nI 1).toInt = (n : Int) - 1) h (by decide +kernel)
    have e : (!decide (nI n - nI 1 < s)) = decide (s < nI n) := by
      rw [← decide_not]
      apply decide_eq_decide.mpr
      rw [I_lt, I_lt, en, em]
      omega
    rw [e]
theorem jHas_t {T : Nat} {J : Nat → Nat → Int32} {k : Nat} (hI : IJ T J) (hk : k < jn J) : jHas J (nI k) = true := by
  unfold jHas
  have h8 := jn8 hI
  rw [show J 0 1 = nI (jn J) from hI.n.1, decide_eq_false (nI_pos (by omega)), decide_eq_true (nI_lt hk (by omega))]
  rfl
theorem sar_bt {x : Int32} {k : Nat} (h : k < 32) : ((x >>> (nI k &&& 31)) &&& nI 1) = nI 1 ↔ bt x k = true := by
  rw [nI1_and]
  have e : bt (x >>> (nI k &&& 31)) 0 = bt x k := by
    unfold bt
    rw [Int32.toBitVec_shiftRight, show ((nI k &&& 31).toBitVec.smod 32) = BitVec.ofNat 32 k from fin32 (p := fun k => ((nI k &&& 31).toBitVec.smod 32) = BitVec.ofNat 32 k) h (by decide +kernel)]
    show (x.toBitVec.sshiftRight (BitVec.ofNat 32 k).toNat).getLsbD 0 = _
    rw [BitVec.getLsbD_sshiftRight, BitVec.toNat_ofNat, Nat.mod_eq_of_lt (by omega)]
    simp [h]
  rw [e]
theorem tired_eq {T : Nat} {J : Nat → Nat → Int32} (h : IJ T J) (hT : T < 2 ^ 31) : sHeld (J 0 10 / nI 30) (nI 0) (nI 9) = sTired J := by
  obtain ⟨h1, h2⟩ := h.minute
  have hn : (J 0 10).toInt = (nN (J 0 10) : Int) := by
    conv => lhs; rw [h1]
    exact nI_toInt (by omega)
  have e30 : (nI 30).toInt = 30 := nI_toInt (by omega)
  have hv : (J 0 10 / nI 30).toInt = (J 0 10).toInt.tdiv 30 := by
    rw [Int32.toInt_div_of_ne_right _ _ (by decide +kernel), e30]
  have h0 : ¬ J 0 10 / nI 30 < nI 0 := by
    rw [I_lt, hv, hn, show (nI 0).toInt = 0 from nI_toInt (by omega)]
    have : (0 : Int) ≤ (nN (J 0 10) : Int).tdiv 30 := Int.tdiv_nonneg (by omega) (by omega)
    omega
  unfold sHeld sTired
  rw [if_neg h0]
  generalize J 0 10 / nI 30 = v at *
  by_cases h9 : nI 9 < v
  · rw [if_pos h9, if_neg (fun hh => by rw [I_lt] at h9 hh; omega)]
  · rw [if_neg h9]
    by_cases h8 : v < nI 9
    · rw [if_pos h8]
    · rw [if_neg h8]
      apply Int32.toInt_inj.mp
      rw [I_lt] at h9 h8
      omega
theorem l_rHas (d : Nat) (X Z : Nat → Nat → Int32) {T : Nat} (hI : RK T (X 64)) (s : Int32) : EC (d + 2) 132 [.ref 63, .int s] (Wd X Z) (PI (bI (jHas (jm (X 64)) s)) (Wd X Z)) := by
  refine (l_rIsStep d X Z s).mono (fun r hr => ?_)
  rw [show X 64 2 - nI 1 = nI (jn (jm (X 64))) - nI 1 from by rw [hI.n], jHas_in (n := jn (jm (X 64))) hI.n8] at hr
  rw [show jHas (jm (X 64)) s = (!decide (s < 0) && decide (s < nI (jn (jm (X 64))))) from by unfold jHas; rw [jm01, hI.n]]
  exact hr
theorem l_rHas_t (d : Nat) (X Z : Nat → Nat → Int32) {T : Nat} (hI : RK T (X 64)) {k : Nat} (hk : k < jn (jm (X 64))) : EC (d + 2) 132 [.ref 63, .int (nI k)] (Wd X Z) (PI (bI true) (Wd X Z)) := by
  have h := l_rHas d X Z hI (nI k)
  rw [jHas_t hI.ij hk] at h
  exact h
theorem l_rHas_f (d : Nat) (X Z : Nat → Nat → Int32) {T : Nat} (hI : RK T (X 64)) {s : Int32} (hs : jHas (jm (X 64)) s = false) : EC (d + 2) 132 [.ref 63, .int s] (Wd X Z) (PI (bI false) (Wd X Z)) := by
  have h := l_rHas d X Z hI s
  rw [hs] at h
  exact h
theorem l_of0 (d : Nat) (X Z : Nat → Nat → Int32) {T : Nat} (hI : RK T (X 64)) {k : Nat} (hk : k < 8) : EC (d + 1) 133 [.ref 63, .int (nI k), .int (nI 0)] (Wd X Z) (PI (nI (sKind (jm (X 64)) k)) (Wd X Z)) := by
  refine (l_rOf d X Z hk (show 0 < 6 by omega)).mono (fun r hr => ?_)
  rw [show nI (sKind (jm (X 64)) k) = jm (X 64) 1 k from (hI.ij.kind k).1.symm, jm1 hk]
  exact hr
theorem l_of1 (d : Nat) (X Z : Nat → Nat → Int32) {k : Nat} (hk : k < 8) : EC (d + 1) 133 [.ref 63, .int (nI k), .int (nI 1)] (Wd X Z) (PI (jm (X 64) 2 k) (Wd X Z)) := by
  refine (l_rOf d X Z hk (show 1 < 6 by omega)).mono (fun r hr => ?_)
  rw [jm2 hk, show 8 + 6 * k = 7 + 6 * k + 1 by omega]
  exact hr
theorem l_of2 (d : Nat) (X Z : Nat → Nat → Int32) {k : Nat} (hk : k < 8) : EC (d + 1) 133 [.ref 63, .int (nI k), .int (nI 2)] (Wd X Z) (PI (jm (X 64) 3 k) (Wd X Z)) := by
  refine (l_rOf d X Z hk (show 2 < 6 by omega)).mono (fun r hr => ?_)
  rw [jm3 hk, show 9 + 6 * k = 7 + 6 * k + 2 by omega]
  exact hr
theorem l_of3 (d : Nat) (X Z : Nat → Nat → Int32) {k : Nat} (hk : k < 8) : EC (d + 1) 133 [.ref 63, .int (nI k), .int (nI 3)] (Wd X Z) (PI (jm (X 64) 4 k) (Wd X Z)) := by
  refine (l_rOf d X Z hk (show 3 < 6 by omega)).mono (fun r hr => ?_)
  rw [jm4 hk, show 10 + 6 * k = 7 + 6 * k + 3 by omega]
  exact hr
theorem l_of4 (d : Nat) (X Z : Nat → Nat → Int32) {T : Nat} (hI : RK T (X 64)) {k : Nat} (hk : k < jn (jm (X 64))) : EC (d + 1) 133 [.ref 63, .int (nI k), .int (nI 4)] (Wd X Z) (PI (bI (sDone (jm (X 64)) k)) (Wd X Z)) := by
  have h8 := jn8 hI.ij
  refine (l_rOf d X Z (show k < 8 by omega) (show 4 < 6 by omega)).mono (fun r hr => ?_)
  rw [← hI.done hk, show 11 + 6 * k = 7 + 6 * k + 4 by omega]
  exact hr
theorem l_of5 (d : Nat) (X Z : Nat → Nat → Int32) {T : Nat} (hI : RK T (X 64)) {k : Nat} (hk : k < jn (jm (X 64))) : EC (d + 1) 133 [.ref 63, .int (nI k), .int (nI 5)] (Wd X Z) (PI (bI (sBit (jm (X 64) 0 7) (nI k))) (Wd X Z)) := by
  have h8 := jn8 hI.ij
  refine (l_rOf d X Z (show k < 8 by omega) (show 5 < 6 by omega)).mono (fun r hr => ?_)
  rw [← hI.wrong hk, show 12 + 6 * k = 7 + 6 * k + 5 by omega]
  exact hr
theorem l_rTiredJ (d : Nat) (X Z : Nat → Nat → Int32) {T : Nat} (hI : RK T (X 64)) (hT : T < 2 ^ 31) : EC (d + 2) 140 [.ref 63] (Wd X Z) (PI (sTired (jm (X 64))) (Wd X Z)) := by
  rw [← tired_eq hI.ij hT]
  exact l_rTired d X Z
set_option maxRecDepth 100000 in
set_option maxHeartbeats 4000000 in
theorem l_rLastsOf (d : Nat) (X Z : Nat → Nat → Int32) {T : Nat} (hI : RK T (X 64)) (hT : T < 2 ^ 31) {k : Nat} (hk : k < jn (jm (X 64))) : EC (d + 4) 139 [.ref 63, .int (nI k)] (Wd X Z) (RI (sLasts (jm (X 64)) k) X) := by
  refine er_enter (L := [(0, _), (1, _)]) rfl rfl rfl ?_
  have h8 := jn8 hI.ij
  have hk8 : k < 8 := by omega
  have hq := kind7 hI.ij k
  refine er_loc (pc' := 1) rfl rfl rfl ?_
  refine er_loc (pc' := 2) rfl rfl rfl ?_
  refine er_k (pc' := 3) (nI 2) rfl rfl rfl ?_
  refine er_cIi (pc' := 6) (rest := []) 12 rfl rfl rfl rfl rfl rfl (l_of2 _ X _ (by omega)) ?_
  refine er_loc (pc' := 7) (L' := [(2, _), (0, _), (1, _)]) rfl rfl rfl ?_
  refine er_loc (pc' := 8) rfl rfl rfl ?_
  refine er_loc (pc' := 9) rfl rfl rfl ?_
  refine er_k (pc' := 10) (nI 1) rfl rfl rfl ?_
  refine er_cIi (pc' := 13) (rest := []) 12 rfl rfl rfl rfl rfl rfl (l_of1 _ X _ (by omega)) ?_
  refine er_loc (pc' := 14) (L' := [(3, _), (2, _), (0, _), (1, _)]) rfl rfl rfl ?_
  refine er_loc (pc' := 15) rfl rfl rfl ?_
  refine er_k (pc' := 16) (nI 0) rfl rfl rfl ?_
  refine er_loc (pc' := 17) rfl rfl rfl ?_
  refine er_loc (pc' := 18) rfl rfl rfl ?_
  refine er_loc (pc' := 19) rfl rfl rfl ?_
  refine er_cIi (pc' := 22) (rest := [_, _, _, _]) 12 rfl rfl rfl rfl rfl rfl (l_rTiredJ _ X _ hI hT) ?_
  refine er_cIz (pc' := 25) (rest := []) 12 rfl rfl rfl rfl rfl rfl (l_rGives0 _ X _ hI _ _ _) ?_
  intro Z2
  refine er_loc (pc' := 27) (L' := [(4, _), (3, _), (2, _), (0, _), (1, _)]) rfl rfl rfl ?_
  refine er_loc (pc' := 28) rfl rfl rfl ?_
  refine er_gf (pc' := 31) (_) rfl rfl rfl rfl rfl ?_
  refine er_k (pc' := 32) (nI 3) rfl rfl rfl ?_
  refine er_ia (pc' := 33) (3) rfl rfl rfl rfl (by omega) rfl rfl ?_
  refine er_k (pc' := 34) (nI 1) rfl rfl rfl ?_
  refine er_cm_ne (pc' := 37) rfl rfl (fun h34 => ?_) (fun h34 => ?_)
  · refine er_loc rfl rfl rfl ?_
    refine er_loc (pc' := 48) (L' := [(5, _), (4, _), (3, _), (2, _), (0, _), (1, _)]) rfl rfl rfl ?_
    refine er_loc (pc' := 49) rfl rfl rfl ?_
    refine er_loc (pc' := 50) rfl rfl rfl ?_
    refine er_k (pc' := 51) (nI 0) rfl rfl rfl ?_
    refine er_cIi (pc' := 54) (rest := []) 12 rfl rfl rfl rfl rfl rfl (l_of0 _ X _ hI (by omega)) ?_
    rcases lt7 hq with e | e | e | e | e | e | e
    · rw [e]
      refine er_swT (0) rfl (by decide +kernel) rfl ?_
      refine er_loc (pc' := 128) rfl rfl rfl ?_
      refine er_iret rfl rfl ?_
      refine RI_of ?_ rfl
      unfold sLasts
      rw [e]
      rfl
    · rw [e]
      refine er_swT (1) rfl (by decide +kernel) rfl ?_
      refine er_loc (pc' := 94) rfl rfl rfl ?_
      refine er_k (pc' := 95) (nI 1) rfl rfl rfl ?_
      refine er_iadd (pc' := 96) rfl rfl ?_
      refine er_iret rfl rfl ?_
      refine RI_of ?_ rfl
      unfold sLasts
      rw [e]
      rfl
    · rw [e]
      refine er_swT (2) rfl (by decide +kernel) rfl ?_
      refine er_loc (pc' := 99) rfl rfl rfl ?_
      refine er_k (pc' := 100) (nI 2) rfl rfl rfl ?_
      refine er_iadd (pc' := 101) rfl rfl ?_
      refine er_iret rfl rfl ?_
      refine RI_of ?_ rfl
      unfold sLasts
      rw [e]
      rfl
    · rw [e]
      refine er_swT (3) rfl (by decide +kernel) rfl ?_
      refine er_loc (pc' := 104) rfl rfl rfl ?_
      refine er_iret rfl rfl ?_
      refine RI_of ?_ rfl
      unfold sLasts
      rw [e]
      show _ = (if jm (X 64) 0 8 = nI 1 then _ * nI 2 else _)
      rw [if_neg (show ¬ jm (X 64) 0 8 = nI 1 from h34)]
    · rw [e]
      refine er_swT (4) rfl (by decide +kernel) rfl ?_
      refine er_loc (pc' := 107) rfl rfl rfl ?_
      refine er_k (pc' := 108) (nI 1) rfl rfl rfl ?_
      refine er_iadd (pc' := 109) rfl rfl ?_
      refine er_loc (pc' := 110) rfl rfl rfl ?_
      refine er_k (pc' := 111) (nI 3) rfl rfl rfl ?_
      refine er_irem (pc' := 112) rfl rfl (by decide) ?_
      refine er_iadd (pc' := 113) rfl rfl ?_
      refine er_iret rfl rfl ?_
      refine RI_of ?_ rfl
      unfold sLasts
      rw [e]
      rfl
    · rw [e]
      refine er_swT (5) rfl (by decide +kernel) rfl ?_
      refine er_loc (pc' := 116) rfl rfl rfl ?_
      refine er_k (pc' := 117) (nI 2) rfl rfl rfl ?_
      refine er_iadd (pc' := 118) rfl rfl ?_
      refine er_loc (pc' := 119) rfl rfl rfl ?_
      refine er_iadd (pc' := 120) rfl rfl ?_
      refine er_iret rfl rfl ?_
      refine RI_of ?_ rfl
      unfold sLasts
      rw [e]
      rfl
    · rw [e]
      refine er_swT (6) rfl (by decide +kernel) rfl ?_
      refine er_loc (pc' := 123) rfl rfl rfl ?_
      refine er_loc (pc' := 124) rfl rfl rfl ?_
      refine er_iadd (pc' := 125) rfl rfl ?_
      refine er_iret rfl rfl ?_
      refine RI_of ?_ rfl
      unfold sLasts
      rw [e]
      show _ = (if jm (X 64) 0 8 = nI 1 then _ * nI 2 else _) + _
      rw [if_neg (show ¬ jm (X 64) 0 8 = nI 1 from h34)]
  · refine er_k (nI 2) rfl rfl rfl ?_
    refine er_loc (pc' := 40) rfl rfl rfl ?_
    refine er_imul (pc' := 41) rfl rfl ?_
    refine er_goto rfl ?_
    refine er_loc (pc' := 48) (L' := [(5, _), (4, _), (3, _), (2, _), (0, _), (1, _)]) rfl rfl rfl ?_
    refine er_loc (pc' := 49) rfl rfl rfl ?_
    refine er_loc (pc' := 50) rfl rfl rfl ?_
    refine er_k (pc' := 51) (nI 0) rfl rfl rfl ?_
    refine er_cIi (pc' := 54) (rest := []) 12 rfl rfl rfl rfl rfl rfl (l_of0 _ X _ hI (by omega)) ?_
    rcases lt7 hq with e | e | e | e | e | e | e
    · rw [e]
      refine er_swT (0) rfl (by decide +kernel) rfl ?_
      refine er_loc (pc' := 128) rfl rfl rfl ?_
      refine er_iret rfl rfl ?_
      refine RI_of ?_ rfl
      unfold sLasts
      rw [e]
      rfl
    · rw [e]
      refine er_swT (1) rfl (by decide +kernel) rfl ?_
      refine er_loc (pc' := 94) rfl rfl rfl ?_
      refine er_k (pc' := 95) (nI 1) rfl rfl rfl ?_
      refine er_iadd (pc' := 96) rfl rfl ?_
      refine er_iret rfl rfl ?_
      refine RI_of ?_ rfl
      unfold sLasts
      rw [e]
      rfl
    · rw [e]
      refine er_swT (2) rfl (by decide +kernel) rfl ?_
      refine er_loc (pc' := 99) rfl rfl rfl ?_
      refine er_k (pc' := 100) (nI 2) rfl rfl rfl ?_
      refine er_iadd (pc' := 101) rfl rfl ?_
      refine er_iret rfl rfl ?_
      refine RI_of ?_ rfl
      unfold sLasts
      rw [e]
      rfl
    · rw [e]
      refine er_swT (3) rfl (by decide +kernel) rfl ?_
      refine er_loc (pc' := 104) rfl rfl rfl ?_
      refine er_iret rfl rfl ?_
      refine RI_of ?_ rfl
      unfold sLasts
      rw [e]
      show _ = (if jm (X 64) 0 8 = nI 1 then _ * nI 2 else _)
      rw [if_pos (show jm (X 64) 0 8 = nI 1 from h34), Int32.mul_comm]
    · rw [e]
      refine er_swT (4) rfl (by decide +kernel) rfl ?_
      refine er_loc (pc' := 107) rfl rfl rfl ?_
      refine er_k (pc' := 108) (nI 1) rfl rfl rfl ?_
      refine er_iadd (pc' := 109) rfl rfl ?_
      refine er_loc (pc' := 110) rfl rfl rfl ?_
      refine er_k (pc' := 111) (nI 3) rfl rfl rfl ?_
      refine er_irem (pc' := 112) rfl rfl (by decide) ?_
      refine er_iadd (pc' := 113) rfl rfl ?_
      refine er_iret rfl rfl ?_
      refine RI_of ?_ rfl
      unfold sLasts
      rw [e]
      rfl
    · rw [e]
      refine er_swT (5) rfl (by decide +kernel) rfl ?_
      refine er_loc (pc' := 116) rfl rfl rfl ?_
      refine er_k (pc' := 117) (nI 2) rfl rfl rfl ?_
      refine er_iadd (pc' := 118) rfl rfl ?_
      refine er_loc (pc' := 119) rfl rfl rfl ?_
      refine er_iadd (pc' := 120) rfl rfl ?_
      refine er_iret rfl rfl ?_
      refine RI_of ?_ rfl
      unfold sLasts
      rw [e]
      rfl
    · rw [e]
      refine er_swT (6) rfl (by decide +kernel) rfl ?_
      refine er_loc (pc' := 123) rfl rfl rfl ?_
      refine er_loc (pc' := 124) rfl rfl rfl ?_
      refine er_iadd (pc' := 125) rfl rfl ?_
      refine er_iret rfl rfl ?_
      refine RI_of ?_ rfl
      unfold sLasts
      rw [e]
      show _ = (if jm (X 64) 0 8 = nI 1 then _ * nI 2 else _) + _
      rw [if_pos (show jm (X 64) 0 8 = nI 1 from h34), Int32.mul_comm]
set_option maxRecDepth 100000 in
set_option maxHeartbeats 4000000 in
theorem l_rBackOf (d : Nat) (X Z : Nat → Nat → Int32) {T : Nat} (hI : RK T (X 64)) (hT : T < 2 ^ 31) {k : Nat} (hk : k < jn (jm (X 64))) : EC (d + 5) 145 [.ref 63, .int (nI k)] (Wd X Z) (RI (sBack (jm (X 64)) k) X) := by
  refine er_enter (L := [(0, _), (1, _)]) rfl rfl rfl ?_
  have h8 := jn8 hI.ij
  have hk8 : k < 8 := by omega
  have hq := kind7 hI.ij k
  refine er_loc (pc' := 1) rfl rfl rfl ?_
  refine er_loc (pc' := 2) rfl rfl rfl ?_
  refine er_cIz (pc' := 5) (rest := []) 12 rfl rfl rfl rfl rfl rfl (l_rLastsOf _ X _ hI hT hk) ?_
  intro Z2
  refine er_loc (pc' := 6) (L' := [(2, _), (0, _), (1, _)]) rfl rfl rfl ?_
  refine er_loc (pc' := 7) rfl rfl rfl ?_
  refine er_loc (pc' := 8) rfl rfl rfl ?_
  refine er_k (pc' := 9) (nI 0) rfl rfl rfl ?_
  refine er_cIi (pc' := 12) (rest := []) 12 rfl rfl rfl rfl rfl rfl (l_of0 _ X _ hI (by omega)) ?_
  refine er_k (pc' := 13) (nI 3) rfl rfl rfl ?_
  refine er_cm_eq (pc' := 16) rfl rfl (fun h13 => ?_) (fun h13 => ?_)
  · have hb : sBackOf (sKind (jm (X 64)) k) (sLasts (jm (X 64)) k) = sLasts (jm (X 64)) k := if_pos (Or.inl (nIj (by omega) (by omega) h13))
    refine er_loc (pc' := 28) rfl rfl rfl ?_
    refine er_goto rfl ?_
    refine er_iret rfl rfl ?_
    exact RI_of hb.symm rfl
  · refine er_loc (pc' := 17) rfl rfl rfl ?_
    refine er_loc (pc' := 18) rfl rfl rfl ?_
    refine er_k (pc' := 19) (nI 0) rfl rfl rfl ?_
    refine er_cIi (pc' := 22) (rest := []) 12 rfl rfl rfl rfl rfl rfl (l_of0 _ X _ hI (by omega)) ?_
    refine er_k (pc' := 24) (nI 6) rfl rfl rfl ?_
    refine er_cm_ne (pc' := 27) rfl rfl (fun h24 => ?_) (fun h24 => ?_)
    · have hb : sBackOf (sKind (jm (X 64)) k) (sLasts (jm (X 64)) k) = sLasts (jm (X 64)) k / nI 2 := if_neg (fun hh => by rcases hh with hh | hh; exact h13 (by rw [hh]); exact h24 (by rw [hh]))
      refine er_loc (pc' := 32) rfl rfl rfl ?_
      refine er_k (pc' := 33) (nI 2) rfl rfl rfl ?_
      refine er_idiv (pc' := 34) rfl rfl (by decide) ?_
      refine er_iret rfl rfl ?_
      exact RI_of hb.symm rfl
    · have hb : sBackOf (sKind (jm (X 64)) k) (sLasts (jm (X 64)) k) = sLasts (jm (X 64)) k := if_pos (Or.inr (nIj (by omega) (by omega) h24))
      refine er_loc (pc' := 28) rfl rfl rfl ?_
      refine er_goto rfl ?_
      refine er_iret rfl rfl ?_
      exact RI_of hb.symm rfl
set_option maxRecDepth 100000 in
set_option maxHeartbeats 4000000 in
theorem l_rErrsOf (d : Nat) (X Z : Nat → Nat → Int32) {T : Nat} (hI : RK T (X 64)) {k : Nat} (hk8 : k < 8) (t : Int32) : EC (d + 4) 167 [.ref 63, .int (nI k), .int t] (Wd X Z) (RI (sErrsBy (jm (X 64)) (jm (X 64) 2 k) t (jm (X 64) 1 k)) X) := by
  refine er_enter (L := [(0, _), (1, _), (2, _)]) rfl rfl rfl ?_
  refine er_loc (pc' := 1) rfl rfl rfl ?_
  refine er_k (pc' := 2) (nI 1) rfl rfl rfl ?_
  refine er_loc (pc' := 3) rfl rfl rfl ?_
  refine er_loc (pc' := 4) rfl rfl rfl ?_
  refine er_k (pc' := 5) (nI 1) rfl rfl rfl ?_
  refine er_cIi (pc' := 8) (rest := [_, _]) 12 rfl rfl rfl rfl rfl rfl (l_of1 _ X _ (by omega)) ?_
  refine er_loc (pc' := 9) rfl rfl rfl ?_
  refine er_loc (pc' := 10) rfl rfl rfl ?_
  refine er_loc (pc' := 11) rfl rfl rfl ?_
  refine er_k (pc' := 12) (nI 0) rfl rfl rfl ?_
  refine er_cIi (pc' := 15) (rest := [_, _, _, _]) 12 rfl rfl rfl rfl rfl rfl (l_of0 _ X _ hI (by omega)) ?_
  refine er_cIz (pc' := 18) (rest := []) 12 rfl rfl rfl rfl rfl rfl (l_rGives1 _ X _ hI _ _ _) ?_
  intro Z2
  refine er_iret rfl rfl ?_
  refine RI_of ?_ rfl
  rw [show jm (X 64) 1 k = nI (sKind (jm (X 64)) k) from (hI.ij.kind k).1]
theorem mayDo_eq {J : Nat → Nat → Int32} {k : Nat} (hk : k < jn J) : sMayDo J k = (!sDone J k && (decide ((J 4 k &&& (J 0 6 ^^^ (-1))) = 0) && !decide (J 0 9 < J 3 k)) && !decide (J 0 8 < sHands (sKind J k))) := by
  unfold sMayDo sReady
  rw [decide_eq_true hk, Bool.true_and]
theorem hands_a {v : Int32} {q : Nat} (h : v = nI 1 ∨ v = nI 2) (hq : ¬ nI q = nI 6) : ¬ v < sHands q := by
  rw [show sHands q = nI 1 from if_neg (fun e => hq (by rw [e]))]
  rcases h with h | h <;> subst h <;> decide +kernel
theorem hands_b {v : Int32} {q : Nat} (h : v = nI 1 ∨ v = nI 2) (hq : q = 6) (h2 : ¬ v = nI 2) : v < sHands q := by
  rw [show sHands q = nI 2 from if_pos hq]
  rcases h with h | h
  · subst h; decide +kernel
  · exact absurd h h2
theorem hands_c {v : Int32} {q : Nat} (h2 : v = nI 2) : ¬ v < sHands q := by
  subst h2
  unfold sHands
  split <;> decide +kernel
def yNd (J : Nat → Nat → Int32) (s : Nat) : Nat → Int32
  | 0 => nI 0
  | i + 1 => yNd J s i ||| (if sDone J i = true ∧ bt (J 4 i) s = true then nI 1 <<< (nI i &&& 31) else nI 0)
theorem bt_yNd {J : Nat → Nat → Int32} {s : Nat} : ∀ {n : Nat}, n ≤ 8 → ∀ i, bt (yNd J s n) i = (decide (i < n) && sDone J i && bt (J 4 i) s)
  | 0, _, i => by
    rw [show yNd J s 0 = nI 0 from rfl, bt_0, decide_eq_false (by omega)]
    rfl
  | n + 1, hn, i => by
    rw [show yNd J s (n + 1) = yNd J s n ||| (if sDone J n = true ∧ bt (J 4 n) s = true then nI 1 <<< (nI n &&& 31) else nI 0) from rfl, bt_or, bt_yNd (by omega) i]
    have e : bt (if sDone J n = true ∧ bt (J 4 n) s = true then nI 1 <<< (nI n &&& 31) else nI 0) i = (decide (i = n) && sDone J n && bt (J 4 n) s) := by
      by_cases h : sDone J n = true ∧ bt (J 4 n) s = true
      · rw [if_pos h, bt_one (by omega), h.1, h.2]
        simp
      · rw [if_neg h, bt_0]
        cases h1 : sDone J n with
        | false => simp
        | true =>
          cases h2 : bt (J 4 n) s with
          | false => simp
          | true => exact absurd ⟨h1, h2⟩ h
    rw [e]
    by_cases hi : i = n
    · subst hi
      rw [decide_eq_false (Nat.lt_irrefl i), decide_eq_true rfl, decide_eq_true (Nat.lt_succ_self i)]
      simp
    · have e2 : decide (i < n + 1) = decide (i < n) := decide_eq_decide.mpr (by omega)
      rw [e2, decide_eq_false hi]
      simp
theorem sNeed_ex {J : Nat → Nat → Int32} {k : Nat} (hk : k < 32) : ∀ {n : Nat}, sNeed J k n = true ↔ ∃ i, i < n ∧ k < i ∧ sDone J i = true ∧ bt (J 4 i) k = true
  | 0 => ⟨fun h => (by cases h), fun ⟨i, h, _⟩ => (by omega)⟩
  | n + 1 => by
    rw [show sNeed J k (n + 1) = (sNeed J k n || (decide (k < n) && sDone J n && sBit (J 4 n) (nI k))) from rfl, Bool.or_eq_true, sNeed_ex hk, sBit_bt hk]
    simp only [Bool.and_eq_true, decide_eq_true_eq]
    constructor
    · rintro (⟨i, h1, h2⟩ | ⟨⟨h1, h2⟩, h3⟩)
      · exact ⟨i, by omega, h2⟩
      · exact ⟨n, by omega, h1, h2, h3⟩
    · rintro ⟨i, h1, h2, h3, h4⟩
      by_cases hi : i = n
      · subst hi; exact Or.inr ⟨⟨h2, h3⟩, h4⟩
      · exact Or.inl ⟨i, by omega, h2, h3, h4⟩
theorem yNd_0 {T : Nat} {J : Nat → Nat → Int32} (hI : IJ T J) {k : Nat} (hk : k < jn J) : (yNd J k (jn J) = 0) ↔ sNeed J k (jn J) = false := by
  have h8 := jn8 hI
  rw [show (0 : Int32) = nI 0 from by decide +kernel]
  constructor
  · intro h
    cases hs : sNeed J k (jn J) with
    | false => rfl
    | true =>
      obtain ⟨i, h1, h2, h3, h4⟩ := (sNeed_ex (by omega)).mp hs
      have h5 : bt (yNd J k (jn J)) i = bt (nI 0) i := by rw [h]
      rw [bt_yNd h8, bt_0, decide_eq_true h1, h3, h4] at h5
      cases h5
  · intro h
    apply bt_ext
    intro i _
    rw [bt_yNd h8, bt_0]
    cases hb : (decide (i < jn J) && sDone J i && bt (J 4 i) k) with
    | false => rfl
    | true =>
      simp only [Bool.and_eq_true, decide_eq_true_eq] at hb
      obtain ⟨⟨h1, h2⟩, h3⟩ := hb
      rw [(sNeed_ex (by omega)).mpr ⟨i, h1, hI.needs i k h3, h2, h3⟩] at h
      cases h
set_option maxRecDepth 100000 in
set_option maxHeartbeats 4000000 in
theorem l_rMayDo (d : Nat) (X Z : Nat → Nat → Int32) {T : Nat} (hI : RK T (X 64)) {k : Nat} (hk : k < jn (jm (X 64))) : EC (d + 3) 134 [.ref 63, .int (nI k)] (Wd X Z) (PI (bI (sMayDo (jm (X 64)) k)) (Wd X Z)) := by
  refine er_enter (L := [(0, _), (1, _)]) rfl rfl rfl ?_
  have h8 := jn8 hI.ij
  have hk8 : k < 8 := by omega
  have hq := kind7 hI.ij k
  have hh2 := hI.ij.hands
  refine er_loc (pc' := 1) rfl rfl rfl ?_
  refine er_loc (pc' := 2) rfl rfl rfl ?_
  refine er_k (pc' := 3) (nI 4) rfl rfl rfl ?_
  refine er_cIi (pc' := 6) (rest := []) 12 rfl rfl rfl rfl rfl rfl (l_of4 _ X _ hI (by omega)) ?_
  refine er_if_neb (pc' := 9) rfl rfl (fun h6 => ?_) (fun h6 => ?_)
  · have hw : sMayDo (jm (X 64)) k = false := by rw [mayDo_eq hk, h6]; rfl
    refine er_k (pc' := 30) (nI 0) rfl rfl rfl ?_
    refine er_loc (pc' := 31) (L' := [(2, _), (0, _), (1, _)]) rfl rfl rfl ?_
    refine er_loc (pc' := 32) rfl rfl rfl ?_
    refine er_if_eqT rfl (by decide +kernel) ?_
    refine er_k (pc' := 76) (nI 0) rfl rfl rfl ?_
    refine er_ret _ rfl rfl ?_
    exact PI_of (bI_eq0 hw)
  · refine er_loc (pc' := 10) rfl rfl rfl ?_
    refine er_loc (pc' := 11) rfl rfl rfl ?_
    refine er_k (pc' := 12) (nI 3) rfl rfl rfl ?_
    refine er_cIi (pc' := 15) (rest := []) 12 rfl rfl rfl rfl rfl rfl (l_of3 _ X _ (by omega)) ?_
    refine er_loc (pc' := 16) rfl rfl rfl ?_
    refine er_cIi (pc' := 19) (rest := [_]) 12 rfl rfl rfl rfl rfl rfl (l_rDone _ X _ (n := jn (jm (X 64))) hI.n hI.n8) ?_
    rw [show rB (X 64) 11 (jn (jm (X 64))) = jm (X 64) 0 6 from rfl]
    refine er_k (pc' := 20) (-1) rfl rfl rfl ?_
    refine er_ixor (pc' := 21) rfl rfl ?_
    refine er_iand (pc' := 22) rfl rfl ?_
    refine er_if_ne (pc' := 25) rfl rfl (fun h22 => ?_) (fun h22 => ?_)
    · have hw : sMayDo (jm (X 64)) k = false := by rw [mayDo_eq hk, decide_eq_false h22]; simp
      refine er_k (pc' := 30) (nI 0) rfl rfl rfl ?_
      refine er_loc (pc' := 31) (L' := [(2, _), (0, _), (1, _)]) rfl rfl rfl ?_
      refine er_loc (pc' := 32) rfl rfl rfl ?_
      refine er_if_eqT rfl (by decide +kernel) ?_
      refine er_k (pc' := 76) (nI 0) rfl rfl rfl ?_
      refine er_ret _ rfl rfl ?_
      exact PI_of (bI_eq0 hw)
    · refine er_k (pc' := 26) (nI 1) rfl rfl rfl ?_
      refine er_goto rfl ?_
      refine er_loc (pc' := 31) (L' := [(2, _), (0, _), (1, _)]) rfl rfl rfl ?_
      refine er_loc (pc' := 32) rfl rfl rfl ?_
      refine er_if_eqF (pc' := 35) rfl (by decide +kernel) rfl ?_
      refine er_loc (pc' := 36) rfl rfl rfl ?_
      refine er_gf (pc' := 39) (_) rfl rfl rfl rfl rfl ?_
      refine er_k (pc' := 40) (nI 4) rfl rfl rfl ?_
      refine er_ia (pc' := 41) (4) rfl rfl rfl rfl (by omega) rfl rfl ?_
      refine er_loc (pc' := 42) rfl rfl rfl ?_
      refine er_loc (pc' := 43) rfl rfl rfl ?_
      refine er_k (pc' := 44) (nI 2) rfl rfl rfl ?_
      refine er_cIi (pc' := 47) (rest := [_]) 12 rfl rfl rfl rfl rfl rfl (l_of2 _ X _ (by omega)) ?_
      refine er_cm_lt (pc' := 50) rfl rfl (fun h47 => ?_) (fun h47 => ?_)
      · have hw : sMayDo (jm (X 64)) k = false := by rw [mayDo_eq hk, show jm (X 64) 0 9 = X 64 4 from rfl, decide_eq_true h47]; simp
        refine er_k (pc' := 76) (nI 0) rfl rfl rfl ?_
        refine er_ret _ rfl rfl ?_
        exact PI_of (bI_eq0 hw)
      · refine er_loc (pc' := 51) rfl rfl rfl ?_
        refine er_loc (pc' := 52) rfl rfl rfl ?_
        refine er_k (pc' := 53) (nI 0) rfl rfl rfl ?_
        refine er_cIi (pc' := 56) (rest := []) 12 rfl rfl rfl rfl rfl rfl (l_of0 _ X _ hI (by omega)) ?_
        refine er_k (pc' := 58) (nI 6) rfl rfl rfl ?_
        refine er_cm_ne (pc' := 61) rfl rfl (fun h58 => ?_) (fun h58 => ?_)
        · have hw : sMayDo (jm (X 64)) k = true := by rw [mayDo_eq hk, h6, decide_eq_true h22, show jm (X 64) 0 9 = X 64 4 from rfl, decide_eq_false h47, decide_eq_false (hands_a hh2 h58)]; rfl
          refine er_k (pc' := 72) (nI 1) rfl rfl rfl ?_
          refine er_goto rfl ?_
          refine er_ret _ rfl rfl ?_
          exact PI_of (bI_eq1 hw)
        · refine er_loc (pc' := 62) rfl rfl rfl ?_
          refine er_gf (pc' := 65) (_) rfl rfl rfl rfl rfl ?_
          refine er_k (pc' := 66) (nI 3) rfl rfl rfl ?_
          refine er_ia (pc' := 67) (3) rfl rfl rfl rfl (by omega) rfl rfl ?_
          refine er_k (pc' := 68) (nI 2) rfl rfl rfl ?_
          refine er_cm_ne (pc' := 71) rfl rfl (fun h68 => ?_) (fun h68 => ?_)
          · have hw : sMayDo (jm (X 64)) k = false := by rw [mayDo_eq hk, decide_eq_true (hands_b hh2 (nIj (by omega) (by omega) h58) h68)]; simp
            refine er_k (pc' := 76) (nI 0) rfl rfl rfl ?_
            refine er_ret _ rfl rfl ?_
            exact PI_of (bI_eq0 hw)
          · have hw : sMayDo (jm (X 64)) k = true := by rw [mayDo_eq hk, h6, decide_eq_true h22, show jm (X 64) 0 9 = X 64 4 from rfl, decide_eq_false h47, decide_eq_false (hands_c (q := sKind (jm (X 64)) k) (show jm (X 64) 0 8 = nI 2 from h68))]; rfl
            refine er_k (pc' := 72) (nI 1) rfl rfl rfl ?_
            refine er_goto rfl ?_
            refine er_ret _ rfl rfl ?_
            exact PI_of (bI_eq1 hw)
set_option maxRecDepth 100000 in
set_option maxHeartbeats 4000000 in
theorem l_rNd_loop (d : Nat) (X Z : Nat → Nat → Int32) {T : Nat} (hI : RK T (X 64)) {s : Nat} (hs : s < 32) : ∀ (m i : Nat) (x v : Int32), i + m = jn (jm (X 64)) → x = nI i → v = yNd (jm (X 64)) s i → ER (d + 1) tb_m138 4 [(0, .ref 63), (1, .int (nI s)), (2, .int v), (3, .int x)] [] (Wd X Z) (PI (yNd (jm (X 64)) s (jn (jm (X 64)))) (Wd X Z))
  | 0, i, x, v, hi, hx, hv => by
    have h8 := jn8 hI.ij
    have hi : i = jn (jm (X 64)) := by omega
    subst hx
    subst hv
    subst hi
    refine er_loc (pc' := 5) rfl rfl rfl ?_
    refine er_loc (pc' := 6) rfl rfl rfl ?_
    refine er_gf (pc' := 9) (_) rfl rfl rfl rfl rfl ?_
    refine er_k (pc' := 10) (nI 2) rfl rfl rfl ?_
    refine er_ia (pc' := 11) (2) rfl rfl rfl rfl (by omega) rfl rfl ?_
    rw [hI.n]
    refine er_cm_geT rfl (nI_nlt (by omega) (by omega)) ?_
    refine er_loc (pc' := 55) rfl rfl rfl ?_
    refine er_iret rfl rfl ?_
    exact PI_of rfl
  | m + 1, i, x, v, hi, hx, hv => by
    have h8 := jn8 hI.ij
    have hi8 : i < 8 := by omega
    subst hx
    subst hv
    cases hdn : sDone (jm (X 64)) i with
    | false =>
      refine er_loc (pc' := 5) rfl rfl rfl ?_
      refine er_loc (pc' := 6) rfl rfl rfl ?_
      refine er_gf (pc' := 9) (_) rfl rfl rfl rfl rfl ?_
      refine er_k (pc' := 10) (nI 2) rfl rfl rfl ?_
      refine er_ia (pc' := 11) (2) rfl rfl rfl rfl (by omega) rfl rfl ?_
      rw [hI.n]
      refine er_cm_geF (pc' := 14) rfl (nI_lt (by omega) (by omega)) rfl ?_
      refine er_loc (pc' := 15) rfl rfl rfl ?_
      refine er_loc (pc' := 16) rfl rfl rfl ?_
      refine er_loc (pc' := 17) rfl rfl rfl ?_
      refine er_k (pc' := 18) (nI 4) rfl rfl rfl ?_
      refine er_cIi (pc' := 21) (rest := [_]) 12 rfl rfl rfl rfl rfl rfl (l_of4 _ X _ hI (by omega)) ?_
      rw [hdn]
      refine er_k (pc' := 22) (nI 1) rfl rfl rfl ?_
      refine er_cm_neT rfl (by decide +kernel) ?_
      refine er_k (nI 0) rfl rfl rfl ?_
      refine er_ior rfl rfl ?_
      refine er_loc (L' := [(2, _), (0, _), (1, _), (3, _)]) rfl rfl rfl ?_
      refine er_loc (L' := [(3, .int (_ + nI 1)), (2, _), (0, _), (1, _)]) rfl rfl rfl ?_
      refine er_goto rfl ?_
      refine ER_loc [(0, _), (1, _), (2, _), (3, _)] rfl (List.forall_mem_cons.mpr ⟨rfl, List.forall_mem_cons.mpr ⟨rfl, List.forall_mem_cons.mpr ⟨rfl, List.forall_mem_cons.mpr ⟨rfl, fun _ h => absurd h List.not_mem_nil⟩⟩⟩⟩) rfl rfl ?_
      refine l_rNd_loop d X Z hI hs m (i + 1) _ _ (by omega) (nI_add i 1) ?_
      show _ = yNd _ _ _ ||| (if _ then _ else _)
      rw [if_neg (fun hh => by rw [hdn] at hh; cases hh.1)]
    | true =>
      refine er_loc (pc' := 5) rfl rfl rfl ?_
      refine er_loc (pc' := 6) rfl rfl rfl ?_
      refine er_gf (pc' := 9) (_) rfl rfl rfl rfl rfl ?_
      refine er_k (pc' := 10) (nI 2) rfl rfl rfl ?_
      refine er_ia (pc' := 11) (2) rfl rfl rfl rfl (by omega) rfl rfl ?_
      rw [hI.n]
      refine er_cm_geF (pc' := 14) rfl (nI_lt (by omega) (by omega)) rfl ?_
      refine er_loc (pc' := 15) rfl rfl rfl ?_
      refine er_loc (pc' := 16) rfl rfl rfl ?_
      refine er_loc (pc' := 17) rfl rfl rfl ?_
      refine er_k (pc' := 18) (nI 4) rfl rfl rfl ?_
      refine er_cIi (pc' := 21) (rest := [_]) 12 rfl rfl rfl rfl rfl rfl (l_of4 _ X _ hI (by omega)) ?_
      rw [hdn]
      refine er_k (pc' := 22) (nI 1) rfl rfl rfl ?_
      refine er_cm_neF (pc' := 25) rfl (by decide +kernel) rfl ?_
      refine er_loc (pc' := 26) rfl rfl rfl ?_
      refine er_loc (pc' := 27) rfl rfl rfl ?_
      refine er_k (pc' := 28) (nI 3) rfl rfl rfl ?_
      refine er_cIi (pc' := 31) (rest := [_]) 12 rfl rfl rfl rfl rfl rfl (l_of3 _ X _ (by omega)) ?_
      refine er_loc (pc' := 32) rfl rfl rfl ?_
      refine er_ishr (pc' := 33) rfl rfl ?_
      refine er_k (pc' := 34) (nI 1) rfl rfl rfl ?_
      refine er_iand (pc' := 35) rfl rfl ?_
      refine er_k (pc' := 36) (nI 1) rfl rfl rfl ?_
      refine er_cm_ne (pc' := 39) rfl rfl (fun h36 => ?_) (fun h36 => ?_)
      · refine er_k (nI 0) rfl rfl rfl ?_
        refine er_ior rfl rfl ?_
        refine er_loc (L' := [(2, _), (0, _), (1, _), (3, _)]) rfl rfl rfl ?_
        refine er_loc (L' := [(3, .int (_ + nI 1)), (2, _), (0, _), (1, _)]) rfl rfl rfl ?_
        refine er_goto rfl ?_
        refine ER_loc [(0, _), (1, _), (2, _), (3, _)] rfl (List.forall_mem_cons.mpr ⟨rfl, List.forall_mem_cons.mpr ⟨rfl, List.forall_mem_cons.mpr ⟨rfl, List.forall_mem_cons.mpr ⟨rfl, fun _ h => absurd h List.not_mem_nil⟩⟩⟩⟩) rfl rfl ?_
        refine l_rNd_loop d X Z hI hs m (i + 1) _ _ (by omega) (nI_add i 1) ?_
        show _ = yNd _ _ _ ||| (if _ then _ else _)
        rw [if_neg (fun hh => h36 ((sar_bt (by omega)).mpr hh.2))]
      · refine er_k (nI 1) rfl rfl rfl ?_
        refine er_loc (pc' := 41) rfl rfl rfl ?_
        refine er_ishl (pc' := 42) rfl rfl ?_
        refine er_goto rfl ?_
        refine er_ior rfl rfl ?_
        refine er_loc (L' := [(2, _), (0, _), (1, _), (3, _)]) rfl rfl rfl ?_
        refine er_loc (L' := [(3, .int (_ + nI 1)), (2, _), (0, _), (1, _)]) rfl rfl rfl ?_
        refine er_goto rfl ?_
        refine ER_loc [(0, _), (1, _), (2, _), (3, _)] rfl (List.forall_mem_cons.mpr ⟨rfl, List.forall_mem_cons.mpr ⟨rfl, List.forall_mem_cons.mpr ⟨rfl, List.forall_mem_cons.mpr ⟨rfl, fun _ h => absurd h List.not_mem_nil⟩⟩⟩⟩) rfl rfl ?_
        refine l_rNd_loop d X Z hI hs m (i + 1) _ _ (by omega) (nI_add i 1) ?_
        show _ = yNd _ _ _ ||| (if _ then _ else _)
        rw [if_pos ⟨hdn, (sar_bt (by omega)).mp h36⟩]
set_option maxRecDepth 100000 in
set_option maxHeartbeats 4000000 in
theorem l_rNeeding (d : Nat) (X Z : Nat → Nat → Int32) {T : Nat} (hI : RK T (X 64)) {s : Nat} (hs : s < 32) : EC (d + 2) 138 [.ref 63, .int (nI s)] (Wd X Z) (PI (yNd (jm (X 64)) s (jn (jm (X 64)))) (Wd X Z)) := by
  refine er_enter (L := [(0, _), (1, _)]) rfl rfl rfl ?_
  refine er_k (pc' := 1) (nI 0) rfl rfl rfl ?_
  refine er_loc (pc' := 2) (L' := [(2, _), (0, _), (1, _)]) rfl rfl rfl ?_
  refine er_k (pc' := 3) (nI 0) rfl rfl rfl ?_
  refine er_loc (pc' := 4) (L' := [(3, _), (2, _), (0, _), (1, _)]) rfl rfl rfl ?_
  refine ER_loc [(0, _), (1, _), (2, _), (3, _)] rfl (List.forall_mem_cons.mpr ⟨rfl, List.forall_mem_cons.mpr ⟨rfl, List.forall_mem_cons.mpr ⟨rfl, List.forall_mem_cons.mpr ⟨rfl, fun _ h => absurd h List.not_mem_nil⟩⟩⟩⟩) rfl rfl ?_
  exact l_rNd_loop d X Z hI hs (jn (jm (X 64))) 0 _ _ (by omega) rfl rfl
theorem l_rNeverJ (d : Nat) (X Z : Nat → Nat → Int32) {T : Nat} (hI : RK T (X 64)) {k : Nat} (hk8 : k < 8) : EC (d + 2) 137 [.ref 63, .int (nI k)] (Wd X Z) (PI (bI (sNever (sKind (jm (X 64)) k))) (Wd X Z)) := by
  refine (l_rNever d X Z hk8).mono (fun r hr => ?_)
  have e : rNever (X 64) k = sNever (sKind (jm (X 64)) k) := by
    have hq := kind7 hI.ij k
    unfold rNever sNever
    rw [← jm1 (R := X 64) hk8, show jm (X 64) 1 k = nI (sKind (jm (X 64)) k) from (hI.ij.kind k).1]
    have e2 : decide (nI (sKind (jm (X 64)) k) = nI 2) = decide (sKind (jm (X 64)) k = 2) := decide_eq_decide.mpr ⟨fun h => nIj (by omega) (by omega) h, fun h => by rw [h]⟩
    have e5 : decide (nI (sKind (jm (X 64)) k) = nI 5) = decide (sKind (jm (X 64)) k = 5) := decide_eq_decide.mpr ⟨fun h => nIj (by omega) (by omega) h, fun h => by rw [h]⟩
    rw [e2, e5]
  rw [← e]
  exact hr
set_option maxRecDepth 100000 in
set_option maxHeartbeats 4000000 in
theorem l_rMayUn (d : Nat) (X Z : Nat → Nat → Int32) {T : Nat} (hI : RK T (X 64)) {k : Nat} (hk : k < jn (jm (X 64))) : EC (d + 3) 136 [.ref 63, .int (nI k)] (Wd X Z) (PI (bI (sMayUn (jm (X 64)) k)) (Wd X Z)) := by
  have h8 := jn8 hI.ij
  have hk8 : k < 8 := by omega
  have hq := kind7 hI.ij k
  cases hdn : sDone (jm (X 64)) k with
  | false =>
    refine er_enter (L := [(0, _), (1, _)]) rfl rfl rfl ?_
    refine er_loc (pc' := 1) rfl rfl rfl ?_
    refine er_loc (pc' := 2) rfl rfl rfl ?_
    refine er_k (pc' := 3) (nI 4) rfl rfl rfl ?_
    refine er_cIi (pc' := 6) (rest := []) 12 rfl rfl rfl rfl rfl rfl (l_of4 _ X _ hI hk) ?_
    rw [hdn]
    refine er_k (pc' := 7) (nI 1) rfl rfl rfl ?_
    refine er_cm_neT rfl (by decide +kernel) ?_
    refine er_k (pc' := 31) (nI 0) rfl rfl rfl ?_
    refine er_ret _ rfl rfl ?_
    have hw : sMayUn (jm (X 64)) k = false := by unfold sMayUn; rw [hdn]; simp
    exact PI_of (bI_eq0 hw)
  | true =>
    refine er_enter (L := [(0, _), (1, _)]) rfl rfl rfl ?_
    refine er_loc (pc' := 1) rfl rfl rfl ?_
    refine er_loc (pc' := 2) rfl rfl rfl ?_
    refine er_k (pc' := 3) (nI 4) rfl rfl rfl ?_
    refine er_cIi (pc' := 6) (rest := []) 12 rfl rfl rfl rfl rfl rfl (l_of4 _ X _ hI hk) ?_
    rw [hdn]
    refine er_k (pc' := 7) (nI 1) rfl rfl rfl ?_
    refine er_cm_neF (pc' := 10) rfl (by decide +kernel) rfl ?_
    refine er_loc (pc' := 11) rfl rfl rfl ?_
    refine er_loc (pc' := 12) rfl rfl rfl ?_
    refine er_cIi (pc' := 15) (rest := []) 12 rfl rfl rfl rfl rfl rfl (l_rNeverJ _ X _ hI (by omega)) ?_
    refine er_if_neb (pc' := 18) rfl rfl (fun h15 => ?_) (fun h15 => ?_)
    · have hw : sMayUn (jm (X 64)) k = false := by unfold sMayUn; rw [decide_eq_true hk, hdn, h15]; simp
      refine er_k (pc' := 31) (nI 0) rfl rfl rfl ?_
      refine er_ret _ rfl rfl ?_
      exact PI_of (bI_eq0 hw)
    · refine er_loc (pc' := 19) rfl rfl rfl ?_
      refine er_loc (pc' := 20) rfl rfl rfl ?_
      refine er_cIi (pc' := 23) (rest := []) 12 rfl rfl rfl rfl rfl rfl (l_rNeeding _ X _ hI (by omega)) ?_
      refine er_if_ne (pc' := 26) rfl rfl (fun h23 => ?_) (fun h23 => ?_)
      · have hw : sMayUn (jm (X 64)) k = false := by unfold sMayUn; rw [decide_eq_true hk, hdn, (by cases hb : sNeed (jm (X 64)) k (jn (jm (X 64))) with | true => rfl | false => exact absurd ((yNd_0 hI.ij hk).mpr hb) h23 : sNeed (jm (X 64)) k (jn (jm (X 64))) = true)]; simp
        refine er_k (pc' := 31) (nI 0) rfl rfl rfl ?_
        refine er_ret _ rfl rfl ?_
        exact PI_of (bI_eq0 hw)
      · have hw : sMayUn (jm (X 64)) k = true := by unfold sMayUn; rw [decide_eq_true hk, hdn, h15, (yNd_0 hI.ij hk).mp h23]; rfl
        refine er_k (pc' := 27) (nI 1) rfl rfl rfl ?_
        refine er_goto rfl ?_
        refine er_ret _ rfl rfl ?_
        exact PI_of (bI_eq1 hw)
end
section
/-! THE REFERENCE: done, undone, and the face that hangs on it -/
def WJ (J : Nat → Nat → Int32) (T : Nat) (X X' : Nat → Nat → Int32) : Prop := jm (X' 64) = J ∧ RK T (X' 64) ∧ (∀ c, c ≠ 64 → X' c = X c) ∧ ∀ k, 125 ≤ k → X' 64 k = X 64 k
def RNJ (v : Int32) (J : Nat → Nat → Int32) (T : Nat) (X : Nat → Nat → Int32) : ab_R → Prop := fun r => ∃ X' Z', r = (some (.int v), Wd X' Z') ∧ WJ J T X X'
def RVJ (J : Nat → Nat → Int32) (T : Nat) (X : Nat → Nat → Int32) : ab_R → Prop := fun r => ∃ X' Z', r = (none, Wd X' Z') ∧ WJ J T X X'
section ERJ
variable {d pc pc' lk : Nat} {M : ab_M} {L L' : ab_Lo} {st : List Value} {w : ab_W} {P : ab_R → Prop} {X Z : Nat → Nat → Int32}
theorem er_cIw (cls : Nat) {c j T : Nat} {J : Nat → Nat → Int32} {ins : Instr} {fs As rest : List Value} (hf : ab_fetch M.2.2.2.2.2.2.2 pc = some (ins, lk)) (hi : isCI ins = true) (hq : qI lk cls st = some (c, j, As, rest)) (hc : Nat.blt c 79 = true) (ho : cO c (X c) (Z c) = .inl (cls, fs)) (hp : pc + 3 = pc') (h : EC d j As (Wd X Z) (RVJ J T X)) (k : ∀ X' Z', WJ J T X X' → ER d M pc' L rest (Wd X' Z') P) : ER d M pc L st (Wd X Z) P :=
  er_cI cls hf hi hq hc ho hp h (fun r hr => by obtain ⟨X', Z', rfl, h1⟩ := hr; exact k X' Z' h1)
theorem er_cIj (cls : Nat) {c j T : Nat} {v : Int32} {J : Nat → Nat → Int32} {ins : Instr} {fs As rest : List Value} (hf : ab_fetch M.2.2.2.2.2.2.2 pc = some (ins, lk)) (hi : isCI ins = true) (hq : qI lk cls st = some (c, j, As, rest)) (hc : Nat.blt c 79 = true) (ho : cO c (X c) (Z c) = .inl (cls, fs)) (hp : pc + 3 = pc') (h : EC d j As (Wd X Z) (RNJ v J T X)) (k : ∀ X' Z', WJ J T X X' → ER d M pc' L (.int v :: rest) (Wd X' Z') P) : ER d M pc L st (Wd X Z) P :=
  er_cI cls hf hi hq hc ho hp h (fun r hr => by obtain ⟨X', Z', rfl, h1⟩ := hr; exact k X' Z' h1)
end ERJ
section WJS
variable {J J' : Nat → Nat → Int32} {T T' : Nat} {X Y V : Nat → Nat → Int32} {v : Int32} {k p : Nat} {R : Nat → Int32}
theorem WJ.j (h : WJ J T X Y) : jm (Y 64) = J := h.1
theorem WJ.rk (h : WJ J T X Y) : RK T (Y 64) := h.2.1
theorem WJ.off (h : WJ J T X Y) {c : Nat} (hc : c ≠ 64) : Y c = X c := h.2.2.1 c hc
theorem WJ.trans (h : WJ J T X Y) (h2 : WJ J' T' Y V) : WJ J' T' X V := ⟨h2.1, h2.2.1, fun c hc => (h2.2.2.1 c hc).trans (h.2.2.1 c hc), fun k hk => (h2.2.2.2 k hk).trans (h.2.2.2 k hk)⟩
theorem WJ.rf (h : RK T (X 64)) : WJ (jm (X 64)) T X X := ⟨rfl, h, fun _ _ => rfl, fun _ _ => rfl⟩
theorem WJ_u (hp : p < 125) (hj : jm (u1 (X 64) p v) = J) (hr : RK T (u1 (X 64) p v)) : WJ J T X (ud X 64 p v) := ⟨by rw [ud_same]; exact hj, by rw [ud_same]; exact hr, fun c hc => ud_ne hc, fun k hk => by rw [ud_same, u1_ne (by omega)]⟩
theorem RVJ_of {Z : Nat → Nat → Int32} (h : WJ J T X Y) : RVJ J T X (none, Wd Y Z) := ⟨Y, Z, rfl, h⟩
theorem RNJ_of {Z : Nat → Nat → Int32} {x : Int32} (hx : x = v) (h : WJ J T X Y) : RNJ v J T X (some (.int x), Wd Y Z) := ⟨Y, Z, by rw [hx], h⟩
theorem IJ.uWait (h : IJ T J) : IJ T (ud J 10 k v) := ⟨h.n, h.kind, h.m, h.sc, h.needs, h.done, h.wrong, h.hands, h.bag, h.minute, h.tl, h.te, h.fed, h.waits, h.tape⟩
theorem wMin (h : RK T (X 64)) (hj : jm (X 64) = J) (hv : isN v T') (hp : p = 0) : WJ (ud J 0 10 v) T' X (ud X 64 p v) := by
  subst hp
  subst hj
  refine WJ_u (by omega) (jm_uMin ) (h.upd (by omega) (fun i _ => ⟨by omega, by omega⟩) ?_)
  rw [jm_uMin ]
  exact h.ij.uMin hv
theorem wZ (h : RK T (X 64)) (hj : jm (X 64) = J)  (hp : p = 1) : WJ (ud J 0 17 v) T X (ud X 64 p v) := by
  subst hp
  subst hj
  refine WJ_u (by omega) (jm_uZ ) (h.upd (by omega) (fun i _ => ⟨by omega, by omega⟩) ?_)
  rw [jm_uZ ]
  exact h.ij.uZ 
theorem wHands (h : RK T (X 64)) (hj : jm (X 64) = J) (hv : v = nI 1 ∨ v = nI 2) (hp : p = 3) : WJ (ud J 0 8 v) T X (ud X 64 p v) := by
  subst hp
  subst hj
  refine WJ_u (by omega) (jm_uHands ) (h.upd (by omega) (fun i _ => ⟨by omega, by omega⟩) ?_)
  rw [jm_uHands ]
  exact h.ij.uHands hv
theorem wBag (h : RK T (X 64)) (hj : jm (X 64) = J) (hv : isN v 999) (hp : p = 4) : WJ (ud J 0 9 v) T X (ud X 64 p v) := by
  subst hp
  subst hj
  refine WJ_u (by omega) (jm_uBag ) (h.upd (by omega) (fun i _ => ⟨by omega, by omega⟩) ?_)
  rw [jm_uBag ]
  exact h.ij.uBag hv
theorem wFed (h : RK T (X 64)) (hj : jm (X 64) = J) (hv : isN v 50) (hp : p = 5) : WJ (ud J 0 14 v) T X (ud X 64 p v) := by
  subst hp
  subst hj
  refine WJ_u (by omega) (jm_uFed ) (h.upd (by omega) (fun i _ => ⟨by omega, by omega⟩) ?_)
  rw [jm_uFed ]
  exact h.ij.uFed hv
theorem wWaits (h : RK T (X 64)) (hj : jm (X 64) = J) (hv : isN v 20) (hp : p = 6) : WJ (ud J 0 16 v) T X (ud X 64 p v) := by
  subst hp
  subst hj
  refine WJ_u (by omega) (jm_uWaits ) (h.upd (by omega) (fun i _ => ⟨by omega, by omega⟩) ?_)
  rw [jm_uWaits ]
  exact h.ij.uWaits hv
theorem wKind (h : RK T (X 64)) (hj : jm (X 64) = J) (hk : k < 8) (hv : isN v 6) (hp : p = 7 + 6 * k) : WJ (ud J 1 k v) T X (ud X 64 p v) := by
  subst hp
  subst hj
  refine WJ_u (by omega) (jm_uKind hk) (h.upd (by omega) (fun i _ => ⟨by omega, by omega⟩) ?_)
  rw [jm_uKind hk]
  exact h.ij.uKind hv
theorem wM (h : RK T (X 64)) (hj : jm (X 64) = J) (hk : k < 8) (hv : isN v 9) (hp : p = 8 + 6 * k) : WJ (ud J 2 k v) T X (ud X 64 p v) := by
  subst hp
  subst hj
  refine WJ_u (by omega) (jm_uM hk) (h.upd (by omega) (fun i _ => ⟨by omega, by omega⟩) ?_)
  rw [jm_uM hk]
  exact h.ij.uM hv
theorem wSc (h : RK T (X 64)) (hj : jm (X 64) = J) (hk : k < 8) (hv : isN v 9) (hp : p = 9 + 6 * k) : WJ (ud J 3 k v) T X (ud X 64 p v) := by
  subst hp
  subst hj
  refine WJ_u (by omega) (jm_uSc hk) (h.upd (by omega) (fun i _ => ⟨by omega, by omega⟩) ?_)
  rw [jm_uSc hk]
  exact h.ij.uSc hv
theorem wNeeds (h : RK T (X 64)) (hj : jm (X 64) = J) (hk : k < 8) (hv : ∀ i, bt v i = true → i < k) (hp : p = 10 + 6 * k) : WJ (ud J 4 k v) T X (ud X 64 p v) := by
  subst hp
  subst hj
  refine WJ_u (by omega) (jm_uNeeds hk) (h.upd (by omega) (fun i _ => ⟨by omega, by omega⟩) ?_)
  rw [jm_uNeeds hk]
  exact h.ij.uNeeds hv
theorem wTape (h : RK T (X 64)) (hj : jm (X 64) = J) (hk : k < 50) (hv : isN v 255) (hp : p = 55 + k) : WJ (ud J 9 k v) T X (ud X 64 p v) := by
  subst hp
  subst hj
  refine WJ_u (by omega) (jm_uTape h.n8 hk) (h.upd (by omega) (fun i _ => ⟨by omega, by omega⟩) ?_)
  rw [jm_uTape h.n8 hk]
  exact h.ij.uTape hv
theorem wWait (h : RK T (X 64)) (hj : jm (X 64) = J) (hk : k < 20) (hp : p = 105 + k) : WJ (ud J 10 k v) T X (ud X 64 p v) := by
  subst hp
  subst hj
  refine WJ_u (by omega) (jm_uWait h.n8 hk) (h.upd (by omega) (fun i _ => ⟨by omega, by omega⟩) ?_)
  rw [jm_uWait h.n8 hk]
  exact h.ij.uWait 
theorem wDone {c : Bool} (h : RK T (X 64)) (hj : jm (X 64) = J) (hk : k < jn J) (hp : p = 11 + 6 * k) : WJ (ud J 0 6 (sWith (J 0 6) (nI k) c)) T X (ud X 64 p (bI c)) := by
  subst hp
  subst hj
  have h8 := h.n8
  have hk8 : k < 8 := Nat.lt_of_lt_of_le hk h8
  refine WJ_u (by omega) (jm_uDone h.n8 hk (fun i hi => h.fD (by have := h.n8; omega))) (h.updF (by omega) (fl_bI c) ?_)
  rw [jm_uDone h.n8 hk (fun i hi => h.fD (by have := h.n8; omega))]
  exact h.ij.uDone (bt_with_lt hk h8 h.ij.done)
theorem wWrong {c : Bool} (h : RK T (X 64)) (hj : jm (X 64) = J) (hk : k < jn J) (hp : p = 12 + 6 * k) : WJ (ud J 0 7 (sWith (J 0 7) (nI k) c)) T X (ud X 64 p (bI c)) := by
  subst hp
  subst hj
  have h8 := h.n8
  have hk8 : k < 8 := Nat.lt_of_lt_of_le hk h8
  refine WJ_u (by omega) (jm_uWrong h.n8 hk (fun i hi => h.fW (by have := h.n8; omega))) (h.updF (by omega) (fl_bI c) ?_)
  rw [jm_uWrong h.n8 hk (fun i hi => h.fW (by have := h.n8; omega))]
  exact h.ij.uWrong (bt_with_lt hk h8 h.ij.wrong)
end WJS
theorem ud_comm {J : Nat → Nat → Int32} {c a b : Nat} {v w : Int32} (h : a ≠ b) : ud (ud J c a v) c b w = ud (ud J c b w) c a v := by
  funext i j
  simp only [ud_at]
  by_cases hi : i = c
  · rw [if_pos hi, if_pos hi, if_pos hi, if_pos hi]
    by_cases h1 : j = b
    · subst h1
      rw [if_pos rfl, if_neg (Ne.symm h), if_pos rfl]
    · rw [if_neg h1, if_neg h1]
  · rw [if_neg hi, if_neg hi, if_neg hi, if_neg hi]
theorem ud_comm2 {J : Nat → Nat → Int32} {c e a b : Nat} {v w : Int32} (h : c ≠ e) : ud (ud J c a v) e b w = ud (ud J e b w) c a v := by
  funext i j
  simp only [ud_at]
  by_cases hi : i = e
  · have hc : ¬ i = c := by rw [hi]; exact Ne.symm h
    simp only [if_pos hi, if_neg hc]
  · simp only [if_neg hi]
theorem r_bag (X : Nat → Nat → Int32) (m : Int32) : ud X 64 0 m 64 4 = X 64 4 := rfl
theorem r_sc {X : Nat → Nat → Int32} {m : Int32} {k : Nat} : jm (ud X 64 0 m 64) 3 k = jm (X 64) 3 k := by
  rw [ud_same, jm_uMin]
  rfl
theorem err_b {v : Int32} (h : isN v 1) : v = bI (!decide (v = 0)) := by
  obtain ⟨n, hn, rfl⟩ := (isN_iff (by omega)).mp h
  have : n = 0 ∨ n = 1 := by omega
  rcases this with rfl | rfl <;> decide +kernel
theorem jFin_alt {J : Nat → Nat → Int32} {k : Nat} : ud (ud (ud (ud J 0 10 (J 0 10 + sLasts J k)) 0 9 (J 0 9 - J 3 k)) 0 6 (sWith (J 0 6) (nI k) true)) 0 7 (sWith (J 0 7) (nI k) (!decide (sErrs J k = 0))) = jFin J k := by
  rw [ud_comm (c := 0) (a := 6) (b := 7) (by omega), ud_comm (c := 0) (a := 9) (b := 7) (by omega), ud_comm (c := 0) (a := 10) (b := 7) (by omega)]
  rfl
set_option maxRecDepth 100000 in
set_option maxHeartbeats 4000000 in
theorem l_rIsDone (d : Nat) (X Z : Nat → Nat → Int32) {T : Nat} (hI : RK T (X 64)) (hT : T < 2000000000) {k : Nat} (hm : sMayDo (jm (X 64)) k = true) : EC (d + 5) 166 [.ref 63, .int (nI k)] (Wd X Z) (RVJ (jFin (jm (X 64)) k) (T + 300) X) := by
  refine er_enter (L := [(0, _), (1, _)]) rfl rfl rfl ?_
  obtain ⟨hk, _, hbg⟩ := mayDo_k hm
  have h8 := jn8 hI.ij
  have hk8 : k < 8 := by omega
  have hq := kind7 hI.ij k
  refine er_loc (pc' := 1) rfl rfl rfl ?_
  refine er_loc (pc' := 2) rfl rfl rfl ?_
  refine er_loc (pc' := 3) rfl rfl rfl ?_
  refine er_cIi (pc' := 6) (rest := [_, _]) 12 rfl rfl rfl rfl rfl rfl (l_rTiredJ _ X _ hI (by omega)) ?_
  refine er_cIz (pc' := 9) (rest := []) 12 rfl rfl rfl rfl rfl rfl (l_rErrsOf _ X _ hI hk8 _) ?_
  intro Z2
  refine er_loc (pc' := 10) (L' := [(2, _), (0, _), (1, _)]) rfl rfl rfl ?_
  refine er_loc (pc' := 11) rfl rfl rfl ?_
  refine er_gf (pc' := 14) (_) rfl rfl rfl rfl rfl ?_
  refine er_k (pc' := 15) (nI 0) rfl rfl rfl ?_
  refine er_pure (pc' := 16) rfl rfl rfl ?_
  refine er_ia (pc' := 17) (0) rfl rfl rfl rfl (by omega) rfl rfl ?_
  refine er_loc (pc' := 18) rfl rfl rfl ?_
  refine er_loc (pc' := 19) rfl rfl rfl ?_
  refine er_cIz (pc' := 22) (rest := [_, _, _]) 12 rfl rfl rfl rfl rfl rfl (l_rLastsOf _ X _ hI (by omega) hk) ?_
  intro Z2
  refine er_iadd (pc' := 23) rfl rfl ?_
  refine er_isX (pc' := 24) (0) rfl rfl (fun _ => rfl) rfl (by omega) rfl rfl ?_
  refine er_loc (pc' := 25) rfl rfl rfl ?_
  refine er_gf (pc' := 28) (_) rfl rfl rfl rfl rfl ?_
  refine er_k (pc' := 29) (nI 4) rfl rfl rfl ?_
  refine er_pure (pc' := 30) rfl rfl rfl ?_
  refine er_ia (pc' := 31) (4) rfl rfl rfl rfl (by omega) rfl rfl ?_
  rw [r_bag]
  refine er_loc (pc' := 32) rfl rfl rfl ?_
  refine er_loc (pc' := 33) rfl rfl rfl ?_
  refine er_k (pc' := 34) (nI 2) rfl rfl rfl ?_
  refine er_cIi (pc' := 37) (rest := [_, _, _]) 12 rfl rfl rfl rfl rfl rfl (l_of2 _ _ _ (by omega)) ?_
  rw [r_sc]
  refine er_isub (pc' := 38) rfl rfl ?_
  refine er_isX (pc' := 39) (4) rfl rfl (fun _ => rfl) rfl (by omega) rfl rfl ?_
  refine er_loc (pc' := 40) rfl rfl rfl ?_
  refine er_loc (pc' := 41) rfl rfl rfl ?_
  refine er_k (pc' := 42) (nI 4) rfl rfl rfl ?_
  refine er_k (pc' := 43) (nI 1) rfl rfl rfl ?_
  refine er_cIv (pc' := 46) (rest := []) 12 rfl rfl rfl rfl rfl rfl (l_rLets _ _ _ (show _ < 8 by omega) (show 4 < 6 by omega) _) ?_
  intro Z7
  refine er_loc (pc' := 47) rfl rfl rfl ?_
  refine er_loc (pc' := 48) rfl rfl rfl ?_
  refine er_k (pc' := 49) (nI 5) rfl rfl rfl ?_
  refine er_loc (pc' := 50) rfl rfl rfl ?_
  refine er_cIv (pc' := 53) (rest := []) 12 rfl rfl rfl rfl rfl rfl (l_rLets _ _ _ (show _ < 8 by omega) (show 5 < 6 by omega) _) ?_
  intro Z7
  refine er_vret rfl rfl ?_
  refine RVJ_of ?_
  have h1 := wMin (p := 0) hI rfl (hI.ij.minute.add (lasts300 hI.ij k) (by omega)) rfl
  have h2 := wBag (p := 4) h1.rk h1.j (bag_sub hI.ij.bag (hI.ij.sc k) hbg) rfl
  have h3 := wDone (c := true) (p := 7 + 6 * k + 4) h2.rk h2.j hk (by omega)
  have h4 := wWrong (c := !decide (sErrs (jm (X 64)) k = 0)) (p := 7 + 6 * k + 5) h3.rk h3.j hk (by omega)
  have h5 := h1.trans (h2.trans (h3.trans h4))
  rw [show ∀ q m g, ud (ud (ud (jm (X 64)) 0 10 m) 0 9 g) 0 6 q 0 7 = jm (X 64) 0 7 from fun _ _ _ => rfl, show ∀ m g, ud (ud (jm (X 64)) 0 10 m) 0 9 g 0 6 = jm (X 64) 0 6 from fun _ _ => rfl, jFin_alt, ← err_b (show isN (sErrs (jm (X 64)) k) 1 from errsBy1)] at h5
  exact h5
theorem give_eq {g s : Int32} (hg : isN g 999) (hs : isN s 9) : sHeld (if 0 < s then g + s - nI 1 else g) (nI 0) (nI 999) = sGive g s := by
  obtain ⟨a, ha, rfl⟩ := (isN_iff (by omega)).mp hg
  obtain ⟨b, hb, rfl⟩ := (isN_iff (by omega)).mp hs
  rcases Nat.eq_zero_or_pos b with h0 | h0
  · subst h0
    rw [if_neg (by decide +kernel)]
    unfold sHeld sGive
    rw [if_neg (show ¬ nI a < nI 0 from nI_nlt (by omega) (by omega)), if_neg (show ¬ nI 999 < nI a from nI_nlt (by omega) (by omega)), show (if nI 0 < nI 0 - nI 1 then nI 0 - nI 1 else nI 0) = nI 0 from by decide +kernel, show nI a + nI 0 = nI a from by rw [nI_add]; rfl]
    by_cases h9 : a < 999
    · rw [if_pos (nI_lt h9 (by omega))]
    · rw [if_neg (nI_nlt (by omega) (by omega)), show a = 999 by omega]
  · rw [if_pos (show (0 : Int32) < nI b from nI_lt (a := 0) h0 (by omega))]
    unfold sHeld sGive
    have e1 : nI a + nI b - nI 1 = nI (a + b - 1) := by rw [nI_add, nI_sub (by omega)]
    have e2 : nI b - nI 1 = nI (b - 1) := nI_sub (by omega)
    have e3 : (if nI 0 < nI (b - 1) then nI (b - 1) else nI 0) = nI (b - 1) := by
      by_cases h1 : b = 1
      · subst h1; decide +kernel
      · rw [if_pos (nI_lt (by omega) (by omega))]
    rw [e1, e2, e3, nI_add, show a + (b - 1) = a + b - 1 by omega, if_neg (show ¬ nI (a + b - 1) < nI 0 from nI_nlt (by omega) (by omega))]
    by_cases h9 : a + b - 1 < 999
    · rw [if_pos (nI_lt h9 (by omega)), if_neg (nI_nlt (by omega) (by omega))]
    · rw [if_neg (show ¬ nI (a + b - 1) < nI 999 from nI_nlt (by omega) (by omega))]
      by_cases h10 : 999 < a + b - 1
      · rw [if_pos (nI_lt h10 (by omega))]
      · rw [if_neg (nI_nlt (by omega) (by omega)), show a + b - 1 = 999 by omega]
set_option maxRecDepth 100000 in
set_option maxHeartbeats 4000000 in
theorem l_rIsUndone (d : Nat) (X Z : Nat → Nat → Int32) {T : Nat} (hI : RK T (X 64)) (hT : T < 2000000000) {k : Nat} (hk : k < jn (jm (X 64))) : EC (d + 6) 169 [.ref 63, .int (nI k)] (Wd X Z) (RVJ (jApart (jm (X 64)) k) (T + 300) X) := by
  refine er_enter (L := [(0, _), (1, _)]) rfl rfl rfl ?_
  have h8 := jn8 hI.ij
  have hk8 : k < 8 := by omega
  have hq := kind7 hI.ij k
  refine er_loc (pc' := 1) rfl rfl rfl ?_
  refine er_loc (pc' := 2) rfl rfl rfl ?_
  refine er_k (pc' := 3) (nI 2) rfl rfl rfl ?_
  refine er_cIi (pc' := 6) (rest := []) 12 rfl rfl rfl rfl rfl rfl (l_of2 _ X _ (by omega)) ?_
  refine er_loc (pc' := 7) (L' := [(2, _), (0, _), (1, _)]) rfl rfl rfl ?_
  refine er_loc (pc' := 8) rfl rfl rfl ?_
  refine er_gf (pc' := 11) (_) rfl rfl rfl rfl rfl ?_
  refine er_k (pc' := 12) (nI 0) rfl rfl rfl ?_
  refine er_pure (pc' := 13) rfl rfl rfl ?_
  refine er_ia (pc' := 14) (0) rfl rfl rfl rfl (by omega) rfl rfl ?_
  refine er_loc (pc' := 15) rfl rfl rfl ?_
  refine er_loc (pc' := 16) rfl rfl rfl ?_
  refine er_cIz (pc' := 19) (rest := [_, _, _]) 12 rfl rfl rfl rfl rfl rfl (l_rBackOf _ X _ hI (by omega) hk) ?_
  intro Z2
  refine er_iadd (pc' := 20) rfl rfl ?_
  refine er_isX (pc' := 21) (0) rfl rfl (fun _ => rfl) rfl (by omega) rfl rfl ?_
  refine er_loc (pc' := 22) rfl rfl rfl ?_
  refine er_gf (pc' := 25) (_) rfl rfl rfl rfl rfl ?_
  refine er_k (pc' := 26) (nI 4) rfl rfl rfl ?_
  refine er_loc (pc' := 27) rfl rfl rfl ?_
  refine er_if_le (pc' := 30) rfl rfl (fun h27 => ?_) (fun h27 => ?_)
  · refine er_loc (pc' := 44) rfl rfl rfl ?_
    refine er_gf (pc' := 47) (_) rfl rfl rfl rfl rfl ?_
    refine er_k (pc' := 48) (nI 4) rfl rfl rfl ?_
    refine er_ia (pc' := 49) (4) rfl rfl rfl rfl (by omega) rfl rfl ?_
    rw [r_bag]
    refine er_k (pc' := 50) (nI 0) rfl rfl rfl ?_
    refine er_k (pc' := 53) (nI 999) rfl rfl rfl ?_
    refine er_cSi (pc' := 56) (rest := [_, _]) rfl rfl rfl (l_held _ _ _ _ _) ?_
    refine er_isX (pc' := 57) (4) rfl rfl (fun _ => rfl) rfl (by omega) rfl rfl ?_
    refine er_loc (pc' := 58) rfl rfl rfl ?_
    refine er_loc (pc' := 59) rfl rfl rfl ?_
    refine er_k (pc' := 60) (nI 4) rfl rfl rfl ?_
    refine er_k (pc' := 61) (nI 0) rfl rfl rfl ?_
    refine er_cIv (pc' := 64) (rest := []) 12 rfl rfl rfl rfl rfl rfl (l_rLets _ _ _ (show _ < 8 by omega) (show 4 < 6 by omega) _) ?_
    intro Z7
    refine er_loc (pc' := 65) rfl rfl rfl ?_
    refine er_loc (pc' := 66) rfl rfl rfl ?_
    refine er_k (pc' := 67) (nI 5) rfl rfl rfl ?_
    refine er_k (pc' := 68) (nI 0) rfl rfl rfl ?_
    refine er_cIv (pc' := 71) (rest := []) 12 rfl rfl rfl rfl rfl rfl (l_rLets _ _ _ (show _ < 8 by omega) (show 5 < 6 by omega) _) ?_
    intro Z7
    refine er_vret rfl rfl ?_
    refine RVJ_of ?_
    have hg : sHeld (X 64 4) (nI 0) (nI 999) = sGive (X 64 4) (jm (X 64) 3 k) := by rw [← give_eq (g := X 64 4) hI.ij.bag (hI.ij.sc k), if_neg h27]
    rw [hg]
    have h1 := wMin (p := 0) hI rfl (hI.ij.minute.add (back300 hI.ij k) (by omega)) rfl
    have h2 := wBag (p := 4) h1.rk h1.j (give999 hI.ij.bag (hI.ij.sc k)) rfl
    have h3 := wDone (c := false) (p := 7 + 6 * k + 4) h2.rk h2.j hk (by omega)
    have h4 := wWrong (c := false) (p := 7 + 6 * k + 5) h3.rk h3.j hk (by omega)
    exact h1.trans (h2.trans (h3.trans h4))
  · refine er_loc (pc' := 31) rfl rfl rfl ?_
    refine er_gf (pc' := 34) (_) rfl rfl rfl rfl rfl ?_
    refine er_k (pc' := 35) (nI 4) rfl rfl rfl ?_
    refine er_ia (pc' := 36) (4) rfl rfl rfl rfl (by omega) rfl rfl ?_
    rw [r_bag]
    refine er_loc (pc' := 37) rfl rfl rfl ?_
    refine er_iadd (pc' := 38) rfl rfl ?_
    refine er_k (pc' := 39) (nI 1) rfl rfl rfl ?_
    refine er_isub (pc' := 40) rfl rfl ?_
    refine er_goto rfl ?_
    refine er_k (pc' := 50) (nI 0) rfl rfl rfl ?_
    refine er_k (pc' := 53) (nI 999) rfl rfl rfl ?_
    refine er_cSi (pc' := 56) (rest := [_, _]) rfl rfl rfl (l_held _ _ _ _ _) ?_
    refine er_isX (pc' := 57) (4) rfl rfl (fun _ => rfl) rfl (by omega) rfl rfl ?_
    refine er_loc (pc' := 58) rfl rfl rfl ?_
    refine er_loc (pc' := 59) rfl rfl rfl ?_
    refine er_k (pc' := 60) (nI 4) rfl rfl rfl ?_
    refine er_k (pc' := 61) (nI 0) rfl rfl rfl ?_
    refine er_cIv (pc' := 64) (rest := []) 12 rfl rfl rfl rfl rfl rfl (l_rLets _ _ _ (show _ < 8 by omega) (show 4 < 6 by omega) _) ?_
    intro Z7
    refine er_loc (pc' := 65) rfl rfl rfl ?_
    refine er_loc (pc' := 66) rfl rfl rfl ?_
    refine er_k (pc' := 67) (nI 5) rfl rfl rfl ?_
    refine er_k (pc' := 68) (nI 0) rfl rfl rfl ?_
    refine er_cIv (pc' := 71) (rest := []) 12 rfl rfl rfl rfl rfl rfl (l_rLets _ _ _ (show _ < 8 by omega) (show 5 < 6 by omega) _) ?_
    intro Z7
    refine er_vret rfl rfl ?_
    refine RVJ_of ?_
    have hg : sHeld (X 64 4 + jm (X 64) 3 k - nI 1) (nI 0) (nI 999) = sGive (X 64 4) (jm (X 64) 3 k) := by rw [← give_eq (g := X 64 4) hI.ij.bag (hI.ij.sc k), if_pos h27]
    rw [hg]
    have h1 := wMin (p := 0) hI rfl (hI.ij.minute.add (back300 hI.ij k) (by omega)) rfl
    have h2 := wBag (p := 4) h1.rk h1.j (give999 hI.ij.bag (hI.ij.sc k)) rfl
    have h3 := wDone (c := false) (p := 7 + 6 * k + 4) h2.rk h2.j hk (by omega)
    have h4 := wWrong (c := false) (p := 7 + 6 * k + 5) h3.rk h3.j hk (by omega)
    exact h1.trans (h2.trans (h3.trans h4))
end
section
/-! THE REFERENCE, its face: steps, the bag, kinds, laws, doing -/
theorem sIn_01 {u : Int32} : sIn u (nI 0) (nI 1) = sUse u := by
  cases hb : sIn u (nI 0) (nI 1) with
  | true =>
    obtain ⟨j, h1, h2, rfl⟩ := sIn_ex (by omega) (by omega) hb
    have : j = 0 ∨ j = 1 := by omega
    rcases this with rfl | rfl <;> decide +kernel
  | false =>
    cases hu : sUse u with
    | false => rfl
    | true =>
      unfold sUse at hu
      simp only [Bool.or_eq_true, decide_eq_true_eq] at hu
      rcases hu with hu | hu <;> subst hu <;> rw [← hb] <;> decide +kernel
theorem sIn_m1 {v : Int32} : sIn v (nI 0) (-1) = false := by
  unfold sIn
  by_cases h : v < nI 0
  · rw [decide_eq_true h]; rfl
  · have h2 : (-1 : Int32) < v := by
      rw [I_lt] at h ⊢
      have e0 : (nI 0).toInt = 0 := by decide +kernel
      have e1 : (-1 : Int32).toInt = -1 := by decide +kernel
      omega
    rw [decide_eq_true h2]
    simp
theorem bt_nI {j i : Nat} : bt (nI j) i = (decide (i < 32) && j.testBit i) := by
  unfold bt
  rw [show (nI j).toBitVec = BitVec.ofNat 32 j from rfl, BitVec.getLsbD_ofNat]
theorem pow_k {k : Nat} (h : k ≤ 8) : nI 1 <<< (nI k &&& 31) - nI 1 = nI (2 ^ k - 1) := fin_le (m := 8) (p := fun k => nI 1 <<< (nI k &&& 31) - nI 1 = nI (2 ^ k - 1)) h (by decide +kernel)
theorem needs_lt {v : Int32} {k : Nat} (hk : k ≤ 8) (h : sIn v (nI 0) (nI 1 <<< (nI k &&& 31) - nI 1) = true) : ∀ i, bt v i = true → i < k := by
  rw [pow_k hk] at h
  have hp := pow_le hk
  obtain ⟨j, _, h2, rfl⟩ := sIn_ex (by omega) (by omega) h
  intro i hi
  rw [bt_nI, Bool.and_eq_true] at hi
  rcases Nat.lt_or_ge i k with h3 | h3
  · exact h3
  · have h4 : j < 2 ^ i := Nat.lt_of_lt_of_le (show j < 2 ^ k by have := Nat.two_pow_pos k; omega) (Nat.pow_le_pow_right (by omega) h3)
    rw [Nat.testBit_lt_two_pow h4] at hi
    exact absurd hi.2 (by decide)
theorem sIn_isN {v : Int32} {a b : Nat} (ha : a < 2 ^ 31) (hb : b < 2 ^ 31) (h : sIn v (nI a) (nI b) = true) : isN v b := by
  obtain ⟨j, _, h2, rfl⟩ := sIn_ex hb ha h
  exact isN.of h2 hb
theorem sIn_b {v : Int32} (h : sIn v (nI 0) (nI 1) = true) : v = bI (decide (v = nI 1)) := by
  obtain ⟨j, _, h2, rfl⟩ := sIn_ex (by omega) (by omega) h
  have : j = 0 ∨ j = 1 := by omega
  rcases this with rfl | rfl <;> decide +kernel
theorem km_q {v : Int32} (h : sIn v (nI 0) (nI 69) = true) : isN (v / nI 10) 6 ∧ isN (v - v / nI 10 * nI 10) 9 := by
  obtain ⟨j, _, h2, rfl⟩ := sIn_ex (by omega) (by omega) h
  exact ⟨(isN_iff (by omega)).mpr ⟨j / 10, by omega, fin_le (m := 69) (p := fun j => nI j / nI 10 = nI (j / 10)) h2 (by decide +kernel)⟩, (isN_iff (by omega)).mpr ⟨j % 10, by omega, fin_le (m := 69) (p := fun j => nI j - nI j / nI 10 * nI 10 = nI (j % 10)) h2 (by decide +kernel)⟩⟩
theorem RK.n_eq {T : Nat} {R : Nat → Int32} (h : RK T R) : nN (R 2) = jn (jm R) := rfl
set_option maxRecDepth 100000 in
set_option maxHeartbeats 4000000 in
theorem l_rOfStep_no (d : Nat) (X Z : Nat → Nat → Int32) {T : Nat} (hI : RK T (X 64)) (s w : Int32) (hs : jHas (jm (X 64)) s = false) : EC (d + 3) 131 [.ref 63, .int s, .int w] (Wd X Z) (RI (sErr 1) (yErr X 1)) := by
  refine er_enter (L := [(0, _), (1, _), (2, _)]) rfl rfl rfl ?_
  refine er_loc (pc' := 1) rfl rfl rfl ?_
  refine er_loc (pc' := 2) rfl rfl rfl ?_
  refine er_cIi (pc' := 5) (rest := []) 12 rfl rfl rfl rfl rfl rfl (l_rHas_f _ X _ hI hs) ?_
  refine er_if_eqT rfl (by decide +kernel) ?_
  refine er_loc (pc' := 19) rfl rfl rfl ?_
  refine er_ldc (pc' := 21) (-1000000001) rfl rfl rfl rfl rfl ?_
  refine er_cIz (pc' := 24) (rest := []) 12 rfl rfl rfl rfl rfl rfl (l_rError1 _ _ _) ?_
  intro Z9
  refine er_iret rfl rfl ?_
  exact RI_of rfl rfl
set_option maxRecDepth 100000 in
set_option maxHeartbeats 4000000 in
theorem l_rOf_0 (d : Nat) (X Z : Nat → Nat → Int32) {T : Nat} (hI : RK T (X 64)) (hT : T < 2000000000) {k : Nat} (hk : k < jn (jm (X 64))) : EC (d + 6) 131 [.ref 63, .int (nI k), .int (nI 0)] (Wd X Z) (RI (jm (X 64) 1 k) X) := by
  refine er_enter (L := [(0, _), (1, _), (2, _)]) rfl rfl rfl ?_
  have h8 := jn8 hI.ij
  have hk8 : k < 8 := by omega
  have hq := kind7 hI.ij k
  refine er_loc (pc' := 1) rfl rfl rfl ?_
  refine er_loc (pc' := 2) rfl rfl rfl ?_
  refine er_cIi (pc' := 5) (rest := []) 12 rfl rfl rfl rfl rfl rfl (l_rHas_t _ X _ hI hk) ?_
  refine er_if_eqF (pc' := 8) rfl (by decide +kernel) rfl ?_
  refine er_loc (pc' := 9) rfl rfl rfl ?_
  refine er_k (pc' := 10) (nI 0) rfl rfl rfl ?_
  refine er_k (pc' := 12) (nI 9) rfl rfl rfl ?_
  refine er_cSi (pc' := 15) (rest := []) rfl rfl rfl (l_in _ _ _ _ _) ?_
  rw [show sIn (nI 0) (nI 0) (nI 9) = true from by decide +kernel]
  refine er_if_neT rfl (by decide +kernel) ?_
  refine er_loc (pc' := 26) rfl rfl rfl ?_
  refine er_k (pc' := 28) (nI 6) rfl rfl rfl ?_
  refine er_cm_geF (pc' := 31) rfl (by decide +kernel) rfl ?_
  refine er_loc (pc' := 32) rfl rfl rfl ?_
  refine er_loc (pc' := 33) rfl rfl rfl ?_
  refine er_loc (pc' := 34) rfl rfl rfl ?_
  refine er_cIi (pc' := 37) (rest := []) 12 rfl rfl rfl rfl rfl rfl (l_of0 _ X _ hI (by omega)) ?_
  refine er_iret rfl rfl ?_
  exact RI_of (by rw [show jm (X 64) 1 k = nI (sKind (jm (X 64)) k) from (hI.ij.kind k).1]) rfl
set_option maxRecDepth 100000 in
set_option maxHeartbeats 4000000 in
theorem l_rOf_1 (d : Nat) (X Z : Nat → Nat → Int32) {T : Nat} (hI : RK T (X 64)) (hT : T < 2000000000) {k : Nat} (hk : k < jn (jm (X 64))) : EC (d + 6) 131 [.ref 63, .int (nI k), .int (nI 1)] (Wd X Z) (RI (jm (X 64) 2 k) X) := by
  refine er_enter (L := [(0, _), (1, _), (2, _)]) rfl rfl rfl ?_
  have h8 := jn8 hI.ij
  have hk8 : k < 8 := by omega
  have hq := kind7 hI.ij k
  refine er_loc (pc' := 1) rfl rfl rfl ?_
  refine er_loc (pc' := 2) rfl rfl rfl ?_
  refine er_cIi (pc' := 5) (rest := []) 12 rfl rfl rfl rfl rfl rfl (l_rHas_t _ X _ hI hk) ?_
  refine er_if_eqF (pc' := 8) rfl (by decide +kernel) rfl ?_
  refine er_loc (pc' := 9) rfl rfl rfl ?_
  refine er_k (pc' := 10) (nI 0) rfl rfl rfl ?_
  refine er_k (pc' := 12) (nI 9) rfl rfl rfl ?_
  refine er_cSi (pc' := 15) (rest := []) rfl rfl rfl (l_in _ _ _ _ _) ?_
  rw [show sIn (nI 1) (nI 0) (nI 9) = true from by decide +kernel]
  refine er_if_neT rfl (by decide +kernel) ?_
  refine er_loc (pc' := 26) rfl rfl rfl ?_
  refine er_k (pc' := 28) (nI 6) rfl rfl rfl ?_
  refine er_cm_geF (pc' := 31) rfl (by decide +kernel) rfl ?_
  refine er_loc (pc' := 32) rfl rfl rfl ?_
  refine er_loc (pc' := 33) rfl rfl rfl ?_
  refine er_loc (pc' := 34) rfl rfl rfl ?_
  refine er_cIi (pc' := 37) (rest := []) 12 rfl rfl rfl rfl rfl rfl (l_of1 _ X _ (by omega)) ?_
  refine er_iret rfl rfl ?_
  exact RI_of rfl rfl
set_option maxRecDepth 100000 in
set_option maxHeartbeats 4000000 in
theorem l_rOf_2 (d : Nat) (X Z : Nat → Nat → Int32) {T : Nat} (hI : RK T (X 64)) (hT : T < 2000000000) {k : Nat} (hk : k < jn (jm (X 64))) : EC (d + 6) 131 [.ref 63, .int (nI k), .int (nI 2)] (Wd X Z) (RI (jm (X 64) 3 k) X) := by
  refine er_enter (L := [(0, _), (1, _), (2, _)]) rfl rfl rfl ?_
  have h8 := jn8 hI.ij
  have hk8 : k < 8 := by omega
  have hq := kind7 hI.ij k
  refine er_loc (pc' := 1) rfl rfl rfl ?_
  refine er_loc (pc' := 2) rfl rfl rfl ?_
  refine er_cIi (pc' := 5) (rest := []) 12 rfl rfl rfl rfl rfl rfl (l_rHas_t _ X _ hI hk) ?_
  refine er_if_eqF (pc' := 8) rfl (by decide +kernel) rfl ?_
  refine er_loc (pc' := 9) rfl rfl rfl ?_
  refine er_k (pc' := 10) (nI 0) rfl rfl rfl ?_
  refine er_k (pc' := 12) (nI 9) rfl rfl rfl ?_
  refine er_cSi (pc' := 15) (rest := []) rfl rfl rfl (l_in _ _ _ _ _) ?_
  rw [show sIn (nI 2) (nI 0) (nI 9) = true from by decide +kernel]
  refine er_if_neT rfl (by decide +kernel) ?_
  refine er_loc (pc' := 26) rfl rfl rfl ?_
  refine er_k (pc' := 28) (nI 6) rfl rfl rfl ?_
  refine er_cm_geF (pc' := 31) rfl (by decide +kernel) rfl ?_
  refine er_loc (pc' := 32) rfl rfl rfl ?_
  refine er_loc (pc' := 33) rfl rfl rfl ?_
  refine er_loc (pc' := 34) rfl rfl rfl ?_
  refine er_cIi (pc' := 37) (rest := []) 12 rfl rfl rfl rfl rfl rfl (l_of2 _ X _ (by omega)) ?_
  refine er_iret rfl rfl ?_
  exact RI_of rfl rfl
set_option maxRecDepth 100000 in
set_option maxHeartbeats 4000000 in
theorem l_rOf_3 (d : Nat) (X Z : Nat → Nat → Int32) {T : Nat} (hI : RK T (X 64)) (hT : T < 2000000000) {k : Nat} (hk : k < jn (jm (X 64))) : EC (d + 6) 131 [.ref 63, .int (nI k), .int (nI 3)] (Wd X Z) (RI (jm (X 64) 4 k) X) := by
  refine er_enter (L := [(0, _), (1, _), (2, _)]) rfl rfl rfl ?_
  have h8 := jn8 hI.ij
  have hk8 : k < 8 := by omega
  have hq := kind7 hI.ij k
  refine er_loc (pc' := 1) rfl rfl rfl ?_
  refine er_loc (pc' := 2) rfl rfl rfl ?_
  refine er_cIi (pc' := 5) (rest := []) 12 rfl rfl rfl rfl rfl rfl (l_rHas_t _ X _ hI hk) ?_
  refine er_if_eqF (pc' := 8) rfl (by decide +kernel) rfl ?_
  refine er_loc (pc' := 9) rfl rfl rfl ?_
  refine er_k (pc' := 10) (nI 0) rfl rfl rfl ?_
  refine er_k (pc' := 12) (nI 9) rfl rfl rfl ?_
  refine er_cSi (pc' := 15) (rest := []) rfl rfl rfl (l_in _ _ _ _ _) ?_
  rw [show sIn (nI 3) (nI 0) (nI 9) = true from by decide +kernel]
  refine er_if_neT rfl (by decide +kernel) ?_
  refine er_loc (pc' := 26) rfl rfl rfl ?_
  refine er_k (pc' := 28) (nI 6) rfl rfl rfl ?_
  refine er_cm_geF (pc' := 31) rfl (by decide +kernel) rfl ?_
  refine er_loc (pc' := 32) rfl rfl rfl ?_
  refine er_loc (pc' := 33) rfl rfl rfl ?_
  refine er_loc (pc' := 34) rfl rfl rfl ?_
  refine er_cIi (pc' := 37) (rest := []) 12 rfl rfl rfl rfl rfl rfl (l_of3 _ X _ (by omega)) ?_
  refine er_iret rfl rfl ?_
  exact RI_of rfl rfl
set_option maxRecDepth 100000 in
set_option maxHeartbeats 4000000 in
theorem l_rOf_4 (d : Nat) (X Z : Nat → Nat → Int32) {T : Nat} (hI : RK T (X 64)) (hT : T < 2000000000) {k : Nat} (hk : k < jn (jm (X 64))) : EC (d + 6) 131 [.ref 63, .int (nI k), .int (nI 4)] (Wd X Z) (RI (bI (sDone (jm (X 64)) k)) X) := by
  refine er_enter (L := [(0, _), (1, _), (2, _)]) rfl rfl rfl ?_
  have h8 := jn8 hI.ij
  have hk8 : k < 8 := by omega
  have hq := kind7 hI.ij k
  refine er_loc (pc' := 1) rfl rfl rfl ?_
  refine er_loc (pc' := 2) rfl rfl rfl ?_
  refine er_cIi (pc' := 5) (rest := []) 12 rfl rfl rfl rfl rfl rfl (l_rHas_t _ X _ hI hk) ?_
  refine er_if_eqF (pc' := 8) rfl (by decide +kernel) rfl ?_
  refine er_loc (pc' := 9) rfl rfl rfl ?_
  refine er_k (pc' := 10) (nI 0) rfl rfl rfl ?_
  refine er_k (pc' := 12) (nI 9) rfl rfl rfl ?_
  refine er_cSi (pc' := 15) (rest := []) rfl rfl rfl (l_in _ _ _ _ _) ?_
  rw [show sIn (nI 4) (nI 0) (nI 9) = true from by decide +kernel]
  refine er_if_neT rfl (by decide +kernel) ?_
  refine er_loc (pc' := 26) rfl rfl rfl ?_
  refine er_k (pc' := 28) (nI 6) rfl rfl rfl ?_
  refine er_cm_geF (pc' := 31) rfl (by decide +kernel) rfl ?_
  refine er_loc (pc' := 32) rfl rfl rfl ?_
  refine er_loc (pc' := 33) rfl rfl rfl ?_
  refine er_loc (pc' := 34) rfl rfl rfl ?_
  refine er_cIi (pc' := 37) (rest := []) 12 rfl rfl rfl rfl rfl rfl (l_of4 _ X _ hI (by omega)) ?_
  refine er_iret rfl rfl ?_
  exact RI_of rfl rfl
set_option maxRecDepth 100000 in
set_option maxHeartbeats 4000000 in
theorem l_rOf_5 (d : Nat) (X Z : Nat → Nat → Int32) {T : Nat} (hI : RK T (X 64)) (hT : T < 2000000000) {k : Nat} (hk : k < jn (jm (X 64))) : EC (d + 6) 131 [.ref 63, .int (nI k), .int (nI 5)] (Wd X Z) (RI (bI (sBit (jm (X 64) 0 7) (nI k))) X) := by
  refine er_enter (L := [(0, _), (1, _), (2, _)]) rfl rfl rfl ?_
  have h8 := jn8 hI.ij
  have hk8 : k < 8 := by omega
  have hq := kind7 hI.ij k
  refine er_loc (pc' := 1) rfl rfl rfl ?_
  refine er_loc (pc' := 2) rfl rfl rfl ?_
  refine er_cIi (pc' := 5) (rest := []) 12 rfl rfl rfl rfl rfl rfl (l_rHas_t _ X _ hI hk) ?_
  refine er_if_eqF (pc' := 8) rfl (by decide +kernel) rfl ?_
  refine er_loc (pc' := 9) rfl rfl rfl ?_
  refine er_k (pc' := 10) (nI 0) rfl rfl rfl ?_
  refine er_k (pc' := 12) (nI 9) rfl rfl rfl ?_
  refine er_cSi (pc' := 15) (rest := []) rfl rfl rfl (l_in _ _ _ _ _) ?_
  rw [show sIn (nI 5) (nI 0) (nI 9) = true from by decide +kernel]
  refine er_if_neT rfl (by decide +kernel) ?_
  refine er_loc (pc' := 26) rfl rfl rfl ?_
  refine er_k (pc' := 28) (nI 6) rfl rfl rfl ?_
  refine er_cm_geF (pc' := 31) rfl (by decide +kernel) rfl ?_
  refine er_loc (pc' := 32) rfl rfl rfl ?_
  refine er_loc (pc' := 33) rfl rfl rfl ?_
  refine er_loc (pc' := 34) rfl rfl rfl ?_
  refine er_cIi (pc' := 37) (rest := []) 12 rfl rfl rfl rfl rfl rfl (l_of5 _ X _ hI (by omega)) ?_
  refine er_iret rfl rfl ?_
  exact RI_of rfl rfl
set_option maxRecDepth 100000 in
set_option maxHeartbeats 4000000 in
theorem l_rOf_6 (d : Nat) (X Z : Nat → Nat → Int32) {T : Nat} (hI : RK T (X 64)) (hT : T < 2000000000) {k : Nat} (hk : k < jn (jm (X 64))) : EC (d + 6) 131 [.ref 63, .int (nI k), .int (nI 6)] (Wd X Z) (RI (sLasts (jm (X 64)) k) X) := by
  refine er_enter (L := [(0, _), (1, _), (2, _)]) rfl rfl rfl ?_
  have h8 := jn8 hI.ij
  have hk8 : k < 8 := by omega
  have hq := kind7 hI.ij k
  refine er_loc (pc' := 1) rfl rfl rfl ?_
  refine er_loc (pc' := 2) rfl rfl rfl ?_
  refine er_cIi (pc' := 5) (rest := []) 12 rfl rfl rfl rfl rfl rfl (l_rHas_t _ X _ hI hk) ?_
  refine er_if_eqF (pc' := 8) rfl (by decide +kernel) rfl ?_
  refine er_loc (pc' := 9) rfl rfl rfl ?_
  refine er_k (pc' := 10) (nI 0) rfl rfl rfl ?_
  refine er_k (pc' := 12) (nI 9) rfl rfl rfl ?_
  refine er_cSi (pc' := 15) (rest := []) rfl rfl rfl (l_in _ _ _ _ _) ?_
  rw [show sIn (nI 6) (nI 0) (nI 9) = true from by decide +kernel]
  refine er_if_neT rfl (by decide +kernel) ?_
  refine er_loc (pc' := 26) rfl rfl rfl ?_
  refine er_k (pc' := 28) (nI 6) rfl rfl rfl ?_
  refine er_cm_geT rfl (by decide +kernel) ?_
  refine er_loc (pc' := 39) rfl rfl rfl ?_
  refine er_k (pc' := 41) (nI 8) rfl rfl rfl ?_
  refine er_cm_neT rfl (by decide +kernel) ?_
  refine er_loc (pc' := 53) rfl rfl rfl ?_
  refine er_loc (pc' := 54) rfl rfl rfl ?_
  refine er_cIi (pc' := 57) (rest := []) 12 rfl rfl rfl rfl rfl rfl (l_rMayUn _ X _ hI hk) ?_
  refine er_loc (pc' := 58) (L' := [(3, _), (0, _), (1, _), (2, _)]) rfl rfl rfl ?_
  refine er_loc (pc' := 59) rfl rfl rfl ?_
  refine er_k (pc' := 61) (nI 6) rfl rfl rfl ?_
  refine er_cm_neF (pc' := 64) rfl (rfl) rfl ?_
  refine er_loc (pc' := 65) rfl rfl rfl ?_
  refine er_loc (pc' := 66) rfl rfl rfl ?_
  refine er_cIz (pc' := 69) (rest := []) 12 rfl rfl rfl rfl rfl rfl (l_rLastsOf _ X _ hI (by omega) hk) ?_
  intro Z2
  refine er_goto rfl ?_
  refine er_iret rfl rfl ?_
  exact RI_of rfl rfl
set_option maxRecDepth 100000 in
set_option maxHeartbeats 4000000 in
theorem l_rOf_7 (d : Nat) (X Z : Nat → Nat → Int32) {T : Nat} (hI : RK T (X 64)) (hT : T < 2000000000) {k : Nat} (hk : k < jn (jm (X 64))) : EC (d + 6) 131 [.ref 63, .int (nI k), .int (nI 7)] (Wd X Z) (RI (sBack (jm (X 64)) k) X) := by
  refine er_enter (L := [(0, _), (1, _), (2, _)]) rfl rfl rfl ?_
  have h8 := jn8 hI.ij
  have hk8 : k < 8 := by omega
  have hq := kind7 hI.ij k
  refine er_loc (pc' := 1) rfl rfl rfl ?_
  refine er_loc (pc' := 2) rfl rfl rfl ?_
  refine er_cIi (pc' := 5) (rest := []) 12 rfl rfl rfl rfl rfl rfl (l_rHas_t _ X _ hI hk) ?_
  refine er_if_eqF (pc' := 8) rfl (by decide +kernel) rfl ?_
  refine er_loc (pc' := 9) rfl rfl rfl ?_
  refine er_k (pc' := 10) (nI 0) rfl rfl rfl ?_
  refine er_k (pc' := 12) (nI 9) rfl rfl rfl ?_
  refine er_cSi (pc' := 15) (rest := []) rfl rfl rfl (l_in _ _ _ _ _) ?_
  rw [show sIn (nI 7) (nI 0) (nI 9) = true from by decide +kernel]
  refine er_if_neT rfl (by decide +kernel) ?_
  refine er_loc (pc' := 26) rfl rfl rfl ?_
  refine er_k (pc' := 28) (nI 6) rfl rfl rfl ?_
  refine er_cm_geT rfl (by decide +kernel) ?_
  refine er_loc (pc' := 39) rfl rfl rfl ?_
  refine er_k (pc' := 41) (nI 8) rfl rfl rfl ?_
  refine er_cm_neT rfl (by decide +kernel) ?_
  refine er_loc (pc' := 53) rfl rfl rfl ?_
  refine er_loc (pc' := 54) rfl rfl rfl ?_
  refine er_cIi (pc' := 57) (rest := []) 12 rfl rfl rfl rfl rfl rfl (l_rMayUn _ X _ hI hk) ?_
  refine er_loc (pc' := 58) (L' := [(3, _), (0, _), (1, _), (2, _)]) rfl rfl rfl ?_
  refine er_loc (pc' := 59) rfl rfl rfl ?_
  refine er_k (pc' := 61) (nI 6) rfl rfl rfl ?_
  refine er_cm_neT rfl (by decide +kernel) ?_
  refine er_loc (pc' := 73) rfl rfl rfl ?_
  refine er_k (pc' := 75) (nI 7) rfl rfl rfl ?_
  refine er_cm_neF (pc' := 78) rfl (rfl) rfl ?_
  refine er_loc (pc' := 79) rfl rfl rfl ?_
  refine er_loc (pc' := 80) rfl rfl rfl ?_
  refine er_cIz (pc' := 83) (rest := []) 12 rfl rfl rfl rfl rfl rfl (l_rBackOf _ X _ hI (by omega) hk) ?_
  intro Z2
  refine er_goto rfl ?_
  refine er_iret rfl rfl ?_
  exact RI_of rfl rfl
set_option maxRecDepth 100000 in
set_option maxHeartbeats 4000000 in
theorem l_rOf_8 (d : Nat) (X Z : Nat → Nat → Int32) {T : Nat} (hI : RK T (X 64)) (hT : T < 2000000000) {k : Nat} (hk : k < jn (jm (X 64))) : EC (d + 6) 131 [.ref 63, .int (nI k), .int (nI 8)] (Wd X Z) (RI (bI (sMayDo (jm (X 64)) k)) X) := by
  refine er_enter (L := [(0, _), (1, _), (2, _)]) rfl rfl rfl ?_
  have h8 := jn8 hI.ij
  have hk8 : k < 8 := by omega
  have hq := kind7 hI.ij k
  refine er_loc (pc' := 1) rfl rfl rfl ?_
  refine er_loc (pc' := 2) rfl rfl rfl ?_
  refine er_cIi (pc' := 5) (rest := []) 12 rfl rfl rfl rfl rfl rfl (l_rHas_t _ X _ hI hk) ?_
  refine er_if_eqF (pc' := 8) rfl (by decide +kernel) rfl ?_
  refine er_loc (pc' := 9) rfl rfl rfl ?_
  refine er_k (pc' := 10) (nI 0) rfl rfl rfl ?_
  refine er_k (pc' := 12) (nI 9) rfl rfl rfl ?_
  refine er_cSi (pc' := 15) (rest := []) rfl rfl rfl (l_in _ _ _ _ _) ?_
  rw [show sIn (nI 8) (nI 0) (nI 9) = true from by decide +kernel]
  refine er_if_neT rfl (by decide +kernel) ?_
  refine er_loc (pc' := 26) rfl rfl rfl ?_
  refine er_k (pc' := 28) (nI 6) rfl rfl rfl ?_
  refine er_cm_geT rfl (by decide +kernel) ?_
  refine er_loc (pc' := 39) rfl rfl rfl ?_
  refine er_k (pc' := 41) (nI 8) rfl rfl rfl ?_
  refine er_cm_neF (pc' := 44) rfl (rfl) rfl ?_
  refine er_loc (pc' := 45) rfl rfl rfl ?_
  refine er_loc (pc' := 46) rfl rfl rfl ?_
  refine er_cIi (pc' := 49) (rest := []) 12 rfl rfl rfl rfl rfl rfl (l_rMayDo _ X _ hI hk) ?_
  refine er_goto rfl ?_
  refine er_loc (pc' := 58) (L' := [(3, _), (0, _), (1, _), (2, _)]) rfl rfl rfl ?_
  refine er_loc (pc' := 59) rfl rfl rfl ?_
  refine er_k (pc' := 61) (nI 6) rfl rfl rfl ?_
  refine er_cm_neT rfl (by decide +kernel) ?_
  refine er_loc (pc' := 73) rfl rfl rfl ?_
  refine er_k (pc' := 75) (nI 7) rfl rfl rfl ?_
  refine er_cm_neT rfl (by decide +kernel) ?_
  refine er_loc (pc' := 87) rfl rfl rfl ?_
  refine er_if_eqb (pc' := 90) rfl rfl (fun h87 => ?_) (fun h87 => ?_)
  · refine er_k (pc' := 95) (nI 0) rfl rfl rfl ?_
    refine er_iret rfl rfl ?_
    exact RI_of (bI_eq0 h87) rfl
  · refine er_k (pc' := 91) (nI 1) rfl rfl rfl ?_
    refine er_goto rfl ?_
    refine er_iret rfl rfl ?_
    exact RI_of (bI_eq1 h87) rfl
set_option maxRecDepth 100000 in
set_option maxHeartbeats 4000000 in
theorem l_rOf_9 (d : Nat) (X Z : Nat → Nat → Int32) {T : Nat} (hI : RK T (X 64)) (hT : T < 2000000000) {k : Nat} (hk : k < jn (jm (X 64))) : EC (d + 6) 131 [.ref 63, .int (nI k), .int (nI 9)] (Wd X Z) (RI (bI (sMayUn (jm (X 64)) k)) X) := by
  refine er_enter (L := [(0, _), (1, _), (2, _)]) rfl rfl rfl ?_
  have h8 := jn8 hI.ij
  have hk8 : k < 8 := by omega
  have hq := kind7 hI.ij k
  refine er_loc (pc' := 1) rfl rfl rfl ?_
  refine er_loc (pc' := 2) rfl rfl rfl ?_
  refine er_cIi (pc' := 5) (rest := []) 12 rfl rfl rfl rfl rfl rfl (l_rHas_t _ X _ hI hk) ?_
  refine er_if_eqF (pc' := 8) rfl (by decide +kernel) rfl ?_
  refine er_loc (pc' := 9) rfl rfl rfl ?_
  refine er_k (pc' := 10) (nI 0) rfl rfl rfl ?_
  refine er_k (pc' := 12) (nI 9) rfl rfl rfl ?_
  refine er_cSi (pc' := 15) (rest := []) rfl rfl rfl (l_in _ _ _ _ _) ?_
  rw [show sIn (nI 9) (nI 0) (nI 9) = true from by decide +kernel]
  refine er_if_neT rfl (by decide +kernel) ?_
  refine er_loc (pc' := 26) rfl rfl rfl ?_
  refine er_k (pc' := 28) (nI 6) rfl rfl rfl ?_
  refine er_cm_geT rfl (by decide +kernel) ?_
  refine er_loc (pc' := 39) rfl rfl rfl ?_
  refine er_k (pc' := 41) (nI 8) rfl rfl rfl ?_
  refine er_cm_neT rfl (by decide +kernel) ?_
  refine er_loc (pc' := 53) rfl rfl rfl ?_
  refine er_loc (pc' := 54) rfl rfl rfl ?_
  refine er_cIi (pc' := 57) (rest := []) 12 rfl rfl rfl rfl rfl rfl (l_rMayUn _ X _ hI hk) ?_
  refine er_loc (pc' := 58) (L' := [(3, _), (0, _), (1, _), (2, _)]) rfl rfl rfl ?_
  refine er_loc (pc' := 59) rfl rfl rfl ?_
  refine er_k (pc' := 61) (nI 6) rfl rfl rfl ?_
  refine er_cm_neT rfl (by decide +kernel) ?_
  refine er_loc (pc' := 73) rfl rfl rfl ?_
  refine er_k (pc' := 75) (nI 7) rfl rfl rfl ?_
  refine er_cm_neT rfl (by decide +kernel) ?_
  refine er_loc (pc' := 87) rfl rfl rfl ?_
  refine er_if_eqb (pc' := 90) rfl rfl (fun h87 => ?_) (fun h87 => ?_)
  · refine er_k (pc' := 95) (nI 0) rfl rfl rfl ?_
    refine er_iret rfl rfl ?_
    exact RI_of (bI_eq0 h87) rfl
  · refine er_k (pc' := 91) (nI 1) rfl rfl rfl ?_
    refine er_goto rfl ?_
    refine er_iret rfl rfl ?_
    exact RI_of (bI_eq1 h87) rfl
theorem l_rOfStep (d : Nat) (X Z : Nat → Nat → Int32) {T : Nat} (hI : RK T (X 64)) (hT : T < 2000000000) {k : Nat} (hk : k < jn (jm (X 64))) (w : Int32) : EC (d + 6) 131 [.ref 63, .int (nI k), .int w] (Wd X Z) (fun r => if sIn w (nI 0) (nI 9) = true then RI (sOf (jm (X 64)) k w) X r else RI (sErr 1) (yErr X 1) r) := by
  by_cases hw : sIn w (nI 0) (nI 9) = true
  · refine EC.mono (P := RI (sOf (jm (X 64)) k w) X) ?_ (fun r hr => by rw [if_pos hw]; exact hr)
    obtain ⟨j, _, h2, rfl⟩ := sIn_ex (by omega) (by omega) hw
    have : j = 0 ∨ j = 1 ∨ j = 2 ∨ j = 3 ∨ j = 4 ∨ j = 5 ∨ j = 6 ∨ j = 7 ∨ j = 8 ∨ j = 9 := by omega
    rcases this with rfl | rfl | rfl | rfl | rfl | rfl | rfl | rfl | rfl | rfl
    · exact l_rOf_0 d X Z hI hT hk
    · exact l_rOf_1 d X Z hI hT hk
    · exact l_rOf_2 d X Z hI hT hk
    · exact l_rOf_3 d X Z hI hT hk
    · exact l_rOf_4 d X Z hI hT hk
    · exact l_rOf_5 d X Z hI hT hk
    · exact l_rOf_6 d X Z hI hT hk
    · exact l_rOf_7 d X Z hI hT hk
    · exact l_rOf_8 d X Z hI hT hk
    · exact l_rOf_9 d X Z hI hT hk
  · refine EC.mono (P := RI (sErr 1) (yErr X 1)) ?_ (fun r hr => by rw [if_neg hw]; exact hr)
    have hw2 : sIn w (nI 0) (nI 9) = false := by simpa using hw
    refine er_enter (L := [(0, _), (1, _), (2, _)]) rfl rfl rfl ?_
    refine er_loc (pc' := 1) rfl rfl rfl ?_
    refine er_loc (pc' := 2) rfl rfl rfl ?_
    refine er_cIi (pc' := 5) (rest := []) 12 rfl rfl rfl rfl rfl rfl (l_rHas_t _ X _ hI hk) ?_
    refine er_if_eqF (pc' := 8) rfl (by decide +kernel) rfl ?_
    refine er_loc (pc' := 9) rfl rfl rfl ?_
    refine er_k (pc' := 10) (nI 0) rfl rfl rfl ?_
    refine er_k (pc' := 12) (nI 9) rfl rfl rfl ?_
    refine er_cSi (pc' := 15) (rest := []) rfl rfl rfl (l_in _ _ _ _ _) ?_
    rw [hw2]
    refine er_if_neF (pc' := 18) rfl (by decide +kernel) rfl ?_
    refine er_loc (pc' := 19) rfl rfl rfl ?_
    refine er_ldc (pc' := 21) (-1000000001) rfl rfl rfl rfl rfl ?_
    refine er_cIz (pc' := 24) (rest := []) 12 rfl rfl rfl rfl rfl rfl (l_rError1 _ _ _) ?_
    intro Z9
    refine er_iret rfl rfl ?_
    exact RI_of rfl rfl
set_option maxRecDepth 100000 in
set_option maxHeartbeats 4000000 in
theorem l_rChange_no (d : Nat) (X Z : Nat → Nat → Int32) {T : Nat} (hI : RK T (X 64)) (s w v : Int32) (hs : jHas (jm (X 64)) s = false) : EC (d + 3) 146 [.ref 63, .int s, .int w, .int v] (Wd X Z) (RI (sErr 1) (yErr X 1)) := by
  refine er_enter (L := [(0, _), (1, _), (2, _), (3, _)]) rfl rfl rfl ?_
  refine er_loc (pc' := 1) rfl rfl rfl ?_
  refine er_loc (pc' := 2) rfl rfl rfl ?_
  refine er_cIi (pc' := 5) (rest := []) 12 rfl rfl rfl rfl rfl rfl (l_rHas_f _ X _ hI hs) ?_
  refine er_if_eqT rfl (by decide +kernel) ?_
  refine er_loc (pc' := 49) rfl rfl rfl ?_
  refine er_ldc (pc' := 51) (-1000000001) rfl rfl rfl rfl rfl ?_
  refine er_cIz (pc' := 54) (rest := []) 12 rfl rfl rfl rfl rfl rfl (l_rError1 _ _ _) ?_
  intro Z9
  refine er_iret rfl rfl ?_
  exact RI_of rfl rfl
set_option maxRecDepth 100000 in
set_option maxHeartbeats 4000000 in
theorem l_rChange0 (d : Nat) (X Z : Nat → Nat → Int32) {T : Nat} (hI : RK T (X 64)) {k : Nat} (hk : k < jn (jm (X 64))) (v : Int32) : EC (d + 3) 146 [.ref 63, .int (nI k), .int (nI 0), .int v] (Wd X Z) (fun r => if sIn v (nI 0) (nI 9) = true then (RNJ (jm (X 64) 3 k) (ud (jm (X 64)) 3 k v) T X r) else RI (sErr 1) (yErr X 1) r) := by
  refine er_enter (L := [(0, _), (1, _), (2, _), (3, _)]) rfl rfl rfl ?_
  have h8 := jn8 hI.ij
  have hk8 : k < 8 := by omega
  have hq := kind7 hI.ij k
  refine er_loc (pc' := 1) rfl rfl rfl ?_
  refine er_loc (pc' := 2) rfl rfl rfl ?_
  refine er_cIi (pc' := 5) (rest := []) 12 rfl rfl rfl rfl rfl rfl (l_rHas_t _ X _ hI hk) ?_
  refine er_if_eqF (pc' := 8) rfl (by decide +kernel) rfl ?_
  refine er_loc (pc' := 9) rfl rfl rfl ?_
  refine er_k (pc' := 10) (nI 0) rfl rfl rfl ?_
  refine er_k (pc' := 11) (nI 2) rfl rfl rfl ?_
  refine er_cSi (pc' := 14) (rest := []) rfl rfl rfl (l_in _ _ _ _ _) ?_
  rw [show sIn (nI 0) (nI 0) (nI 2) = true from by decide +kernel]
  refine er_if_eqF (pc' := 17) rfl (by decide +kernel) rfl ?_
  refine er_loc (pc' := 18) rfl rfl rfl ?_
  refine er_k (pc' := 19) (nI 0) rfl rfl rfl ?_
  refine er_loc (pc' := 20) rfl rfl rfl ?_
  refine er_if_neF (pc' := 23) rfl (rfl) rfl ?_
  refine er_k (pc' := 25) (nI 9) rfl rfl rfl ?_
  refine er_goto rfl ?_
  refine er_cSi (pc' := 45) (rest := []) rfl rfl rfl (l_in _ _ _ _ _) ?_
  refine er_if_neb (pc' := 48) rfl rfl (fun h45 => ?_) (fun h45 => ?_)
  · refine er_loc (pc' := 56) rfl rfl rfl ?_
    refine er_k (pc' := 57) (nI 2) rfl rfl rfl ?_
    refine er_cm_neT rfl (by decide +kernel) ?_
    refine er_loc (pc' := 77) rfl rfl rfl ?_
    refine er_k (pc' := 79) (nI 7) rfl rfl rfl ?_
    refine er_k (pc' := 81) (nI 6) rfl rfl rfl ?_
    refine er_loc (pc' := 82) rfl rfl rfl ?_
    refine er_imul (pc' := 83) rfl rfl ?_
    refine er_iadd (pc' := 84) rfl rfl ?_
    refine er_loc (pc' := 85) rfl rfl rfl ?_
    refine er_k (pc' := 86) (nI 2) rfl rfl rfl ?_
    refine er_cm_neT rfl (by decide +kernel) ?_
    refine er_k (pc' := 94) (nI 2) rfl rfl rfl ?_
    refine er_loc (pc' := 95) rfl rfl rfl ?_
    refine er_iadd (pc' := 96) rfl rfl ?_
    refine er_iadd (pc' := 97) rfl rfl ?_
    rw [show nI 7 + nI 6 * nI k + (nI 2 + nI 0) = nI (9 + 6 * k) from by simp only [nI_add, nI_mul]; congr 1; omega]
    refine er_loc (pc' := 98) rfl rfl rfl ?_
    refine er_cIz (pc' := 101) (rest := []) 12 rfl rfl rfl rfl rfl rfl (l_rBecomes _ _ _ (by omega) _) ?_
    intro Z2
    refine er_iret rfl rfl ?_
    rw [if_pos h45]
    exact RNJ_of (jm3 hk8).symm (wSc hI rfl hk8 (sIn_isN (by omega) (by omega) h45) rfl)
  · refine er_loc (pc' := 49) rfl rfl rfl ?_
    refine er_ldc (pc' := 51) (-1000000001) rfl rfl rfl rfl rfl ?_
    refine er_cIz (pc' := 54) (rest := []) 12 rfl rfl rfl rfl rfl rfl (l_rError1 _ _ _) ?_
    intro Z9
    refine er_iret rfl rfl ?_
    rw [if_neg (by rw [h45]; decide)]
    exact RI_of rfl rfl
set_option maxRecDepth 100000 in
set_option maxHeartbeats 4000000 in
theorem l_rChange1 (d : Nat) (X Z : Nat → Nat → Int32) {T : Nat} (hI : RK T (X 64)) {k : Nat} (hk : k < jn (jm (X 64))) (v : Int32) : EC (d + 3) 146 [.ref 63, .int (nI k), .int (nI 1), .int v] (Wd X Z) (fun r => if sIn v (nI 0) (nI 1 <<< (nI k &&& 31) - nI 1) = true then (RNJ (jm (X 64) 4 k) (ud (jm (X 64)) 4 k v) T X r) else RI (sErr 1) (yErr X 1) r) := by
  refine er_enter (L := [(0, _), (1, _), (2, _), (3, _)]) rfl rfl rfl ?_
  have h8 := jn8 hI.ij
  have hk8 : k < 8 := by omega
  have hq := kind7 hI.ij k
  refine er_loc (pc' := 1) rfl rfl rfl ?_
  refine er_loc (pc' := 2) rfl rfl rfl ?_
  refine er_cIi (pc' := 5) (rest := []) 12 rfl rfl rfl rfl rfl rfl (l_rHas_t _ X _ hI hk) ?_
  refine er_if_eqF (pc' := 8) rfl (by decide +kernel) rfl ?_
  refine er_loc (pc' := 9) rfl rfl rfl ?_
  refine er_k (pc' := 10) (nI 0) rfl rfl rfl ?_
  refine er_k (pc' := 11) (nI 2) rfl rfl rfl ?_
  refine er_cSi (pc' := 14) (rest := []) rfl rfl rfl (l_in _ _ _ _ _) ?_
  rw [show sIn (nI 1) (nI 0) (nI 2) = true from by decide +kernel]
  refine er_if_eqF (pc' := 17) rfl (by decide +kernel) rfl ?_
  refine er_loc (pc' := 18) rfl rfl rfl ?_
  refine er_k (pc' := 19) (nI 0) rfl rfl rfl ?_
  refine er_loc (pc' := 20) rfl rfl rfl ?_
  refine er_if_neT rfl (by decide +kernel) ?_
  refine er_loc (pc' := 29) rfl rfl rfl ?_
  refine er_k (pc' := 30) (nI 1) rfl rfl rfl ?_
  refine er_cm_neF (pc' := 33) rfl (rfl) rfl ?_
  refine er_k (pc' := 34) (nI 1) rfl rfl rfl ?_
  refine er_loc (pc' := 35) rfl rfl rfl ?_
  refine er_ishl (pc' := 36) rfl rfl ?_
  refine er_k (pc' := 37) (nI 1) rfl rfl rfl ?_
  refine er_isub (pc' := 38) rfl rfl ?_
  refine er_goto rfl ?_
  refine er_cSi (pc' := 45) (rest := []) rfl rfl rfl (l_in _ _ _ _ _) ?_
  refine er_if_neb (pc' := 48) rfl rfl (fun h45 => ?_) (fun h45 => ?_)
  · refine er_loc (pc' := 56) rfl rfl rfl ?_
    refine er_k (pc' := 57) (nI 2) rfl rfl rfl ?_
    refine er_cm_neT rfl (by decide +kernel) ?_
    refine er_loc (pc' := 77) rfl rfl rfl ?_
    refine er_k (pc' := 79) (nI 7) rfl rfl rfl ?_
    refine er_k (pc' := 81) (nI 6) rfl rfl rfl ?_
    refine er_loc (pc' := 82) rfl rfl rfl ?_
    refine er_imul (pc' := 83) rfl rfl ?_
    refine er_iadd (pc' := 84) rfl rfl ?_
    refine er_loc (pc' := 85) rfl rfl rfl ?_
    refine er_k (pc' := 86) (nI 2) rfl rfl rfl ?_
    refine er_cm_neT rfl (by decide +kernel) ?_
    refine er_k (pc' := 94) (nI 2) rfl rfl rfl ?_
    refine er_loc (pc' := 95) rfl rfl rfl ?_
    refine er_iadd (pc' := 96) rfl rfl ?_
    refine er_iadd (pc' := 97) rfl rfl ?_
    rw [show nI 7 + nI 6 * nI k + (nI 2 + nI 1) = nI (10 + 6 * k) from by simp only [nI_add, nI_mul]; congr 1; omega]
    refine er_loc (pc' := 98) rfl rfl rfl ?_
    refine er_cIz (pc' := 101) (rest := []) 12 rfl rfl rfl rfl rfl rfl (l_rBecomes _ _ _ (by omega) _) ?_
    intro Z2
    refine er_iret rfl rfl ?_
    rw [if_pos h45]
    exact RNJ_of (jm4 hk8).symm (wNeeds hI rfl hk8 (needs_lt (by omega) h45) rfl)
  · refine er_loc (pc' := 49) rfl rfl rfl ?_
    refine er_ldc (pc' := 51) (-1000000001) rfl rfl rfl rfl rfl ?_
    refine er_cIz (pc' := 54) (rest := []) 12 rfl rfl rfl rfl rfl rfl (l_rError1 _ _ _) ?_
    intro Z9
    refine er_iret rfl rfl ?_
    rw [if_neg (by rw [h45]; decide)]
    exact RI_of rfl rfl
set_option maxRecDepth 100000 in
set_option maxHeartbeats 4000000 in
theorem l_rChange2 (d : Nat) (X Z : Nat → Nat → Int32) {T : Nat} (hI : RK T (X 64)) {k : Nat} (hk : k < jn (jm (X 64))) (v : Int32) : EC (d + 3) 146 [.ref 63, .int (nI k), .int (nI 2), .int v] (Wd X Z) (fun r => if sIn v (nI 0) (nI 1) = true then (if sDone (jm (X 64)) k = true then RNJ (bI (sBit (jm (X 64) 0 7) (nI k))) (ud (jm (X 64)) 0 7 (sWith (jm (X 64) 0 7) (nI k) (decide (v = nI 1)))) T X r else RI (sErr 3) (yErr X 3) r) else RI (sErr 1) (yErr X 1) r) := by
  refine er_enter (L := [(0, _), (1, _), (2, _), (3, _)]) rfl rfl rfl ?_
  have h8 := jn8 hI.ij
  have hk8 : k < 8 := by omega
  have hq := kind7 hI.ij k
  refine er_loc (pc' := 1) rfl rfl rfl ?_
  refine er_loc (pc' := 2) rfl rfl rfl ?_
  refine er_cIi (pc' := 5) (rest := []) 12 rfl rfl rfl rfl rfl rfl (l_rHas_t _ X _ hI hk) ?_
  refine er_if_eqF (pc' := 8) rfl (by decide +kernel) rfl ?_
  refine er_loc (pc' := 9) rfl rfl rfl ?_
  refine er_k (pc' := 10) (nI 0) rfl rfl rfl ?_
  refine er_k (pc' := 11) (nI 2) rfl rfl rfl ?_
  refine er_cSi (pc' := 14) (rest := []) rfl rfl rfl (l_in _ _ _ _ _) ?_
  rw [show sIn (nI 2) (nI 0) (nI 2) = true from by decide +kernel]
  refine er_if_eqF (pc' := 17) rfl (by decide +kernel) rfl ?_
  refine er_loc (pc' := 18) rfl rfl rfl ?_
  refine er_k (pc' := 19) (nI 0) rfl rfl rfl ?_
  refine er_loc (pc' := 20) rfl rfl rfl ?_
  refine er_if_neT rfl (by decide +kernel) ?_
  refine er_loc (pc' := 29) rfl rfl rfl ?_
  refine er_k (pc' := 30) (nI 1) rfl rfl rfl ?_
  refine er_cm_neT rfl (by decide +kernel) ?_
  refine er_k (pc' := 42) (nI 1) rfl rfl rfl ?_
  refine er_cSi (pc' := 45) (rest := []) rfl rfl rfl (l_in _ _ _ _ _) ?_
  refine er_if_neb (pc' := 48) rfl rfl (fun h45 => ?_) (fun h45 => ?_)
  · refine er_loc (pc' := 56) rfl rfl rfl ?_
    refine er_k (pc' := 57) (nI 2) rfl rfl rfl ?_
    refine er_cm_neF (pc' := 60) rfl (rfl) rfl ?_
    refine er_loc (pc' := 61) rfl rfl rfl ?_
    refine er_loc (pc' := 62) rfl rfl rfl ?_
    refine er_k (pc' := 63) (nI 4) rfl rfl rfl ?_
    refine er_cIi (pc' := 66) (rest := []) 12 rfl rfl rfl rfl rfl rfl (l_of4 _ X _ hI (by omega)) ?_
    refine er_if_neb (pc' := 69) rfl rfl (fun h66 => ?_) (fun h66 => ?_)
    · refine er_loc (pc' := 77) rfl rfl rfl ?_
      refine er_k (pc' := 79) (nI 7) rfl rfl rfl ?_
      refine er_k (pc' := 81) (nI 6) rfl rfl rfl ?_
      refine er_loc (pc' := 82) rfl rfl rfl ?_
      refine er_imul (pc' := 83) rfl rfl ?_
      refine er_iadd (pc' := 84) rfl rfl ?_
      refine er_loc (pc' := 85) rfl rfl rfl ?_
      refine er_k (pc' := 86) (nI 2) rfl rfl rfl ?_
      refine er_cm_neF (pc' := 89) rfl (rfl) rfl ?_
      refine er_k (pc' := 90) (nI 5) rfl rfl rfl ?_
      refine er_goto rfl ?_
      refine er_iadd (pc' := 97) rfl rfl ?_
      rw [show nI 7 + nI 6 * nI k + nI 5 = nI (12 + 6 * k) from by simp only [nI_add, nI_mul]; congr 1; omega]
      refine er_loc (pc' := 98) rfl rfl rfl ?_
      refine er_cIz (pc' := 101) (rest := []) 12 rfl rfl rfl rfl rfl rfl (l_rBecomes _ _ _ (by omega) _) ?_
      intro Z2
      refine er_iret rfl rfl ?_
      rw [if_pos h45, if_pos h66]
      have e := wWrong (c := decide (v = nI 1)) hI rfl hk (p := 12 + 6 * k) rfl
      rw [← sIn_b h45] at e
      exact RNJ_of (hI.wrong hk) e
    · refine er_loc (pc' := 70) rfl rfl rfl ?_
      refine er_ldc (pc' := 72) (-1000000003) rfl rfl rfl rfl rfl ?_
      refine er_cIz (pc' := 75) (rest := []) 12 rfl rfl rfl rfl rfl rfl (l_rError3 _ _ _) ?_
      intro Z9
      refine er_iret rfl rfl ?_
      rw [if_pos h45, if_neg (by rw [h66]; decide)]
      exact RI_of rfl rfl
  · refine er_loc (pc' := 49) rfl rfl rfl ?_
    refine er_ldc (pc' := 51) (-1000000001) rfl rfl rfl rfl rfl ?_
    refine er_cIz (pc' := 54) (rest := []) 12 rfl rfl rfl rfl rfl rfl (l_rError1 _ _ _) ?_
    intro Z9
    refine er_iret rfl rfl ?_
    rw [if_neg (by rw [h45]; decide)]
    exact RI_of rfl rfl
theorem l_rChange (d : Nat) (X Z : Nat → Nat → Int32) {T : Nat} (hI : RK T (X 64)) {k : Nat} (hk : k < jn (jm (X 64))) (w v : Int32) : EC (d + 3) 146 [.ref 63, .int (nI k), .int w, .int v] (Wd X Z) (fun r => if sIn v (nI 0) (sMost k w) = true then (if w = 0 then RNJ (jm (X 64) 3 k) (ud (jm (X 64)) 3 k v) T X r else if w = nI 1 then RNJ (jm (X 64) 4 k) (ud (jm (X 64)) 4 k v) T X r else if sDone (jm (X 64)) k = true then RNJ (bI (sBit (jm (X 64) 0 7) (nI k))) (ud (jm (X 64)) 0 7 (sWith (jm (X 64) 0 7) (nI k) (decide (v = nI 1)))) T X r else RI (sErr 3) (yErr X 3) r) else RI (sErr 1) (yErr X 1) r) := by
  by_cases hw : sIn w (nI 0) (nI 2) = true
  · obtain ⟨j, _, h2, rfl⟩ := sIn_ex (by omega) (by omega) hw
    have : j = 0 ∨ j = 1 ∨ j = 2 := by omega
    rcases this with rfl | rfl | rfl
    · exact l_rChange0 d X Z hI hk v
    · exact l_rChange1 d X Z hI hk v
    · exact l_rChange2 d X Z hI hk v
  · have hw2 : sIn w (nI 0) (nI 2) = false := by simpa using hw
    have e : sMost k w = -1 := by
      unfold sMost
      rw [if_neg (fun e => by subst e; exact absurd hw (by decide +kernel)), if_neg (fun e => by subst e; exact absurd hw (by decide +kernel)), if_neg (fun e => by subst e; exact absurd hw (by decide +kernel))]
    refine EC.mono (P := RI (sErr 1) (yErr X 1)) ?_ (fun r hr => by rw [e, sIn_m1, if_neg (by decide)]; exact hr)
    refine er_enter (L := [(0, _), (1, _), (2, _), (3, _)]) rfl rfl rfl ?_
    refine er_loc (pc' := 1) rfl rfl rfl ?_
    refine er_loc (pc' := 2) rfl rfl rfl ?_
    refine er_cIi (pc' := 5) (rest := []) 12 rfl rfl rfl rfl rfl rfl (l_rHas_t _ X _ hI hk) ?_
    refine er_if_eqF (pc' := 8) rfl (by decide +kernel) rfl ?_
    refine er_loc (pc' := 9) rfl rfl rfl ?_
    refine er_k (pc' := 10) (nI 0) rfl rfl rfl ?_
    refine er_k (pc' := 11) (nI 2) rfl rfl rfl ?_
    refine er_cSi (pc' := 14) (rest := []) rfl rfl rfl (l_in _ _ _ _ _) ?_
    rw [hw2]
    refine er_if_eqT rfl (by decide +kernel) ?_
    refine er_loc (pc' := 49) rfl rfl rfl ?_
    refine er_ldc (pc' := 51) (-1000000001) rfl rfl rfl rfl rfl ?_
    refine er_cIz (pc' := 54) (rest := []) 12 rfl rfl rfl rfl rfl rfl (l_rError1 _ _ _) ?_
    intro Z9
    refine er_iret rfl rfl ?_
    exact RI_of rfl rfl
set_option maxRecDepth 100000 in
set_option maxHeartbeats 4000000 in
theorem l_rSet (d : Nat) (X Z : Nat → Nat → Int32) {T : Nat} (hI : RK T (X 64)) (w v : Int32) : EC (d + 3) 148 [.ref 63, .int w, .int v] (Wd X Z) (fun r => if w = 0 ∧ sIn v (nI 1) (nI 2) = true then RNJ (X 64 3) (ud (jm (X 64)) 0 8 v) T X r else if w = nI 1 ∧ sIn v (nI 0) (nI 999) = true then RNJ (X 64 4) (ud (jm (X 64)) 0 9 v) T X r else if w = nI 2 ∧ sIn v (nI 0) 99999 = true then RNJ (X 64 0) (ud (jm (X 64)) 0 10 v) 99999 X r else RI (sErr 1) (yErr X 1) r) := by
  refine er_enter (L := [(0, _), (1, _), (2, _)]) rfl rfl rfl ?_
  refine er_loc (pc' := 1) rfl rfl rfl ?_
  refine er_sw (0) rfl rfl (fun s1_0 => ?_) (fun s1_0 => ?_)
  · refine er_loc (pc' := 29) rfl rfl rfl ?_
    refine er_k (pc' := 30) (nI 1) rfl rfl rfl ?_
    refine er_k (pc' := 31) (nI 2) rfl rfl rfl ?_
    refine er_cSi (pc' := 34) (rest := []) rfl rfl rfl (l_in _ _ _ _ _) ?_
    refine er_if_eqb (pc' := 37) rfl rfl (fun h34 => ?_) (fun h34 => ?_)
    · refine er_loc (pc' := 47) rfl rfl rfl ?_
      refine er_ldc (pc' := 49) (-1000000001) rfl rfl rfl rfl rfl ?_
      refine er_cIz (pc' := 52) (rest := []) 12 rfl rfl rfl rfl rfl rfl (l_rError1 _ _ _) ?_
      intro Z9
      refine er_iret rfl rfl ?_
      rw [if_neg (fun hh => by rw [h34] at hh; exact absurd hh.2 (by decide)), if_neg (fun hh => absurd (s1_0.symm.trans hh.1) (by decide +kernel)), if_neg (fun hh => absurd (s1_0.symm.trans hh.1) (by decide +kernel))]
      exact RI_of rfl rfl
    · refine er_loc (pc' := 38) rfl rfl rfl ?_
      refine er_k (pc' := 39) (nI 3) rfl rfl rfl ?_
      refine er_loc (pc' := 40) rfl rfl rfl ?_
      refine er_cIz (pc' := 43) (rest := []) 12 rfl rfl rfl rfl rfl rfl (l_rBecomes _ _ _ (by omega) _) ?_
      intro Z2
      refine er_goto rfl ?_
      refine er_iret rfl rfl ?_
      subst s1_0
      rw [if_pos ⟨rfl, h34⟩]
      exact RNJ_of rfl (wHands hI rfl (by
        obtain ⟨j, h1, h2, rfl⟩ := sIn_ex (by omega) (by omega) h34
        have : j = 1 ∨ j = 2 := by omega
        rcases this with rfl | rfl
        · exact Or.inl rfl
        · exact Or.inr rfl) rfl)
  refine er_sw (1) rfl rfl (fun s1_1 => ?_) (fun s1_1 => ?_)
  · refine er_loc (pc' := 54) rfl rfl rfl ?_
    refine er_k (pc' := 55) (nI 0) rfl rfl rfl ?_
    refine er_k (pc' := 58) (nI 999) rfl rfl rfl ?_
    refine er_cSi (pc' := 61) (rest := []) rfl rfl rfl (l_in _ _ _ _ _) ?_
    refine er_if_eqb (pc' := 64) rfl rfl (fun h61 => ?_) (fun h61 => ?_)
    · refine er_loc (pc' := 74) rfl rfl rfl ?_
      refine er_ldc (pc' := 76) (-1000000001) rfl rfl rfl rfl rfl ?_
      refine er_cIz (pc' := 79) (rest := []) 12 rfl rfl rfl rfl rfl rfl (l_rError1 _ _ _) ?_
      intro Z9
      refine er_iret rfl rfl ?_
      rw [if_neg (fun hh => absurd (s1_1.symm.trans hh.1) (by decide +kernel)), if_neg (fun hh => by rw [h61] at hh; exact absurd hh.2 (by decide)), if_neg (fun hh => absurd (s1_1.symm.trans hh.1) (by decide +kernel))]
      exact RI_of rfl rfl
    · refine er_loc (pc' := 65) rfl rfl rfl ?_
      refine er_k (pc' := 66) (nI 4) rfl rfl rfl ?_
      refine er_loc (pc' := 67) rfl rfl rfl ?_
      refine er_cIz (pc' := 70) (rest := []) 12 rfl rfl rfl rfl rfl rfl (l_rBecomes _ _ _ (by omega) _) ?_
      intro Z2
      refine er_goto rfl ?_
      refine er_iret rfl rfl ?_
      subst s1_1
      rw [if_neg (fun hh => absurd hh.1 (by decide +kernel)), if_pos ⟨rfl, h61⟩]
      exact RNJ_of rfl (wBag hI rfl (sIn_isN (by omega) (by omega) h61) rfl)
  refine er_sw (2) rfl rfl (fun s1_2 => ?_) (fun s1_2 => ?_)
  · refine er_loc (pc' := 81) rfl rfl rfl ?_
    refine er_k (pc' := 82) (nI 0) rfl rfl rfl ?_
    refine er_ldc (pc' := 84) (99999) rfl rfl rfl rfl rfl ?_
    refine er_cSi (pc' := 87) (rest := []) rfl rfl rfl (l_in _ _ _ _ _) ?_
    refine er_if_eqb (pc' := 90) rfl rfl (fun h87 => ?_) (fun h87 => ?_)
    · refine er_loc (pc' := 100) rfl rfl rfl ?_
      refine er_ldc (pc' := 102) (-1000000001) rfl rfl rfl rfl rfl ?_
      refine er_cIz (pc' := 105) (rest := []) 12 rfl rfl rfl rfl rfl rfl (l_rError1 _ _ _) ?_
      intro Z9
      refine er_iret rfl rfl ?_
      rw [if_neg (fun hh => absurd (s1_2.symm.trans hh.1) (by decide +kernel)), if_neg (fun hh => absurd (s1_2.symm.trans hh.1) (by decide +kernel)), if_neg (fun hh => by rw [h87] at hh; exact absurd hh.2 (by decide))]
      exact RI_of rfl rfl
    · refine er_loc (pc' := 91) rfl rfl rfl ?_
      refine er_k (pc' := 92) (nI 0) rfl rfl rfl ?_
      refine er_loc (pc' := 93) rfl rfl rfl ?_
      refine er_cIz (pc' := 96) (rest := []) 12 rfl rfl rfl rfl rfl rfl (l_rBecomes _ _ _ (by omega) _) ?_
      intro Z2
      refine er_goto rfl ?_
      refine er_iret rfl rfl ?_
      subst s1_2
      rw [if_neg (fun hh => absurd hh.1 (by decide +kernel)), if_neg (fun hh => absurd hh.1 (by decide +kernel)), if_pos ⟨rfl, h87⟩]
      exact RNJ_of rfl (wMin (T' := 99999) hI rfl (sIn_isN (by omega) (by omega) h87) rfl)
  refine er_tsD [0, 1, 2] rfl rfl rfl rfl (List.forall_mem_cons.mpr ⟨ne_toInt s1_0 rfl, List.forall_mem_cons.mpr ⟨ne_toInt s1_1 rfl, List.forall_mem_cons.mpr ⟨ne_toInt s1_2 rfl, fun _ h => absurd h List.not_mem_nil⟩⟩⟩) ?_
  refine er_loc (pc' := 107) rfl rfl rfl ?_
  refine er_ldc (pc' := 109) (-1000000001) rfl rfl rfl rfl rfl ?_
  refine er_cIz (pc' := 112) (rest := []) 12 rfl rfl rfl rfl rfl rfl (l_rError1 _ _ _) ?_
  intro Z9
  refine er_iret rfl rfl ?_
  rw [if_neg (fun hh => s1_0 (hh.1.trans (by decide +kernel))), if_neg (fun hh => s1_1 (hh.1.trans (by decide +kernel))), if_neg (fun hh => s1_2 (hh.1.trans (by decide +kernel)))]
  exact RI_of rfl rfl
set_option maxRecDepth 100000 in
set_option maxHeartbeats 4000000 in
theorem l_rBecome_no (d : Nat) (X Z : Nat → Nat → Int32) {T : Nat} (hI : RK T (X 64)) (s km : Int32) (hs : jHas (jm (X 64)) s = false) : EC (d + 3) 149 [.ref 63, .int s, .int km] (Wd X Z) (RI (sErr 1) (yErr X 1)) := by
  refine er_enter (L := [(0, _), (1, _), (2, _)]) rfl rfl rfl ?_
  refine er_loc (pc' := 1) rfl rfl rfl ?_
  refine er_loc (pc' := 2) rfl rfl rfl ?_
  refine er_cIi (pc' := 5) (rest := []) 12 rfl rfl rfl rfl rfl rfl (l_rHas_f _ X _ hI hs) ?_
  refine er_if_eqT rfl (by decide +kernel) ?_
  refine er_loc (pc' := 16) rfl rfl rfl ?_
  refine er_ldc (pc' := 18) (-1000000001) rfl rfl rfl rfl rfl ?_
  refine er_cIz (pc' := 21) (rest := []) 12 rfl rfl rfl rfl rfl rfl (l_rError1 _ _ _) ?_
  intro Z9
  refine er_iret rfl rfl ?_
  exact RI_of rfl rfl
set_option maxRecDepth 100000 in
set_option maxHeartbeats 4000000 in
theorem l_rBecome (d : Nat) (X Z : Nat → Nat → Int32) {T : Nat} (hI : RK T (X 64)) {k : Nat} (hk : k < jn (jm (X 64))) (km : Int32) : EC (d + 3) 149 [.ref 63, .int (nI k), .int km] (Wd X Z) (fun r => if sIn km (nI 0) (nI 69) = true then RNJ (jm (X 64) 1 k) (ud (ud (jm (X 64)) 1 k (km / nI 10)) 2 k (km - km / nI 10 * nI 10)) T X r else RI (sErr 1) (yErr X 1) r) := by
  refine er_enter (L := [(0, _), (1, _), (2, _)]) rfl rfl rfl ?_
  have h8 := jn8 hI.ij
  have hk8 : k < 8 := by omega
  have hq := kind7 hI.ij k
  refine er_loc (pc' := 1) rfl rfl rfl ?_
  refine er_loc (pc' := 2) rfl rfl rfl ?_
  refine er_cIi (pc' := 5) (rest := []) 12 rfl rfl rfl rfl rfl rfl (l_rHas_t _ X _ hI hk) ?_
  refine er_if_eqF (pc' := 8) rfl (by decide +kernel) rfl ?_
  refine er_loc (pc' := 9) rfl rfl rfl ?_
  refine er_cSi (pc' := 12) (rest := []) rfl rfl rfl (l_isKm _ _ _) ?_
  refine er_if_neb (pc' := 15) rfl rfl (fun h12 => ?_) (fun h12 => ?_)
  · refine er_loc (pc' := 23) rfl rfl rfl ?_
    refine er_loc (pc' := 24) rfl rfl rfl ?_
    refine er_k (pc' := 25) (nI 1) rfl rfl rfl ?_
    refine er_loc (pc' := 26) rfl rfl rfl ?_
    refine er_k (pc' := 28) (nI 10) rfl rfl rfl ?_
    refine er_irem (pc' := 29) rfl rfl (by decide) ?_
    refine er_cIv (pc' := 32) (rest := []) 12 rfl rfl rfl rfl rfl rfl (l_rLets _ _ _ (show _ < 8 by omega) (show 1 < 6 by omega) _) ?_
    intro Z7
    refine er_loc (pc' := 33) rfl rfl rfl ?_
    refine er_k (pc' := 35) (nI 7) rfl rfl rfl ?_
    refine er_k (pc' := 37) (nI 6) rfl rfl rfl ?_
    refine er_loc (pc' := 38) rfl rfl rfl ?_
    refine er_imul (pc' := 39) rfl rfl ?_
    refine er_iadd (pc' := 40) rfl rfl ?_
    rw [show nI 7 + nI 6 * nI k = nI (7 + 6 * k) from by simp only [nI_add, nI_mul]]
    refine er_loc (pc' := 41) rfl rfl rfl ?_
    refine er_k (pc' := 43) (nI 10) rfl rfl rfl ?_
    refine er_idiv (pc' := 44) rfl rfl (by decide) ?_
    refine er_cIz (pc' := 47) (rest := []) 12 rfl rfl rfl rfl rfl rfl (l_rBecomes _ _ _ (by omega) _) ?_
    intro Z2
    refine er_iret rfl rfl ?_
    rw [if_pos h12]
    obtain ⟨g1, g2⟩ := km_q h12
    have h1 := wM (p := 7 + 6 * k + 1) hI rfl hk8 g2 (by omega)
    have h2 := wKind (p := 7 + 6 * k) h1.rk h1.j hk8 g1 rfl
    rw [ud_comm2 (by omega)] at h2
    exact RNJ_of (by rw [jm1 hk8, ud_same, u1_ne (by omega)]) (h1.trans h2)
  · refine er_loc (pc' := 16) rfl rfl rfl ?_
    refine er_ldc (pc' := 18) (-1000000001) rfl rfl rfl rfl rfl ?_
    refine er_cIz (pc' := 21) (rest := []) 12 rfl rfl rfl rfl rfl rfl (l_rError1 _ _ _) ?_
    intro Z9
    refine er_iret rfl rfl ?_
    rw [if_neg (by rw [h12]; decide)]
    exact RI_of rfl rfl
set_option maxRecDepth 100000 in
set_option maxHeartbeats 4000000 in
theorem l_rAs_no (d : Nat) (X Z : Nat → Nat → Int32) {T : Nat} (hI : RK T (X 64)) (s w : Int32) (hs : jHas (jm (X 64)) s = false) : EC (d + 3) 150 [.ref 63, .int s, .int w] (Wd X Z) (RI (sErr 1) (yErr X 1)) := by
  refine er_enter (L := [(0, _), (1, _), (2, _)]) rfl rfl rfl ?_
  refine er_loc (pc' := 1) rfl rfl rfl ?_
  refine er_loc (pc' := 2) rfl rfl rfl ?_
  refine er_cIi (pc' := 5) (rest := []) 12 rfl rfl rfl rfl rfl rfl (l_rHas_f _ X _ hI hs) ?_
  refine er_if_eqT rfl (by decide +kernel) ?_
  refine er_loc (pc' := 19) rfl rfl rfl ?_
  refine er_ldc (pc' := 21) (-1000000001) rfl rfl rfl rfl rfl ?_
  refine er_cIz (pc' := 24) (rest := []) 12 rfl rfl rfl rfl rfl rfl (l_rError1 _ _ _) ?_
  intro Z9
  refine er_iret rfl rfl ?_
  exact RI_of rfl rfl
set_option maxRecDepth 100000 in
set_option maxHeartbeats 4000000 in
theorem l_rAs (d : Nat) (X Z : Nat → Nat → Int32) {T : Nat} (hI : RK T (X 64)) {k : Nat} (hk : k < jn (jm (X 64))) (w : Int32) : EC (d + 3) 150 [.ref 63, .int (nI k), .int w] (Wd X Z) (fun r => if sIn w (nI 0) (nI 6) = true then (if sIsOf (sKind (jm (X 64)) k) w = true then RI (jm (X 64) 2 k) X r else RI (sErr 5) (yErr X 5) r) else RI (sErr 1) (yErr X 1) r) := by
  have h8 := jn8 hI.ij
  have hk8 : k < 8 := by omega
  have hq := kind7 hI.ij k
  rcases lt7 hq with e | e | e | e | e | e | e
  · refine er_enter (L := [(0, _), (1, _), (2, _)]) rfl rfl rfl ?_
    refine er_loc (pc' := 1) rfl rfl rfl ?_
    refine er_loc (pc' := 2) rfl rfl rfl ?_
    refine er_cIi (pc' := 5) (rest := []) 12 rfl rfl rfl rfl rfl rfl (l_rHas_t _ X _ hI hk) ?_
    refine er_if_eqF (pc' := 8) rfl (by decide +kernel) rfl ?_
    refine er_loc (pc' := 9) rfl rfl rfl ?_
    refine er_k (pc' := 10) (nI 0) rfl rfl rfl ?_
    refine er_k (pc' := 12) (nI 6) rfl rfl rfl ?_
    refine er_cSi (pc' := 15) (rest := []) rfl rfl rfl (l_in _ _ _ _ _) ?_
    refine er_if_neb (pc' := 18) rfl rfl (fun h15 => ?_) (fun h15 => ?_)
    · refine er_loc (pc' := 26) rfl rfl rfl ?_
      refine er_loc (pc' := 27) rfl rfl rfl ?_
      refine er_k (pc' := 28) (nI 0) rfl rfl rfl ?_
      refine er_cIi (pc' := 31) (rest := []) 12 rfl rfl rfl rfl rfl rfl (l_of0 _ X _ hI (by omega)) ?_
      rw [e]
      refine er_loc (pc' := 32) (L' := [(3, _), (0, _), (1, _), (2, _)]) rfl rfl rfl ?_
      refine er_loc (pc' := 33) rfl rfl rfl ?_
      refine er_if_eq (pc' := 36) rfl rfl (fun h33 => ?_) (fun h33 => ?_)
      · refine er_k (pc' := 73) (nI 1) rfl rfl rfl ?_
        refine er_goto rfl ?_
        refine er_loc (pc' := 79) (L' := [(4, _), (3, _), (0, _), (1, _), (2, _)]) rfl rfl rfl ?_
        refine er_loc (pc' := 81) rfl rfl rfl ?_
        refine er_if_eqF (pc' := 84) rfl (by decide +kernel) rfl ?_
        refine er_loc (pc' := 85) rfl rfl rfl ?_
        refine er_loc (pc' := 86) rfl rfl rfl ?_
        refine er_k (pc' := 87) (nI 1) rfl rfl rfl ?_
        refine er_cIi (pc' := 90) (rest := []) 12 rfl rfl rfl rfl rfl rfl (l_of1 _ X _ (by omega)) ?_
        refine er_goto rfl ?_
        refine er_iret rfl rfl ?_
        have e3 : sIsOf 0 w = true := by unfold sIsOf; rw [decide_eq_true h33]; simp
        rw [if_pos h15, if_pos e3]
        exact RI_of rfl rfl
      · refine er_loc (pc' := 37) rfl rfl rfl ?_
        refine er_loc (pc' := 38) rfl rfl rfl ?_
        refine er_cm_eq (pc' := 41) rfl rfl (fun h38 => ?_) (fun h38 => ?_)
        · refine er_k (pc' := 73) (nI 1) rfl rfl rfl ?_
          refine er_goto rfl ?_
          refine er_loc (pc' := 79) (L' := [(4, _), (3, _), (0, _), (1, _), (2, _)]) rfl rfl rfl ?_
          refine er_loc (pc' := 81) rfl rfl rfl ?_
          refine er_if_eqF (pc' := 84) rfl (by decide +kernel) rfl ?_
          refine er_loc (pc' := 85) rfl rfl rfl ?_
          refine er_loc (pc' := 86) rfl rfl rfl ?_
          refine er_k (pc' := 87) (nI 1) rfl rfl rfl ?_
          refine er_cIi (pc' := 90) (rest := []) 12 rfl rfl rfl rfl rfl rfl (l_of1 _ X _ (by omega)) ?_
          refine er_goto rfl ?_
          refine er_iret rfl rfl ?_
          have e3 : sIsOf 0 w = true := by unfold sIsOf; rw [decide_eq_true h38.symm]; simp
          rw [if_pos h15, if_pos e3]
          exact RI_of rfl rfl
        · refine er_loc (pc' := 42) rfl rfl rfl ?_
          refine er_k (pc' := 43) (nI 1) rfl rfl rfl ?_
          refine er_cm_ne (pc' := 46) rfl rfl (fun h43 => ?_) (fun h43 => ?_)
          · refine er_loc (pc' := 52) rfl rfl rfl ?_
            refine er_k (pc' := 53) (nI 2) rfl rfl rfl ?_
            refine er_cm_ne (pc' := 56) rfl rfl (fun h53 => ?_) (fun h53 => ?_)
            · refine er_loc (pc' := 62) rfl rfl rfl ?_
              refine er_k (pc' := 63) (nI 3) rfl rfl rfl ?_
              refine er_cm_ne (pc' := 66) rfl rfl (fun h63 => ?_) (fun h63 => ?_)
              · refine er_k (pc' := 77) (nI 0) rfl rfl rfl ?_
                refine er_loc (pc' := 79) (L' := [(4, _), (3, _), (0, _), (1, _), (2, _)]) rfl rfl rfl ?_
                refine er_loc (pc' := 81) rfl rfl rfl ?_
                refine er_if_eqT rfl (by decide +kernel) ?_
                refine er_loc (pc' := 94) rfl rfl rfl ?_
                refine er_ldc (pc' := 96) (-1000000005) rfl rfl rfl rfl rfl ?_
                refine er_cIz (pc' := 99) (rest := []) 12 rfl rfl rfl rfl rfl rfl (l_rError5 _ _ _) ?_
                intro Z9
                refine er_iret rfl rfl ?_
                have e3 : sIsOf 0 w = false := by unfold sIsOf; rw [decide_eq_false (fun hh => h38 hh.symm), decide_eq_false (fun hh => h33 hh.symm), decide_eq_false h33]; rfl
                rw [if_pos h15, if_neg (by rw [e3]; decide)]
                exact RI_of rfl rfl
              · refine er_loc (pc' := 67) rfl rfl rfl ?_
                refine er_k (pc' := 69) (nI 6) rfl rfl rfl ?_
                refine er_cm_neT rfl (by decide +kernel) ?_
                refine er_k (pc' := 77) (nI 0) rfl rfl rfl ?_
                refine er_loc (pc' := 79) (L' := [(4, _), (3, _), (0, _), (1, _), (2, _)]) rfl rfl rfl ?_
                refine er_loc (pc' := 81) rfl rfl rfl ?_
                refine er_if_eqT rfl (by decide +kernel) ?_
                refine er_loc (pc' := 94) rfl rfl rfl ?_
                refine er_ldc (pc' := 96) (-1000000005) rfl rfl rfl rfl rfl ?_
                refine er_cIz (pc' := 99) (rest := []) 12 rfl rfl rfl rfl rfl rfl (l_rError5 _ _ _) ?_
                intro Z9
                refine er_iret rfl rfl ?_
                have e3 : sIsOf 0 w = false := by unfold sIsOf; rw [decide_eq_false (fun hh => h38 hh.symm), decide_eq_false (fun hh => h33 hh.symm), decide_eq_false h33]; rfl
                rw [if_pos h15, if_neg (by rw [e3]; decide)]
                exact RI_of rfl rfl
            · refine er_loc (pc' := 57) rfl rfl rfl ?_
              refine er_k (pc' := 58) (nI 5) rfl rfl rfl ?_
              refine er_cm_eqF (pc' := 61) rfl (by decide +kernel) rfl ?_
              refine er_loc (pc' := 62) rfl rfl rfl ?_
              refine er_k (pc' := 63) (nI 3) rfl rfl rfl ?_
              refine er_cm_ne (pc' := 66) rfl rfl (fun h63 => ?_) (fun h63 => ?_)
              · refine er_k (pc' := 77) (nI 0) rfl rfl rfl ?_
                refine er_loc (pc' := 79) (L' := [(4, _), (3, _), (0, _), (1, _), (2, _)]) rfl rfl rfl ?_
                refine er_loc (pc' := 81) rfl rfl rfl ?_
                refine er_if_eqT rfl (by decide +kernel) ?_
                refine er_loc (pc' := 94) rfl rfl rfl ?_
                refine er_ldc (pc' := 96) (-1000000005) rfl rfl rfl rfl rfl ?_
                refine er_cIz (pc' := 99) (rest := []) 12 rfl rfl rfl rfl rfl rfl (l_rError5 _ _ _) ?_
                intro Z9
                refine er_iret rfl rfl ?_
                have e3 : sIsOf 0 w = false := by unfold sIsOf; rw [decide_eq_false (fun hh => h38 hh.symm), decide_eq_false (fun hh => h33 hh.symm), decide_eq_false h33]; rfl
                rw [if_pos h15, if_neg (by rw [e3]; decide)]
                exact RI_of rfl rfl
              · refine er_loc (pc' := 67) rfl rfl rfl ?_
                refine er_k (pc' := 69) (nI 6) rfl rfl rfl ?_
                refine er_cm_neT rfl (by decide +kernel) ?_
                refine er_k (pc' := 77) (nI 0) rfl rfl rfl ?_
                refine er_loc (pc' := 79) (L' := [(4, _), (3, _), (0, _), (1, _), (2, _)]) rfl rfl rfl ?_
                refine er_loc (pc' := 81) rfl rfl rfl ?_
                refine er_if_eqT rfl (by decide +kernel) ?_
                refine er_loc (pc' := 94) rfl rfl rfl ?_
                refine er_ldc (pc' := 96) (-1000000005) rfl rfl rfl rfl rfl ?_
                refine er_cIz (pc' := 99) (rest := []) 12 rfl rfl rfl rfl rfl rfl (l_rError5 _ _ _) ?_
                intro Z9
                refine er_iret rfl rfl ?_
                have e3 : sIsOf 0 w = false := by unfold sIsOf; rw [decide_eq_false (fun hh => h38 hh.symm), decide_eq_false (fun hh => h33 hh.symm), decide_eq_false h33]; rfl
                rw [if_pos h15, if_neg (by rw [e3]; decide)]
                exact RI_of rfl rfl
          · refine er_loc (pc' := 47) rfl rfl rfl ?_
            refine er_k (pc' := 48) (nI 4) rfl rfl rfl ?_
            refine er_cm_eqF (pc' := 51) rfl (by decide +kernel) rfl ?_
            refine er_loc (pc' := 52) rfl rfl rfl ?_
            refine er_k (pc' := 53) (nI 2) rfl rfl rfl ?_
            refine er_cm_ne (pc' := 56) rfl rfl (fun h53 => ?_) (fun h53 => ?_)
            · refine er_loc (pc' := 62) rfl rfl rfl ?_
              refine er_k (pc' := 63) (nI 3) rfl rfl rfl ?_
              refine er_cm_ne (pc' := 66) rfl rfl (fun h63 => ?_) (fun h63 => ?_)
              · refine er_k (pc' := 77) (nI 0) rfl rfl rfl ?_
                refine er_loc (pc' := 79) (L' := [(4, _), (3, _), (0, _), (1, _), (2, _)]) rfl rfl rfl ?_
                refine er_loc (pc' := 81) rfl rfl rfl ?_
                refine er_if_eqT rfl (by decide +kernel) ?_
                refine er_loc (pc' := 94) rfl rfl rfl ?_
                refine er_ldc (pc' := 96) (-1000000005) rfl rfl rfl rfl rfl ?_
                refine er_cIz (pc' := 99) (rest := []) 12 rfl rfl rfl rfl rfl rfl (l_rError5 _ _ _) ?_
                intro Z9
                refine er_iret rfl rfl ?_
                have e3 : sIsOf 0 w = false := by unfold sIsOf; rw [decide_eq_false (fun hh => h38 hh.symm), decide_eq_false (fun hh => h33 hh.symm), decide_eq_false h33]; rfl
                rw [if_pos h15, if_neg (by rw [e3]; decide)]
                exact RI_of rfl rfl
              · refine er_loc (pc' := 67) rfl rfl rfl ?_
                refine er_k (pc' := 69) (nI 6) rfl rfl rfl ?_
                refine er_cm_neT rfl (by decide +kernel) ?_
                refine er_k (pc' := 77) (nI 0) rfl rfl rfl ?_
                refine er_loc (pc' := 79) (L' := [(4, _), (3, _), (0, _), (1, _), (2, _)]) rfl rfl rfl ?_
                refine er_loc (pc' := 81) rfl rfl rfl ?_
                refine er_if_eqT rfl (by decide +kernel) ?_
                refine er_loc (pc' := 94) rfl rfl rfl ?_
                refine er_ldc (pc' := 96) (-1000000005) rfl rfl rfl rfl rfl ?_
                refine er_cIz (pc' := 99) (rest := []) 12 rfl rfl rfl rfl rfl rfl (l_rError5 _ _ _) ?_
                intro Z9
                refine er_iret rfl rfl ?_
                have e3 : sIsOf 0 w = false := by unfold sIsOf; rw [decide_eq_false (fun hh => h38 hh.symm), decide_eq_false (fun hh => h33 hh.symm), decide_eq_false h33]; rfl
                rw [if_pos h15, if_neg (by rw [e3]; decide)]
                exact RI_of rfl rfl
            · refine er_loc (pc' := 57) rfl rfl rfl ?_
              refine er_k (pc' := 58) (nI 5) rfl rfl rfl ?_
              refine er_cm_eqF (pc' := 61) rfl (by decide +kernel) rfl ?_
              refine er_loc (pc' := 62) rfl rfl rfl ?_
              refine er_k (pc' := 63) (nI 3) rfl rfl rfl ?_
              refine er_cm_ne (pc' := 66) rfl rfl (fun h63 => ?_) (fun h63 => ?_)
              · refine er_k (pc' := 77) (nI 0) rfl rfl rfl ?_
                refine er_loc (pc' := 79) (L' := [(4, _), (3, _), (0, _), (1, _), (2, _)]) rfl rfl rfl ?_
                refine er_loc (pc' := 81) rfl rfl rfl ?_
                refine er_if_eqT rfl (by decide +kernel) ?_
                refine er_loc (pc' := 94) rfl rfl rfl ?_
                refine er_ldc (pc' := 96) (-1000000005) rfl rfl rfl rfl rfl ?_
                refine er_cIz (pc' := 99) (rest := []) 12 rfl rfl rfl rfl rfl rfl (l_rError5 _ _ _) ?_
                intro Z9
                refine er_iret rfl rfl ?_
                have e3 : sIsOf 0 w = false := by unfold sIsOf; rw [decide_eq_false (fun hh => h38 hh.symm), decide_eq_false (fun hh => h33 hh.symm), decide_eq_false h33]; rfl
                rw [if_pos h15, if_neg (by rw [e3]; decide)]
                exact RI_of rfl rfl
              · refine er_loc (pc' := 67) rfl rfl rfl ?_
                refine er_k (pc' := 69) (nI 6) rfl rfl rfl ?_
                refine er_cm_neT rfl (by decide +kernel) ?_
                refine er_k (pc' := 77) (nI 0) rfl rfl rfl ?_
                refine er_loc (pc' := 79) (L' := [(4, _), (3, _), (0, _), (1, _), (2, _)]) rfl rfl rfl ?_
                refine er_loc (pc' := 81) rfl rfl rfl ?_
                refine er_if_eqT rfl (by decide +kernel) ?_
                refine er_loc (pc' := 94) rfl rfl rfl ?_
                refine er_ldc (pc' := 96) (-1000000005) rfl rfl rfl rfl rfl ?_
                refine er_cIz (pc' := 99) (rest := []) 12 rfl rfl rfl rfl rfl rfl (l_rError5 _ _ _) ?_
                intro Z9
                refine er_iret rfl rfl ?_
                have e3 : sIsOf 0 w = false := by unfold sIsOf; rw [decide_eq_false (fun hh => h38 hh.symm), decide_eq_false (fun hh => h33 hh.symm), decide_eq_false h33]; rfl
                rw [if_pos h15, if_neg (by rw [e3]; decide)]
                exact RI_of rfl rfl
    · refine er_loc (pc' := 19) rfl rfl rfl ?_
      refine er_ldc (pc' := 21) (-1000000001) rfl rfl rfl rfl rfl ?_
      refine er_cIz (pc' := 24) (rest := []) 12 rfl rfl rfl rfl rfl rfl (l_rError1 _ _ _) ?_
      intro Z9
      refine er_iret rfl rfl ?_
      rw [if_neg (by rw [h15]; decide)]
      exact RI_of rfl rfl
  · refine er_enter (L := [(0, _), (1, _), (2, _)]) rfl rfl rfl ?_
    refine er_loc (pc' := 1) rfl rfl rfl ?_
    refine er_loc (pc' := 2) rfl rfl rfl ?_
    refine er_cIi (pc' := 5) (rest := []) 12 rfl rfl rfl rfl rfl rfl (l_rHas_t _ X _ hI hk) ?_
    refine er_if_eqF (pc' := 8) rfl (by decide +kernel) rfl ?_
    refine er_loc (pc' := 9) rfl rfl rfl ?_
    refine er_k (pc' := 10) (nI 0) rfl rfl rfl ?_
    refine er_k (pc' := 12) (nI 6) rfl rfl rfl ?_
    refine er_cSi (pc' := 15) (rest := []) rfl rfl rfl (l_in _ _ _ _ _) ?_
    refine er_if_neb (pc' := 18) rfl rfl (fun h15 => ?_) (fun h15 => ?_)
    · refine er_loc (pc' := 26) rfl rfl rfl ?_
      refine er_loc (pc' := 27) rfl rfl rfl ?_
      refine er_k (pc' := 28) (nI 0) rfl rfl rfl ?_
      refine er_cIi (pc' := 31) (rest := []) 12 rfl rfl rfl rfl rfl rfl (l_of0 _ X _ hI (by omega)) ?_
      rw [e]
      refine er_loc (pc' := 32) (L' := [(3, _), (0, _), (1, _), (2, _)]) rfl rfl rfl ?_
      refine er_loc (pc' := 33) rfl rfl rfl ?_
      refine er_if_eq (pc' := 36) rfl rfl (fun h33 => ?_) (fun h33 => ?_)
      · refine er_k (pc' := 73) (nI 1) rfl rfl rfl ?_
        refine er_goto rfl ?_
        refine er_loc (pc' := 79) (L' := [(4, _), (3, _), (0, _), (1, _), (2, _)]) rfl rfl rfl ?_
        refine er_loc (pc' := 81) rfl rfl rfl ?_
        refine er_if_eqF (pc' := 84) rfl (by decide +kernel) rfl ?_
        refine er_loc (pc' := 85) rfl rfl rfl ?_
        refine er_loc (pc' := 86) rfl rfl rfl ?_
        refine er_k (pc' := 87) (nI 1) rfl rfl rfl ?_
        refine er_cIi (pc' := 90) (rest := []) 12 rfl rfl rfl rfl rfl rfl (l_of1 _ X _ (by omega)) ?_
        refine er_goto rfl ?_
        refine er_iret rfl rfl ?_
        have e3 : sIsOf 1 w = true := by unfold sIsOf; rw [decide_eq_true h33]; simp
        rw [if_pos h15, if_pos e3]
        exact RI_of rfl rfl
      · refine er_loc (pc' := 37) rfl rfl rfl ?_
        refine er_loc (pc' := 38) rfl rfl rfl ?_
        refine er_cm_eq (pc' := 41) rfl rfl (fun h38 => ?_) (fun h38 => ?_)
        · refine er_k (pc' := 73) (nI 1) rfl rfl rfl ?_
          refine er_goto rfl ?_
          refine er_loc (pc' := 79) (L' := [(4, _), (3, _), (0, _), (1, _), (2, _)]) rfl rfl rfl ?_
          refine er_loc (pc' := 81) rfl rfl rfl ?_
          refine er_if_eqF (pc' := 84) rfl (by decide +kernel) rfl ?_
          refine er_loc (pc' := 85) rfl rfl rfl ?_
          refine er_loc (pc' := 86) rfl rfl rfl ?_
          refine er_k (pc' := 87) (nI 1) rfl rfl rfl ?_
          refine er_cIi (pc' := 90) (rest := []) 12 rfl rfl rfl rfl rfl rfl (l_of1 _ X _ (by omega)) ?_
          refine er_goto rfl ?_
          refine er_iret rfl rfl ?_
          have e3 : sIsOf 1 w = true := by unfold sIsOf; rw [decide_eq_true h38.symm]; simp
          rw [if_pos h15, if_pos e3]
          exact RI_of rfl rfl
        · refine er_loc (pc' := 42) rfl rfl rfl ?_
          refine er_k (pc' := 43) (nI 1) rfl rfl rfl ?_
          refine er_cm_ne (pc' := 46) rfl rfl (fun h43 => ?_) (fun h43 => ?_)
          · refine er_loc (pc' := 52) rfl rfl rfl ?_
            refine er_k (pc' := 53) (nI 2) rfl rfl rfl ?_
            refine er_cm_ne (pc' := 56) rfl rfl (fun h53 => ?_) (fun h53 => ?_)
            · refine er_loc (pc' := 62) rfl rfl rfl ?_
              refine er_k (pc' := 63) (nI 3) rfl rfl rfl ?_
              refine er_cm_ne (pc' := 66) rfl rfl (fun h63 => ?_) (fun h63 => ?_)
              · refine er_k (pc' := 77) (nI 0) rfl rfl rfl ?_
                refine er_loc (pc' := 79) (L' := [(4, _), (3, _), (0, _), (1, _), (2, _)]) rfl rfl rfl ?_
                refine er_loc (pc' := 81) rfl rfl rfl ?_
                refine er_if_eqT rfl (by decide +kernel) ?_
                refine er_loc (pc' := 94) rfl rfl rfl ?_
                refine er_ldc (pc' := 96) (-1000000005) rfl rfl rfl rfl rfl ?_
                refine er_cIz (pc' := 99) (rest := []) 12 rfl rfl rfl rfl rfl rfl (l_rError5 _ _ _) ?_
                intro Z9
                refine er_iret rfl rfl ?_
                have e3 : sIsOf 1 w = false := by unfold sIsOf; rw [decide_eq_false (fun hh => h38 hh.symm), decide_eq_false (fun hh => h33 hh.symm), decide_eq_false h33]; rfl
                rw [if_pos h15, if_neg (by rw [e3]; decide)]
                exact RI_of rfl rfl
              · refine er_loc (pc' := 67) rfl rfl rfl ?_
                refine er_k (pc' := 69) (nI 6) rfl rfl rfl ?_
                refine er_cm_neT rfl (by decide +kernel) ?_
                refine er_k (pc' := 77) (nI 0) rfl rfl rfl ?_
                refine er_loc (pc' := 79) (L' := [(4, _), (3, _), (0, _), (1, _), (2, _)]) rfl rfl rfl ?_
                refine er_loc (pc' := 81) rfl rfl rfl ?_
                refine er_if_eqT rfl (by decide +kernel) ?_
                refine er_loc (pc' := 94) rfl rfl rfl ?_
                refine er_ldc (pc' := 96) (-1000000005) rfl rfl rfl rfl rfl ?_
                refine er_cIz (pc' := 99) (rest := []) 12 rfl rfl rfl rfl rfl rfl (l_rError5 _ _ _) ?_
                intro Z9
                refine er_iret rfl rfl ?_
                have e3 : sIsOf 1 w = false := by unfold sIsOf; rw [decide_eq_false (fun hh => h38 hh.symm), decide_eq_false (fun hh => h33 hh.symm), decide_eq_false h33]; rfl
                rw [if_pos h15, if_neg (by rw [e3]; decide)]
                exact RI_of rfl rfl
            · refine er_loc (pc' := 57) rfl rfl rfl ?_
              refine er_k (pc' := 58) (nI 5) rfl rfl rfl ?_
              refine er_cm_eqF (pc' := 61) rfl (by decide +kernel) rfl ?_
              refine er_loc (pc' := 62) rfl rfl rfl ?_
              refine er_k (pc' := 63) (nI 3) rfl rfl rfl ?_
              refine er_cm_ne (pc' := 66) rfl rfl (fun h63 => ?_) (fun h63 => ?_)
              · refine er_k (pc' := 77) (nI 0) rfl rfl rfl ?_
                refine er_loc (pc' := 79) (L' := [(4, _), (3, _), (0, _), (1, _), (2, _)]) rfl rfl rfl ?_
                refine er_loc (pc' := 81) rfl rfl rfl ?_
                refine er_if_eqT rfl (by decide +kernel) ?_
                refine er_loc (pc' := 94) rfl rfl rfl ?_
                refine er_ldc (pc' := 96) (-1000000005) rfl rfl rfl rfl rfl ?_
                refine er_cIz (pc' := 99) (rest := []) 12 rfl rfl rfl rfl rfl rfl (l_rError5 _ _ _) ?_
                intro Z9
                refine er_iret rfl rfl ?_
                have e3 : sIsOf 1 w = false := by unfold sIsOf; rw [decide_eq_false (fun hh => h38 hh.symm), decide_eq_false (fun hh => h33 hh.symm), decide_eq_false h33]; rfl
                rw [if_pos h15, if_neg (by rw [e3]; decide)]
                exact RI_of rfl rfl
              · refine er_loc (pc' := 67) rfl rfl rfl ?_
                refine er_k (pc' := 69) (nI 6) rfl rfl rfl ?_
                refine er_cm_neT rfl (by decide +kernel) ?_
                refine er_k (pc' := 77) (nI 0) rfl rfl rfl ?_
                refine er_loc (pc' := 79) (L' := [(4, _), (3, _), (0, _), (1, _), (2, _)]) rfl rfl rfl ?_
                refine er_loc (pc' := 81) rfl rfl rfl ?_
                refine er_if_eqT rfl (by decide +kernel) ?_
                refine er_loc (pc' := 94) rfl rfl rfl ?_
                refine er_ldc (pc' := 96) (-1000000005) rfl rfl rfl rfl rfl ?_
                refine er_cIz (pc' := 99) (rest := []) 12 rfl rfl rfl rfl rfl rfl (l_rError5 _ _ _) ?_
                intro Z9
                refine er_iret rfl rfl ?_
                have e3 : sIsOf 1 w = false := by unfold sIsOf; rw [decide_eq_false (fun hh => h38 hh.symm), decide_eq_false (fun hh => h33 hh.symm), decide_eq_false h33]; rfl
                rw [if_pos h15, if_neg (by rw [e3]; decide)]
                exact RI_of rfl rfl
          · refine er_loc (pc' := 47) rfl rfl rfl ?_
            refine er_k (pc' := 48) (nI 4) rfl rfl rfl ?_
            refine er_cm_eqF (pc' := 51) rfl (by decide +kernel) rfl ?_
            refine er_loc (pc' := 52) rfl rfl rfl ?_
            refine er_k (pc' := 53) (nI 2) rfl rfl rfl ?_
            refine er_cm_ne (pc' := 56) rfl rfl (fun h53 => ?_) (fun h53 => ?_)
            · refine er_loc (pc' := 62) rfl rfl rfl ?_
              refine er_k (pc' := 63) (nI 3) rfl rfl rfl ?_
              refine er_cm_ne (pc' := 66) rfl rfl (fun h63 => ?_) (fun h63 => ?_)
              · refine er_k (pc' := 77) (nI 0) rfl rfl rfl ?_
                refine er_loc (pc' := 79) (L' := [(4, _), (3, _), (0, _), (1, _), (2, _)]) rfl rfl rfl ?_
                refine er_loc (pc' := 81) rfl rfl rfl ?_
                refine er_if_eqT rfl (by decide +kernel) ?_
                refine er_loc (pc' := 94) rfl rfl rfl ?_
                refine er_ldc (pc' := 96) (-1000000005) rfl rfl rfl rfl rfl ?_
                refine er_cIz (pc' := 99) (rest := []) 12 rfl rfl rfl rfl rfl rfl (l_rError5 _ _ _) ?_
                intro Z9
                refine er_iret rfl rfl ?_
                have e3 : sIsOf 1 w = false := by unfold sIsOf; rw [decide_eq_false (fun hh => h38 hh.symm), decide_eq_false (fun hh => h33 hh.symm), decide_eq_false h33]; rfl
                rw [if_pos h15, if_neg (by rw [e3]; decide)]
                exact RI_of rfl rfl
              · refine er_loc (pc' := 67) rfl rfl rfl ?_
                refine er_k (pc' := 69) (nI 6) rfl rfl rfl ?_
                refine er_cm_neT rfl (by decide +kernel) ?_
                refine er_k (pc' := 77) (nI 0) rfl rfl rfl ?_
                refine er_loc (pc' := 79) (L' := [(4, _), (3, _), (0, _), (1, _), (2, _)]) rfl rfl rfl ?_
                refine er_loc (pc' := 81) rfl rfl rfl ?_
                refine er_if_eqT rfl (by decide +kernel) ?_
                refine er_loc (pc' := 94) rfl rfl rfl ?_
                refine er_ldc (pc' := 96) (-1000000005) rfl rfl rfl rfl rfl ?_
                refine er_cIz (pc' := 99) (rest := []) 12 rfl rfl rfl rfl rfl rfl (l_rError5 _ _ _) ?_
                intro Z9
                refine er_iret rfl rfl ?_
                have e3 : sIsOf 1 w = false := by unfold sIsOf; rw [decide_eq_false (fun hh => h38 hh.symm), decide_eq_false (fun hh => h33 hh.symm), decide_eq_false h33]; rfl
                rw [if_pos h15, if_neg (by rw [e3]; decide)]
                exact RI_of rfl rfl
            · refine er_loc (pc' := 57) rfl rfl rfl ?_
              refine er_k (pc' := 58) (nI 5) rfl rfl rfl ?_
              refine er_cm_eqF (pc' := 61) rfl (by decide +kernel) rfl ?_
              refine er_loc (pc' := 62) rfl rfl rfl ?_
              refine er_k (pc' := 63) (nI 3) rfl rfl rfl ?_
              refine er_cm_ne (pc' := 66) rfl rfl (fun h63 => ?_) (fun h63 => ?_)
              · refine er_k (pc' := 77) (nI 0) rfl rfl rfl ?_
                refine er_loc (pc' := 79) (L' := [(4, _), (3, _), (0, _), (1, _), (2, _)]) rfl rfl rfl ?_
                refine er_loc (pc' := 81) rfl rfl rfl ?_
                refine er_if_eqT rfl (by decide +kernel) ?_
                refine er_loc (pc' := 94) rfl rfl rfl ?_
                refine er_ldc (pc' := 96) (-1000000005) rfl rfl rfl rfl rfl ?_
                refine er_cIz (pc' := 99) (rest := []) 12 rfl rfl rfl rfl rfl rfl (l_rError5 _ _ _) ?_
                intro Z9
                refine er_iret rfl rfl ?_
                have e3 : sIsOf 1 w = false := by unfold sIsOf; rw [decide_eq_false (fun hh => h38 hh.symm), decide_eq_false (fun hh => h33 hh.symm), decide_eq_false h33]; rfl
                rw [if_pos h15, if_neg (by rw [e3]; decide)]
                exact RI_of rfl rfl
              · refine er_loc (pc' := 67) rfl rfl rfl ?_
                refine er_k (pc' := 69) (nI 6) rfl rfl rfl ?_
                refine er_cm_neT rfl (by decide +kernel) ?_
                refine er_k (pc' := 77) (nI 0) rfl rfl rfl ?_
                refine er_loc (pc' := 79) (L' := [(4, _), (3, _), (0, _), (1, _), (2, _)]) rfl rfl rfl ?_
                refine er_loc (pc' := 81) rfl rfl rfl ?_
                refine er_if_eqT rfl (by decide +kernel) ?_
                refine er_loc (pc' := 94) rfl rfl rfl ?_
                refine er_ldc (pc' := 96) (-1000000005) rfl rfl rfl rfl rfl ?_
                refine er_cIz (pc' := 99) (rest := []) 12 rfl rfl rfl rfl rfl rfl (l_rError5 _ _ _) ?_
                intro Z9
                refine er_iret rfl rfl ?_
                have e3 : sIsOf 1 w = false := by unfold sIsOf; rw [decide_eq_false (fun hh => h38 hh.symm), decide_eq_false (fun hh => h33 hh.symm), decide_eq_false h33]; rfl
                rw [if_pos h15, if_neg (by rw [e3]; decide)]
                exact RI_of rfl rfl
    · refine er_loc (pc' := 19) rfl rfl rfl ?_
      refine er_ldc (pc' := 21) (-1000000001) rfl rfl rfl rfl rfl ?_
      refine er_cIz (pc' := 24) (rest := []) 12 rfl rfl rfl rfl rfl rfl (l_rError1 _ _ _) ?_
      intro Z9
      refine er_iret rfl rfl ?_
      rw [if_neg (by rw [h15]; decide)]
      exact RI_of rfl rfl
  · refine er_enter (L := [(0, _), (1, _), (2, _)]) rfl rfl rfl ?_
    refine er_loc (pc' := 1) rfl rfl rfl ?_
    refine er_loc (pc' := 2) rfl rfl rfl ?_
    refine er_cIi (pc' := 5) (rest := []) 12 rfl rfl rfl rfl rfl rfl (l_rHas_t _ X _ hI hk) ?_
    refine er_if_eqF (pc' := 8) rfl (by decide +kernel) rfl ?_
    refine er_loc (pc' := 9) rfl rfl rfl ?_
    refine er_k (pc' := 10) (nI 0) rfl rfl rfl ?_
    refine er_k (pc' := 12) (nI 6) rfl rfl rfl ?_
    refine er_cSi (pc' := 15) (rest := []) rfl rfl rfl (l_in _ _ _ _ _) ?_
    refine er_if_neb (pc' := 18) rfl rfl (fun h15 => ?_) (fun h15 => ?_)
    · refine er_loc (pc' := 26) rfl rfl rfl ?_
      refine er_loc (pc' := 27) rfl rfl rfl ?_
      refine er_k (pc' := 28) (nI 0) rfl rfl rfl ?_
      refine er_cIi (pc' := 31) (rest := []) 12 rfl rfl rfl rfl rfl rfl (l_of0 _ X _ hI (by omega)) ?_
      rw [e]
      refine er_loc (pc' := 32) (L' := [(3, _), (0, _), (1, _), (2, _)]) rfl rfl rfl ?_
      refine er_loc (pc' := 33) rfl rfl rfl ?_
      refine er_if_eq (pc' := 36) rfl rfl (fun h33 => ?_) (fun h33 => ?_)
      · refine er_k (pc' := 73) (nI 1) rfl rfl rfl ?_
        refine er_goto rfl ?_
        refine er_loc (pc' := 79) (L' := [(4, _), (3, _), (0, _), (1, _), (2, _)]) rfl rfl rfl ?_
        refine er_loc (pc' := 81) rfl rfl rfl ?_
        refine er_if_eqF (pc' := 84) rfl (by decide +kernel) rfl ?_
        refine er_loc (pc' := 85) rfl rfl rfl ?_
        refine er_loc (pc' := 86) rfl rfl rfl ?_
        refine er_k (pc' := 87) (nI 1) rfl rfl rfl ?_
        refine er_cIi (pc' := 90) (rest := []) 12 rfl rfl rfl rfl rfl rfl (l_of1 _ X _ (by omega)) ?_
        refine er_goto rfl ?_
        refine er_iret rfl rfl ?_
        have e3 : sIsOf 2 w = true := by unfold sIsOf; rw [decide_eq_true h33]; simp
        rw [if_pos h15, if_pos e3]
        exact RI_of rfl rfl
      · refine er_loc (pc' := 37) rfl rfl rfl ?_
        refine er_loc (pc' := 38) rfl rfl rfl ?_
        refine er_cm_eq (pc' := 41) rfl rfl (fun h38 => ?_) (fun h38 => ?_)
        · refine er_k (pc' := 73) (nI 1) rfl rfl rfl ?_
          refine er_goto rfl ?_
          refine er_loc (pc' := 79) (L' := [(4, _), (3, _), (0, _), (1, _), (2, _)]) rfl rfl rfl ?_
          refine er_loc (pc' := 81) rfl rfl rfl ?_
          refine er_if_eqF (pc' := 84) rfl (by decide +kernel) rfl ?_
          refine er_loc (pc' := 85) rfl rfl rfl ?_
          refine er_loc (pc' := 86) rfl rfl rfl ?_
          refine er_k (pc' := 87) (nI 1) rfl rfl rfl ?_
          refine er_cIi (pc' := 90) (rest := []) 12 rfl rfl rfl rfl rfl rfl (l_of1 _ X _ (by omega)) ?_
          refine er_goto rfl ?_
          refine er_iret rfl rfl ?_
          have e3 : sIsOf 2 w = true := by unfold sIsOf; rw [decide_eq_true h38.symm]; simp
          rw [if_pos h15, if_pos e3]
          exact RI_of rfl rfl
        · refine er_loc (pc' := 42) rfl rfl rfl ?_
          refine er_k (pc' := 43) (nI 1) rfl rfl rfl ?_
          refine er_cm_ne (pc' := 46) rfl rfl (fun h43 => ?_) (fun h43 => ?_)
          · refine er_loc (pc' := 52) rfl rfl rfl ?_
            refine er_k (pc' := 53) (nI 2) rfl rfl rfl ?_
            refine er_cm_ne (pc' := 56) rfl rfl (fun h53 => ?_) (fun h53 => ?_)
            · refine er_loc (pc' := 62) rfl rfl rfl ?_
              refine er_k (pc' := 63) (nI 3) rfl rfl rfl ?_
              refine er_cm_ne (pc' := 66) rfl rfl (fun h63 => ?_) (fun h63 => ?_)
              · refine er_k (pc' := 77) (nI 0) rfl rfl rfl ?_
                refine er_loc (pc' := 79) (L' := [(4, _), (3, _), (0, _), (1, _), (2, _)]) rfl rfl rfl ?_
                refine er_loc (pc' := 81) rfl rfl rfl ?_
                refine er_if_eqT rfl (by decide +kernel) ?_
                refine er_loc (pc' := 94) rfl rfl rfl ?_
                refine er_ldc (pc' := 96) (-1000000005) rfl rfl rfl rfl rfl ?_
                refine er_cIz (pc' := 99) (rest := []) 12 rfl rfl rfl rfl rfl rfl (l_rError5 _ _ _) ?_
                intro Z9
                refine er_iret rfl rfl ?_
                have e3 : sIsOf 2 w = false := by unfold sIsOf; rw [decide_eq_false (fun hh => h38 hh.symm), decide_eq_false (fun hh => h33 hh.symm), decide_eq_false h33]; rfl
                rw [if_pos h15, if_neg (by rw [e3]; decide)]
                exact RI_of rfl rfl
              · refine er_loc (pc' := 67) rfl rfl rfl ?_
                refine er_k (pc' := 69) (nI 6) rfl rfl rfl ?_
                refine er_cm_neT rfl (by decide +kernel) ?_
                refine er_k (pc' := 77) (nI 0) rfl rfl rfl ?_
                refine er_loc (pc' := 79) (L' := [(4, _), (3, _), (0, _), (1, _), (2, _)]) rfl rfl rfl ?_
                refine er_loc (pc' := 81) rfl rfl rfl ?_
                refine er_if_eqT rfl (by decide +kernel) ?_
                refine er_loc (pc' := 94) rfl rfl rfl ?_
                refine er_ldc (pc' := 96) (-1000000005) rfl rfl rfl rfl rfl ?_
                refine er_cIz (pc' := 99) (rest := []) 12 rfl rfl rfl rfl rfl rfl (l_rError5 _ _ _) ?_
                intro Z9
                refine er_iret rfl rfl ?_
                have e3 : sIsOf 2 w = false := by unfold sIsOf; rw [decide_eq_false (fun hh => h38 hh.symm), decide_eq_false (fun hh => h33 hh.symm), decide_eq_false h33]; rfl
                rw [if_pos h15, if_neg (by rw [e3]; decide)]
                exact RI_of rfl rfl
            · refine er_loc (pc' := 57) rfl rfl rfl ?_
              refine er_k (pc' := 58) (nI 5) rfl rfl rfl ?_
              refine er_cm_eqF (pc' := 61) rfl (by decide +kernel) rfl ?_
              refine er_loc (pc' := 62) rfl rfl rfl ?_
              refine er_k (pc' := 63) (nI 3) rfl rfl rfl ?_
              refine er_cm_ne (pc' := 66) rfl rfl (fun h63 => ?_) (fun h63 => ?_)
              · refine er_k (pc' := 77) (nI 0) rfl rfl rfl ?_
                refine er_loc (pc' := 79) (L' := [(4, _), (3, _), (0, _), (1, _), (2, _)]) rfl rfl rfl ?_
                refine er_loc (pc' := 81) rfl rfl rfl ?_
                refine er_if_eqT rfl (by decide +kernel) ?_
                refine er_loc (pc' := 94) rfl rfl rfl ?_
                refine er_ldc (pc' := 96) (-1000000005) rfl rfl rfl rfl rfl ?_
                refine er_cIz (pc' := 99) (rest := []) 12 rfl rfl rfl rfl rfl rfl (l_rError5 _ _ _) ?_
                intro Z9
                refine er_iret rfl rfl ?_
                have e3 : sIsOf 2 w = false := by unfold sIsOf; rw [decide_eq_false (fun hh => h38 hh.symm), decide_eq_false (fun hh => h33 hh.symm), decide_eq_false h33]; rfl
                rw [if_pos h15, if_neg (by rw [e3]; decide)]
                exact RI_of rfl rfl
              · refine er_loc (pc' := 67) rfl rfl rfl ?_
                refine er_k (pc' := 69) (nI 6) rfl rfl rfl ?_
                refine er_cm_neT rfl (by decide +kernel) ?_
                refine er_k (pc' := 77) (nI 0) rfl rfl rfl ?_
                refine er_loc (pc' := 79) (L' := [(4, _), (3, _), (0, _), (1, _), (2, _)]) rfl rfl rfl ?_
                refine er_loc (pc' := 81) rfl rfl rfl ?_
                refine er_if_eqT rfl (by decide +kernel) ?_
                refine er_loc (pc' := 94) rfl rfl rfl ?_
                refine er_ldc (pc' := 96) (-1000000005) rfl rfl rfl rfl rfl ?_
                refine er_cIz (pc' := 99) (rest := []) 12 rfl rfl rfl rfl rfl rfl (l_rError5 _ _ _) ?_
                intro Z9
                refine er_iret rfl rfl ?_
                have e3 : sIsOf 2 w = false := by unfold sIsOf; rw [decide_eq_false (fun hh => h38 hh.symm), decide_eq_false (fun hh => h33 hh.symm), decide_eq_false h33]; rfl
                rw [if_pos h15, if_neg (by rw [e3]; decide)]
                exact RI_of rfl rfl
          · refine er_loc (pc' := 47) rfl rfl rfl ?_
            refine er_k (pc' := 48) (nI 4) rfl rfl rfl ?_
            refine er_cm_eqF (pc' := 51) rfl (by decide +kernel) rfl ?_
            refine er_loc (pc' := 52) rfl rfl rfl ?_
            refine er_k (pc' := 53) (nI 2) rfl rfl rfl ?_
            refine er_cm_ne (pc' := 56) rfl rfl (fun h53 => ?_) (fun h53 => ?_)
            · refine er_loc (pc' := 62) rfl rfl rfl ?_
              refine er_k (pc' := 63) (nI 3) rfl rfl rfl ?_
              refine er_cm_ne (pc' := 66) rfl rfl (fun h63 => ?_) (fun h63 => ?_)
              · refine er_k (pc' := 77) (nI 0) rfl rfl rfl ?_
                refine er_loc (pc' := 79) (L' := [(4, _), (3, _), (0, _), (1, _), (2, _)]) rfl rfl rfl ?_
                refine er_loc (pc' := 81) rfl rfl rfl ?_
                refine er_if_eqT rfl (by decide +kernel) ?_
                refine er_loc (pc' := 94) rfl rfl rfl ?_
                refine er_ldc (pc' := 96) (-1000000005) rfl rfl rfl rfl rfl ?_
                refine er_cIz (pc' := 99) (rest := []) 12 rfl rfl rfl rfl rfl rfl (l_rError5 _ _ _) ?_
                intro Z9
                refine er_iret rfl rfl ?_
                have e3 : sIsOf 2 w = false := by unfold sIsOf; rw [decide_eq_false (fun hh => h38 hh.symm), decide_eq_false (fun hh => h33 hh.symm), decide_eq_false h33]; rfl
                rw [if_pos h15, if_neg (by rw [e3]; decide)]
                exact RI_of rfl rfl
              · refine er_loc (pc' := 67) rfl rfl rfl ?_
                refine er_k (pc' := 69) (nI 6) rfl rfl rfl ?_
                refine er_cm_neT rfl (by decide +kernel) ?_
                refine er_k (pc' := 77) (nI 0) rfl rfl rfl ?_
                refine er_loc (pc' := 79) (L' := [(4, _), (3, _), (0, _), (1, _), (2, _)]) rfl rfl rfl ?_
                refine er_loc (pc' := 81) rfl rfl rfl ?_
                refine er_if_eqT rfl (by decide +kernel) ?_
                refine er_loc (pc' := 94) rfl rfl rfl ?_
                refine er_ldc (pc' := 96) (-1000000005) rfl rfl rfl rfl rfl ?_
                refine er_cIz (pc' := 99) (rest := []) 12 rfl rfl rfl rfl rfl rfl (l_rError5 _ _ _) ?_
                intro Z9
                refine er_iret rfl rfl ?_
                have e3 : sIsOf 2 w = false := by unfold sIsOf; rw [decide_eq_false (fun hh => h38 hh.symm), decide_eq_false (fun hh => h33 hh.symm), decide_eq_false h33]; rfl
                rw [if_pos h15, if_neg (by rw [e3]; decide)]
                exact RI_of rfl rfl
            · refine er_loc (pc' := 57) rfl rfl rfl ?_
              refine er_k (pc' := 58) (nI 5) rfl rfl rfl ?_
              refine er_cm_eqF (pc' := 61) rfl (by decide +kernel) rfl ?_
              refine er_loc (pc' := 62) rfl rfl rfl ?_
              refine er_k (pc' := 63) (nI 3) rfl rfl rfl ?_
              refine er_cm_ne (pc' := 66) rfl rfl (fun h63 => ?_) (fun h63 => ?_)
              · refine er_k (pc' := 77) (nI 0) rfl rfl rfl ?_
                refine er_loc (pc' := 79) (L' := [(4, _), (3, _), (0, _), (1, _), (2, _)]) rfl rfl rfl ?_
                refine er_loc (pc' := 81) rfl rfl rfl ?_
                refine er_if_eqT rfl (by decide +kernel) ?_
                refine er_loc (pc' := 94) rfl rfl rfl ?_
                refine er_ldc (pc' := 96) (-1000000005) rfl rfl rfl rfl rfl ?_
                refine er_cIz (pc' := 99) (rest := []) 12 rfl rfl rfl rfl rfl rfl (l_rError5 _ _ _) ?_
                intro Z9
                refine er_iret rfl rfl ?_
                have e3 : sIsOf 2 w = false := by unfold sIsOf; rw [decide_eq_false (fun hh => h38 hh.symm), decide_eq_false (fun hh => h33 hh.symm), decide_eq_false h33]; rfl
                rw [if_pos h15, if_neg (by rw [e3]; decide)]
                exact RI_of rfl rfl
              · refine er_loc (pc' := 67) rfl rfl rfl ?_
                refine er_k (pc' := 69) (nI 6) rfl rfl rfl ?_
                refine er_cm_neT rfl (by decide +kernel) ?_
                refine er_k (pc' := 77) (nI 0) rfl rfl rfl ?_
                refine er_loc (pc' := 79) (L' := [(4, _), (3, _), (0, _), (1, _), (2, _)]) rfl rfl rfl ?_
                refine er_loc (pc' := 81) rfl rfl rfl ?_
                refine er_if_eqT rfl (by decide +kernel) ?_
                refine er_loc (pc' := 94) rfl rfl rfl ?_
                refine er_ldc (pc' := 96) (-1000000005) rfl rfl rfl rfl rfl ?_
                refine er_cIz (pc' := 99) (rest := []) 12 rfl rfl rfl rfl rfl rfl (l_rError5 _ _ _) ?_
                intro Z9
                refine er_iret rfl rfl ?_
                have e3 : sIsOf 2 w = false := by unfold sIsOf; rw [decide_eq_false (fun hh => h38 hh.symm), decide_eq_false (fun hh => h33 hh.symm), decide_eq_false h33]; rfl
                rw [if_pos h15, if_neg (by rw [e3]; decide)]
                exact RI_of rfl rfl
    · refine er_loc (pc' := 19) rfl rfl rfl ?_
      refine er_ldc (pc' := 21) (-1000000001) rfl rfl rfl rfl rfl ?_
      refine er_cIz (pc' := 24) (rest := []) 12 rfl rfl rfl rfl rfl rfl (l_rError1 _ _ _) ?_
      intro Z9
      refine er_iret rfl rfl ?_
      rw [if_neg (by rw [h15]; decide)]
      exact RI_of rfl rfl
  · refine er_enter (L := [(0, _), (1, _), (2, _)]) rfl rfl rfl ?_
    refine er_loc (pc' := 1) rfl rfl rfl ?_
    refine er_loc (pc' := 2) rfl rfl rfl ?_
    refine er_cIi (pc' := 5) (rest := []) 12 rfl rfl rfl rfl rfl rfl (l_rHas_t _ X _ hI hk) ?_
    refine er_if_eqF (pc' := 8) rfl (by decide +kernel) rfl ?_
    refine er_loc (pc' := 9) rfl rfl rfl ?_
    refine er_k (pc' := 10) (nI 0) rfl rfl rfl ?_
    refine er_k (pc' := 12) (nI 6) rfl rfl rfl ?_
    refine er_cSi (pc' := 15) (rest := []) rfl rfl rfl (l_in _ _ _ _ _) ?_
    refine er_if_neb (pc' := 18) rfl rfl (fun h15 => ?_) (fun h15 => ?_)
    · refine er_loc (pc' := 26) rfl rfl rfl ?_
      refine er_loc (pc' := 27) rfl rfl rfl ?_
      refine er_k (pc' := 28) (nI 0) rfl rfl rfl ?_
      refine er_cIi (pc' := 31) (rest := []) 12 rfl rfl rfl rfl rfl rfl (l_of0 _ X _ hI (by omega)) ?_
      rw [e]
      refine er_loc (pc' := 32) (L' := [(3, _), (0, _), (1, _), (2, _)]) rfl rfl rfl ?_
      refine er_loc (pc' := 33) rfl rfl rfl ?_
      refine er_if_eq (pc' := 36) rfl rfl (fun h33 => ?_) (fun h33 => ?_)
      · refine er_k (pc' := 73) (nI 1) rfl rfl rfl ?_
        refine er_goto rfl ?_
        refine er_loc (pc' := 79) (L' := [(4, _), (3, _), (0, _), (1, _), (2, _)]) rfl rfl rfl ?_
        refine er_loc (pc' := 81) rfl rfl rfl ?_
        refine er_if_eqF (pc' := 84) rfl (by decide +kernel) rfl ?_
        refine er_loc (pc' := 85) rfl rfl rfl ?_
        refine er_loc (pc' := 86) rfl rfl rfl ?_
        refine er_k (pc' := 87) (nI 1) rfl rfl rfl ?_
        refine er_cIi (pc' := 90) (rest := []) 12 rfl rfl rfl rfl rfl rfl (l_of1 _ X _ (by omega)) ?_
        refine er_goto rfl ?_
        refine er_iret rfl rfl ?_
        have e3 : sIsOf 3 w = true := by unfold sIsOf; rw [decide_eq_true h33]; simp
        rw [if_pos h15, if_pos e3]
        exact RI_of rfl rfl
      · refine er_loc (pc' := 37) rfl rfl rfl ?_
        refine er_loc (pc' := 38) rfl rfl rfl ?_
        refine er_cm_eq (pc' := 41) rfl rfl (fun h38 => ?_) (fun h38 => ?_)
        · refine er_k (pc' := 73) (nI 1) rfl rfl rfl ?_
          refine er_goto rfl ?_
          refine er_loc (pc' := 79) (L' := [(4, _), (3, _), (0, _), (1, _), (2, _)]) rfl rfl rfl ?_
          refine er_loc (pc' := 81) rfl rfl rfl ?_
          refine er_if_eqF (pc' := 84) rfl (by decide +kernel) rfl ?_
          refine er_loc (pc' := 85) rfl rfl rfl ?_
          refine er_loc (pc' := 86) rfl rfl rfl ?_
          refine er_k (pc' := 87) (nI 1) rfl rfl rfl ?_
          refine er_cIi (pc' := 90) (rest := []) 12 rfl rfl rfl rfl rfl rfl (l_of1 _ X _ (by omega)) ?_
          refine er_goto rfl ?_
          refine er_iret rfl rfl ?_
          have e3 : sIsOf 3 w = true := by unfold sIsOf; rw [decide_eq_true h38.symm]; simp
          rw [if_pos h15, if_pos e3]
          exact RI_of rfl rfl
        · refine er_loc (pc' := 42) rfl rfl rfl ?_
          refine er_k (pc' := 43) (nI 1) rfl rfl rfl ?_
          refine er_cm_ne (pc' := 46) rfl rfl (fun h43 => ?_) (fun h43 => ?_)
          · refine er_loc (pc' := 52) rfl rfl rfl ?_
            refine er_k (pc' := 53) (nI 2) rfl rfl rfl ?_
            refine er_cm_ne (pc' := 56) rfl rfl (fun h53 => ?_) (fun h53 => ?_)
            · refine er_loc (pc' := 62) rfl rfl rfl ?_
              refine er_k (pc' := 63) (nI 3) rfl rfl rfl ?_
              refine er_cm_ne (pc' := 66) rfl rfl (fun h63 => ?_) (fun h63 => ?_)
              · refine er_k (pc' := 77) (nI 0) rfl rfl rfl ?_
                refine er_loc (pc' := 79) (L' := [(4, _), (3, _), (0, _), (1, _), (2, _)]) rfl rfl rfl ?_
                refine er_loc (pc' := 81) rfl rfl rfl ?_
                refine er_if_eqT rfl (by decide +kernel) ?_
                refine er_loc (pc' := 94) rfl rfl rfl ?_
                refine er_ldc (pc' := 96) (-1000000005) rfl rfl rfl rfl rfl ?_
                refine er_cIz (pc' := 99) (rest := []) 12 rfl rfl rfl rfl rfl rfl (l_rError5 _ _ _) ?_
                intro Z9
                refine er_iret rfl rfl ?_
                have e3 : sIsOf 3 w = false := by unfold sIsOf; rw [decide_eq_false (fun hh => h38 hh.symm), decide_eq_false (fun hh => h33 hh.symm), decide_eq_false h33]; rfl
                rw [if_pos h15, if_neg (by rw [e3]; decide)]
                exact RI_of rfl rfl
              · refine er_loc (pc' := 67) rfl rfl rfl ?_
                refine er_k (pc' := 69) (nI 6) rfl rfl rfl ?_
                refine er_cm_neT rfl (by decide +kernel) ?_
                refine er_k (pc' := 77) (nI 0) rfl rfl rfl ?_
                refine er_loc (pc' := 79) (L' := [(4, _), (3, _), (0, _), (1, _), (2, _)]) rfl rfl rfl ?_
                refine er_loc (pc' := 81) rfl rfl rfl ?_
                refine er_if_eqT rfl (by decide +kernel) ?_
                refine er_loc (pc' := 94) rfl rfl rfl ?_
                refine er_ldc (pc' := 96) (-1000000005) rfl rfl rfl rfl rfl ?_
                refine er_cIz (pc' := 99) (rest := []) 12 rfl rfl rfl rfl rfl rfl (l_rError5 _ _ _) ?_
                intro Z9
                refine er_iret rfl rfl ?_
                have e3 : sIsOf 3 w = false := by unfold sIsOf; rw [decide_eq_false (fun hh => h38 hh.symm), decide_eq_false (fun hh => h33 hh.symm), decide_eq_false h33]; rfl
                rw [if_pos h15, if_neg (by rw [e3]; decide)]
                exact RI_of rfl rfl
            · refine er_loc (pc' := 57) rfl rfl rfl ?_
              refine er_k (pc' := 58) (nI 5) rfl rfl rfl ?_
              refine er_cm_eqF (pc' := 61) rfl (by decide +kernel) rfl ?_
              refine er_loc (pc' := 62) rfl rfl rfl ?_
              refine er_k (pc' := 63) (nI 3) rfl rfl rfl ?_
              refine er_cm_ne (pc' := 66) rfl rfl (fun h63 => ?_) (fun h63 => ?_)
              · refine er_k (pc' := 77) (nI 0) rfl rfl rfl ?_
                refine er_loc (pc' := 79) (L' := [(4, _), (3, _), (0, _), (1, _), (2, _)]) rfl rfl rfl ?_
                refine er_loc (pc' := 81) rfl rfl rfl ?_
                refine er_if_eqT rfl (by decide +kernel) ?_
                refine er_loc (pc' := 94) rfl rfl rfl ?_
                refine er_ldc (pc' := 96) (-1000000005) rfl rfl rfl rfl rfl ?_
                refine er_cIz (pc' := 99) (rest := []) 12 rfl rfl rfl rfl rfl rfl (l_rError5 _ _ _) ?_
                intro Z9
                refine er_iret rfl rfl ?_
                have e3 : sIsOf 3 w = false := by unfold sIsOf; rw [decide_eq_false (fun hh => h38 hh.symm), decide_eq_false (fun hh => h33 hh.symm), decide_eq_false h33]; rfl
                rw [if_pos h15, if_neg (by rw [e3]; decide)]
                exact RI_of rfl rfl
              · refine er_loc (pc' := 67) rfl rfl rfl ?_
                refine er_k (pc' := 69) (nI 6) rfl rfl rfl ?_
                refine er_cm_neT rfl (by decide +kernel) ?_
                refine er_k (pc' := 77) (nI 0) rfl rfl rfl ?_
                refine er_loc (pc' := 79) (L' := [(4, _), (3, _), (0, _), (1, _), (2, _)]) rfl rfl rfl ?_
                refine er_loc (pc' := 81) rfl rfl rfl ?_
                refine er_if_eqT rfl (by decide +kernel) ?_
                refine er_loc (pc' := 94) rfl rfl rfl ?_
                refine er_ldc (pc' := 96) (-1000000005) rfl rfl rfl rfl rfl ?_
                refine er_cIz (pc' := 99) (rest := []) 12 rfl rfl rfl rfl rfl rfl (l_rError5 _ _ _) ?_
                intro Z9
                refine er_iret rfl rfl ?_
                have e3 : sIsOf 3 w = false := by unfold sIsOf; rw [decide_eq_false (fun hh => h38 hh.symm), decide_eq_false (fun hh => h33 hh.symm), decide_eq_false h33]; rfl
                rw [if_pos h15, if_neg (by rw [e3]; decide)]
                exact RI_of rfl rfl
          · refine er_loc (pc' := 47) rfl rfl rfl ?_
            refine er_k (pc' := 48) (nI 4) rfl rfl rfl ?_
            refine er_cm_eqF (pc' := 51) rfl (by decide +kernel) rfl ?_
            refine er_loc (pc' := 52) rfl rfl rfl ?_
            refine er_k (pc' := 53) (nI 2) rfl rfl rfl ?_
            refine er_cm_ne (pc' := 56) rfl rfl (fun h53 => ?_) (fun h53 => ?_)
            · refine er_loc (pc' := 62) rfl rfl rfl ?_
              refine er_k (pc' := 63) (nI 3) rfl rfl rfl ?_
              refine er_cm_ne (pc' := 66) rfl rfl (fun h63 => ?_) (fun h63 => ?_)
              · refine er_k (pc' := 77) (nI 0) rfl rfl rfl ?_
                refine er_loc (pc' := 79) (L' := [(4, _), (3, _), (0, _), (1, _), (2, _)]) rfl rfl rfl ?_
                refine er_loc (pc' := 81) rfl rfl rfl ?_
                refine er_if_eqT rfl (by decide +kernel) ?_
                refine er_loc (pc' := 94) rfl rfl rfl ?_
                refine er_ldc (pc' := 96) (-1000000005) rfl rfl rfl rfl rfl ?_
                refine er_cIz (pc' := 99) (rest := []) 12 rfl rfl rfl rfl rfl rfl (l_rError5 _ _ _) ?_
                intro Z9
                refine er_iret rfl rfl ?_
                have e3 : sIsOf 3 w = false := by unfold sIsOf; rw [decide_eq_false (fun hh => h38 hh.symm), decide_eq_false (fun hh => h33 hh.symm), decide_eq_false h33]; rfl
                rw [if_pos h15, if_neg (by rw [e3]; decide)]
                exact RI_of rfl rfl
              · refine er_loc (pc' := 67) rfl rfl rfl ?_
                refine er_k (pc' := 69) (nI 6) rfl rfl rfl ?_
                refine er_cm_neT rfl (by decide +kernel) ?_
                refine er_k (pc' := 77) (nI 0) rfl rfl rfl ?_
                refine er_loc (pc' := 79) (L' := [(4, _), (3, _), (0, _), (1, _), (2, _)]) rfl rfl rfl ?_
                refine er_loc (pc' := 81) rfl rfl rfl ?_
                refine er_if_eqT rfl (by decide +kernel) ?_
                refine er_loc (pc' := 94) rfl rfl rfl ?_
                refine er_ldc (pc' := 96) (-1000000005) rfl rfl rfl rfl rfl ?_
                refine er_cIz (pc' := 99) (rest := []) 12 rfl rfl rfl rfl rfl rfl (l_rError5 _ _ _) ?_
                intro Z9
                refine er_iret rfl rfl ?_
                have e3 : sIsOf 3 w = false := by unfold sIsOf; rw [decide_eq_false (fun hh => h38 hh.symm), decide_eq_false (fun hh => h33 hh.symm), decide_eq_false h33]; rfl
                rw [if_pos h15, if_neg (by rw [e3]; decide)]
                exact RI_of rfl rfl
            · refine er_loc (pc' := 57) rfl rfl rfl ?_
              refine er_k (pc' := 58) (nI 5) rfl rfl rfl ?_
              refine er_cm_eqF (pc' := 61) rfl (by decide +kernel) rfl ?_
              refine er_loc (pc' := 62) rfl rfl rfl ?_
              refine er_k (pc' := 63) (nI 3) rfl rfl rfl ?_
              refine er_cm_ne (pc' := 66) rfl rfl (fun h63 => ?_) (fun h63 => ?_)
              · refine er_k (pc' := 77) (nI 0) rfl rfl rfl ?_
                refine er_loc (pc' := 79) (L' := [(4, _), (3, _), (0, _), (1, _), (2, _)]) rfl rfl rfl ?_
                refine er_loc (pc' := 81) rfl rfl rfl ?_
                refine er_if_eqT rfl (by decide +kernel) ?_
                refine er_loc (pc' := 94) rfl rfl rfl ?_
                refine er_ldc (pc' := 96) (-1000000005) rfl rfl rfl rfl rfl ?_
                refine er_cIz (pc' := 99) (rest := []) 12 rfl rfl rfl rfl rfl rfl (l_rError5 _ _ _) ?_
                intro Z9
                refine er_iret rfl rfl ?_
                have e3 : sIsOf 3 w = false := by unfold sIsOf; rw [decide_eq_false (fun hh => h38 hh.symm), decide_eq_false (fun hh => h33 hh.symm), decide_eq_false h33]; rfl
                rw [if_pos h15, if_neg (by rw [e3]; decide)]
                exact RI_of rfl rfl
              · refine er_loc (pc' := 67) rfl rfl rfl ?_
                refine er_k (pc' := 69) (nI 6) rfl rfl rfl ?_
                refine er_cm_neT rfl (by decide +kernel) ?_
                refine er_k (pc' := 77) (nI 0) rfl rfl rfl ?_
                refine er_loc (pc' := 79) (L' := [(4, _), (3, _), (0, _), (1, _), (2, _)]) rfl rfl rfl ?_
                refine er_loc (pc' := 81) rfl rfl rfl ?_
                refine er_if_eqT rfl (by decide +kernel) ?_
                refine er_loc (pc' := 94) rfl rfl rfl ?_
                refine er_ldc (pc' := 96) (-1000000005) rfl rfl rfl rfl rfl ?_
                refine er_cIz (pc' := 99) (rest := []) 12 rfl rfl rfl rfl rfl rfl (l_rError5 _ _ _) ?_
                intro Z9
                refine er_iret rfl rfl ?_
                have e3 : sIsOf 3 w = false := by unfold sIsOf; rw [decide_eq_false (fun hh => h38 hh.symm), decide_eq_false (fun hh => h33 hh.symm), decide_eq_false h33]; rfl
                rw [if_pos h15, if_neg (by rw [e3]; decide)]
                exact RI_of rfl rfl
    · refine er_loc (pc' := 19) rfl rfl rfl ?_
      refine er_ldc (pc' := 21) (-1000000001) rfl rfl rfl rfl rfl ?_
      refine er_cIz (pc' := 24) (rest := []) 12 rfl rfl rfl rfl rfl rfl (l_rError1 _ _ _) ?_
      intro Z9
      refine er_iret rfl rfl ?_
      rw [if_neg (by rw [h15]; decide)]
      exact RI_of rfl rfl
  · refine er_enter (L := [(0, _), (1, _), (2, _)]) rfl rfl rfl ?_
    refine er_loc (pc' := 1) rfl rfl rfl ?_
    refine er_loc (pc' := 2) rfl rfl rfl ?_
    refine er_cIi (pc' := 5) (rest := []) 12 rfl rfl rfl rfl rfl rfl (l_rHas_t _ X _ hI hk) ?_
    refine er_if_eqF (pc' := 8) rfl (by decide +kernel) rfl ?_
    refine er_loc (pc' := 9) rfl rfl rfl ?_
    refine er_k (pc' := 10) (nI 0) rfl rfl rfl ?_
    refine er_k (pc' := 12) (nI 6) rfl rfl rfl ?_
    refine er_cSi (pc' := 15) (rest := []) rfl rfl rfl (l_in _ _ _ _ _) ?_
    refine er_if_neb (pc' := 18) rfl rfl (fun h15 => ?_) (fun h15 => ?_)
    · refine er_loc (pc' := 26) rfl rfl rfl ?_
      refine er_loc (pc' := 27) rfl rfl rfl ?_
      refine er_k (pc' := 28) (nI 0) rfl rfl rfl ?_
      refine er_cIi (pc' := 31) (rest := []) 12 rfl rfl rfl rfl rfl rfl (l_of0 _ X _ hI (by omega)) ?_
      rw [e]
      refine er_loc (pc' := 32) (L' := [(3, _), (0, _), (1, _), (2, _)]) rfl rfl rfl ?_
      refine er_loc (pc' := 33) rfl rfl rfl ?_
      refine er_if_eq (pc' := 36) rfl rfl (fun h33 => ?_) (fun h33 => ?_)
      · refine er_k (pc' := 73) (nI 1) rfl rfl rfl ?_
        refine er_goto rfl ?_
        refine er_loc (pc' := 79) (L' := [(4, _), (3, _), (0, _), (1, _), (2, _)]) rfl rfl rfl ?_
        refine er_loc (pc' := 81) rfl rfl rfl ?_
        refine er_if_eqF (pc' := 84) rfl (by decide +kernel) rfl ?_
        refine er_loc (pc' := 85) rfl rfl rfl ?_
        refine er_loc (pc' := 86) rfl rfl rfl ?_
        refine er_k (pc' := 87) (nI 1) rfl rfl rfl ?_
        refine er_cIi (pc' := 90) (rest := []) 12 rfl rfl rfl rfl rfl rfl (l_of1 _ X _ (by omega)) ?_
        refine er_goto rfl ?_
        refine er_iret rfl rfl ?_
        have e3 : sIsOf 4 w = true := by unfold sIsOf; rw [decide_eq_true h33]; simp
        rw [if_pos h15, if_pos e3]
        exact RI_of rfl rfl
      · refine er_loc (pc' := 37) rfl rfl rfl ?_
        refine er_loc (pc' := 38) rfl rfl rfl ?_
        refine er_cm_eq (pc' := 41) rfl rfl (fun h38 => ?_) (fun h38 => ?_)
        · refine er_k (pc' := 73) (nI 1) rfl rfl rfl ?_
          refine er_goto rfl ?_
          refine er_loc (pc' := 79) (L' := [(4, _), (3, _), (0, _), (1, _), (2, _)]) rfl rfl rfl ?_
          refine er_loc (pc' := 81) rfl rfl rfl ?_
          refine er_if_eqF (pc' := 84) rfl (by decide +kernel) rfl ?_
          refine er_loc (pc' := 85) rfl rfl rfl ?_
          refine er_loc (pc' := 86) rfl rfl rfl ?_
          refine er_k (pc' := 87) (nI 1) rfl rfl rfl ?_
          refine er_cIi (pc' := 90) (rest := []) 12 rfl rfl rfl rfl rfl rfl (l_of1 _ X _ (by omega)) ?_
          refine er_goto rfl ?_
          refine er_iret rfl rfl ?_
          have e3 : sIsOf 4 w = true := by unfold sIsOf; rw [decide_eq_true h38.symm]; simp
          rw [if_pos h15, if_pos e3]
          exact RI_of rfl rfl
        · refine er_loc (pc' := 42) rfl rfl rfl ?_
          refine er_k (pc' := 43) (nI 1) rfl rfl rfl ?_
          refine er_cm_ne (pc' := 46) rfl rfl (fun h43 => ?_) (fun h43 => ?_)
          · refine er_loc (pc' := 52) rfl rfl rfl ?_
            refine er_k (pc' := 53) (nI 2) rfl rfl rfl ?_
            refine er_cm_ne (pc' := 56) rfl rfl (fun h53 => ?_) (fun h53 => ?_)
            · refine er_loc (pc' := 62) rfl rfl rfl ?_
              refine er_k (pc' := 63) (nI 3) rfl rfl rfl ?_
              refine er_cm_ne (pc' := 66) rfl rfl (fun h63 => ?_) (fun h63 => ?_)
              · refine er_k (pc' := 77) (nI 0) rfl rfl rfl ?_
                refine er_loc (pc' := 79) (L' := [(4, _), (3, _), (0, _), (1, _), (2, _)]) rfl rfl rfl ?_
                refine er_loc (pc' := 81) rfl rfl rfl ?_
                refine er_if_eqT rfl (by decide +kernel) ?_
                refine er_loc (pc' := 94) rfl rfl rfl ?_
                refine er_ldc (pc' := 96) (-1000000005) rfl rfl rfl rfl rfl ?_
                refine er_cIz (pc' := 99) (rest := []) 12 rfl rfl rfl rfl rfl rfl (l_rError5 _ _ _) ?_
                intro Z9
                refine er_iret rfl rfl ?_
                have e3 : sIsOf 4 w = false := by unfold sIsOf; rw [decide_eq_false (fun hh => h38 hh.symm), decide_eq_false (fun hh => h43 (hh.symm.trans (by decide +kernel))), decide_eq_false h33]; rfl
                rw [if_pos h15, if_neg (by rw [e3]; decide)]
                exact RI_of rfl rfl
              · refine er_loc (pc' := 67) rfl rfl rfl ?_
                refine er_k (pc' := 69) (nI 6) rfl rfl rfl ?_
                refine er_cm_neT rfl (by decide +kernel) ?_
                refine er_k (pc' := 77) (nI 0) rfl rfl rfl ?_
                refine er_loc (pc' := 79) (L' := [(4, _), (3, _), (0, _), (1, _), (2, _)]) rfl rfl rfl ?_
                refine er_loc (pc' := 81) rfl rfl rfl ?_
                refine er_if_eqT rfl (by decide +kernel) ?_
                refine er_loc (pc' := 94) rfl rfl rfl ?_
                refine er_ldc (pc' := 96) (-1000000005) rfl rfl rfl rfl rfl ?_
                refine er_cIz (pc' := 99) (rest := []) 12 rfl rfl rfl rfl rfl rfl (l_rError5 _ _ _) ?_
                intro Z9
                refine er_iret rfl rfl ?_
                have e3 : sIsOf 4 w = false := by unfold sIsOf; rw [decide_eq_false (fun hh => h38 hh.symm), decide_eq_false (fun hh => h43 (hh.symm.trans (by decide +kernel))), decide_eq_false h33]; rfl
                rw [if_pos h15, if_neg (by rw [e3]; decide)]
                exact RI_of rfl rfl
            · refine er_loc (pc' := 57) rfl rfl rfl ?_
              refine er_k (pc' := 58) (nI 5) rfl rfl rfl ?_
              refine er_cm_eqF (pc' := 61) rfl (by decide +kernel) rfl ?_
              refine er_loc (pc' := 62) rfl rfl rfl ?_
              refine er_k (pc' := 63) (nI 3) rfl rfl rfl ?_
              refine er_cm_ne (pc' := 66) rfl rfl (fun h63 => ?_) (fun h63 => ?_)
              · refine er_k (pc' := 77) (nI 0) rfl rfl rfl ?_
                refine er_loc (pc' := 79) (L' := [(4, _), (3, _), (0, _), (1, _), (2, _)]) rfl rfl rfl ?_
                refine er_loc (pc' := 81) rfl rfl rfl ?_
                refine er_if_eqT rfl (by decide +kernel) ?_
                refine er_loc (pc' := 94) rfl rfl rfl ?_
                refine er_ldc (pc' := 96) (-1000000005) rfl rfl rfl rfl rfl ?_
                refine er_cIz (pc' := 99) (rest := []) 12 rfl rfl rfl rfl rfl rfl (l_rError5 _ _ _) ?_
                intro Z9
                refine er_iret rfl rfl ?_
                have e3 : sIsOf 4 w = false := by unfold sIsOf; rw [decide_eq_false (fun hh => h38 hh.symm), decide_eq_false (fun hh => h43 (hh.symm.trans (by decide +kernel))), decide_eq_false h33]; rfl
                rw [if_pos h15, if_neg (by rw [e3]; decide)]
                exact RI_of rfl rfl
              · refine er_loc (pc' := 67) rfl rfl rfl ?_
                refine er_k (pc' := 69) (nI 6) rfl rfl rfl ?_
                refine er_cm_neT rfl (by decide +kernel) ?_
                refine er_k (pc' := 77) (nI 0) rfl rfl rfl ?_
                refine er_loc (pc' := 79) (L' := [(4, _), (3, _), (0, _), (1, _), (2, _)]) rfl rfl rfl ?_
                refine er_loc (pc' := 81) rfl rfl rfl ?_
                refine er_if_eqT rfl (by decide +kernel) ?_
                refine er_loc (pc' := 94) rfl rfl rfl ?_
                refine er_ldc (pc' := 96) (-1000000005) rfl rfl rfl rfl rfl ?_
                refine er_cIz (pc' := 99) (rest := []) 12 rfl rfl rfl rfl rfl rfl (l_rError5 _ _ _) ?_
                intro Z9
                refine er_iret rfl rfl ?_
                have e3 : sIsOf 4 w = false := by unfold sIsOf; rw [decide_eq_false (fun hh => h38 hh.symm), decide_eq_false (fun hh => h43 (hh.symm.trans (by decide +kernel))), decide_eq_false h33]; rfl
                rw [if_pos h15, if_neg (by rw [e3]; decide)]
                exact RI_of rfl rfl
          · refine er_loc (pc' := 47) rfl rfl rfl ?_
            refine er_k (pc' := 48) (nI 4) rfl rfl rfl ?_
            refine er_cm_eqT rfl (rfl) ?_
            refine er_k (pc' := 73) (nI 1) rfl rfl rfl ?_
            refine er_goto rfl ?_
            refine er_loc (pc' := 79) (L' := [(4, _), (3, _), (0, _), (1, _), (2, _)]) rfl rfl rfl ?_
            refine er_loc (pc' := 81) rfl rfl rfl ?_
            refine er_if_eqF (pc' := 84) rfl (by decide +kernel) rfl ?_
            refine er_loc (pc' := 85) rfl rfl rfl ?_
            refine er_loc (pc' := 86) rfl rfl rfl ?_
            refine er_k (pc' := 87) (nI 1) rfl rfl rfl ?_
            refine er_cIi (pc' := 90) (rest := []) 12 rfl rfl rfl rfl rfl rfl (l_of1 _ X _ (by omega)) ?_
            refine er_goto rfl ?_
            refine er_iret rfl rfl ?_
            have e3 : sIsOf 4 w = true := by unfold sIsOf; rw [h43]; decide +kernel
            rw [if_pos h15, if_pos e3]
            exact RI_of rfl rfl
    · refine er_loc (pc' := 19) rfl rfl rfl ?_
      refine er_ldc (pc' := 21) (-1000000001) rfl rfl rfl rfl rfl ?_
      refine er_cIz (pc' := 24) (rest := []) 12 rfl rfl rfl rfl rfl rfl (l_rError1 _ _ _) ?_
      intro Z9
      refine er_iret rfl rfl ?_
      rw [if_neg (by rw [h15]; decide)]
      exact RI_of rfl rfl
  · refine er_enter (L := [(0, _), (1, _), (2, _)]) rfl rfl rfl ?_
    refine er_loc (pc' := 1) rfl rfl rfl ?_
    refine er_loc (pc' := 2) rfl rfl rfl ?_
    refine er_cIi (pc' := 5) (rest := []) 12 rfl rfl rfl rfl rfl rfl (l_rHas_t _ X _ hI hk) ?_
    refine er_if_eqF (pc' := 8) rfl (by decide +kernel) rfl ?_
    refine er_loc (pc' := 9) rfl rfl rfl ?_
    refine er_k (pc' := 10) (nI 0) rfl rfl rfl ?_
    refine er_k (pc' := 12) (nI 6) rfl rfl rfl ?_
    refine er_cSi (pc' := 15) (rest := []) rfl rfl rfl (l_in _ _ _ _ _) ?_
    refine er_if_neb (pc' := 18) rfl rfl (fun h15 => ?_) (fun h15 => ?_)
    · refine er_loc (pc' := 26) rfl rfl rfl ?_
      refine er_loc (pc' := 27) rfl rfl rfl ?_
      refine er_k (pc' := 28) (nI 0) rfl rfl rfl ?_
      refine er_cIi (pc' := 31) (rest := []) 12 rfl rfl rfl rfl rfl rfl (l_of0 _ X _ hI (by omega)) ?_
      rw [e]
      refine er_loc (pc' := 32) (L' := [(3, _), (0, _), (1, _), (2, _)]) rfl rfl rfl ?_
      refine er_loc (pc' := 33) rfl rfl rfl ?_
      refine er_if_eq (pc' := 36) rfl rfl (fun h33 => ?_) (fun h33 => ?_)
      · refine er_k (pc' := 73) (nI 1) rfl rfl rfl ?_
        refine er_goto rfl ?_
        refine er_loc (pc' := 79) (L' := [(4, _), (3, _), (0, _), (1, _), (2, _)]) rfl rfl rfl ?_
        refine er_loc (pc' := 81) rfl rfl rfl ?_
        refine er_if_eqF (pc' := 84) rfl (by decide +kernel) rfl ?_
        refine er_loc (pc' := 85) rfl rfl rfl ?_
        refine er_loc (pc' := 86) rfl rfl rfl ?_
        refine er_k (pc' := 87) (nI 1) rfl rfl rfl ?_
        refine er_cIi (pc' := 90) (rest := []) 12 rfl rfl rfl rfl rfl rfl (l_of1 _ X _ (by omega)) ?_
        refine er_goto rfl ?_
        refine er_iret rfl rfl ?_
        have e3 : sIsOf 5 w = true := by unfold sIsOf; rw [decide_eq_true h33]; simp
        rw [if_pos h15, if_pos e3]
        exact RI_of rfl rfl
      · refine er_loc (pc' := 37) rfl rfl rfl ?_
        refine er_loc (pc' := 38) rfl rfl rfl ?_
        refine er_cm_eq (pc' := 41) rfl rfl (fun h38 => ?_) (fun h38 => ?_)
        · refine er_k (pc' := 73) (nI 1) rfl rfl rfl ?_
          refine er_goto rfl ?_
          refine er_loc (pc' := 79) (L' := [(4, _), (3, _), (0, _), (1, _), (2, _)]) rfl rfl rfl ?_
          refine er_loc (pc' := 81) rfl rfl rfl ?_
          refine er_if_eqF (pc' := 84) rfl (by decide +kernel) rfl ?_
          refine er_loc (pc' := 85) rfl rfl rfl ?_
          refine er_loc (pc' := 86) rfl rfl rfl ?_
          refine er_k (pc' := 87) (nI 1) rfl rfl rfl ?_
          refine er_cIi (pc' := 90) (rest := []) 12 rfl rfl rfl rfl rfl rfl (l_of1 _ X _ (by omega)) ?_
          refine er_goto rfl ?_
          refine er_iret rfl rfl ?_
          have e3 : sIsOf 5 w = true := by unfold sIsOf; rw [decide_eq_true h38.symm]; simp
          rw [if_pos h15, if_pos e3]
          exact RI_of rfl rfl
        · refine er_loc (pc' := 42) rfl rfl rfl ?_
          refine er_k (pc' := 43) (nI 1) rfl rfl rfl ?_
          refine er_cm_ne (pc' := 46) rfl rfl (fun h43 => ?_) (fun h43 => ?_)
          · refine er_loc (pc' := 52) rfl rfl rfl ?_
            refine er_k (pc' := 53) (nI 2) rfl rfl rfl ?_
            refine er_cm_ne (pc' := 56) rfl rfl (fun h53 => ?_) (fun h53 => ?_)
            · refine er_loc (pc' := 62) rfl rfl rfl ?_
              refine er_k (pc' := 63) (nI 3) rfl rfl rfl ?_
              refine er_cm_ne (pc' := 66) rfl rfl (fun h63 => ?_) (fun h63 => ?_)
              · refine er_k (pc' := 77) (nI 0) rfl rfl rfl ?_
                refine er_loc (pc' := 79) (L' := [(4, _), (3, _), (0, _), (1, _), (2, _)]) rfl rfl rfl ?_
                refine er_loc (pc' := 81) rfl rfl rfl ?_
                refine er_if_eqT rfl (by decide +kernel) ?_
                refine er_loc (pc' := 94) rfl rfl rfl ?_
                refine er_ldc (pc' := 96) (-1000000005) rfl rfl rfl rfl rfl ?_
                refine er_cIz (pc' := 99) (rest := []) 12 rfl rfl rfl rfl rfl rfl (l_rError5 _ _ _) ?_
                intro Z9
                refine er_iret rfl rfl ?_
                have e3 : sIsOf 5 w = false := by unfold sIsOf; rw [decide_eq_false (fun hh => h38 hh.symm), decide_eq_false (fun hh => h53 (hh.symm.trans (by decide +kernel))), decide_eq_false h33]; rfl
                rw [if_pos h15, if_neg (by rw [e3]; decide)]
                exact RI_of rfl rfl
              · refine er_loc (pc' := 67) rfl rfl rfl ?_
                refine er_k (pc' := 69) (nI 6) rfl rfl rfl ?_
                refine er_cm_neT rfl (by decide +kernel) ?_
                refine er_k (pc' := 77) (nI 0) rfl rfl rfl ?_
                refine er_loc (pc' := 79) (L' := [(4, _), (3, _), (0, _), (1, _), (2, _)]) rfl rfl rfl ?_
                refine er_loc (pc' := 81) rfl rfl rfl ?_
                refine er_if_eqT rfl (by decide +kernel) ?_
                refine er_loc (pc' := 94) rfl rfl rfl ?_
                refine er_ldc (pc' := 96) (-1000000005) rfl rfl rfl rfl rfl ?_
                refine er_cIz (pc' := 99) (rest := []) 12 rfl rfl rfl rfl rfl rfl (l_rError5 _ _ _) ?_
                intro Z9
                refine er_iret rfl rfl ?_
                have e3 : sIsOf 5 w = false := by unfold sIsOf; rw [decide_eq_false (fun hh => h38 hh.symm), decide_eq_false (fun hh => h53 (hh.symm.trans (by decide +kernel))), decide_eq_false h33]; rfl
                rw [if_pos h15, if_neg (by rw [e3]; decide)]
                exact RI_of rfl rfl
            · refine er_loc (pc' := 57) rfl rfl rfl ?_
              refine er_k (pc' := 58) (nI 5) rfl rfl rfl ?_
              refine er_cm_eqT rfl (rfl) ?_
              refine er_k (pc' := 73) (nI 1) rfl rfl rfl ?_
              refine er_goto rfl ?_
              refine er_loc (pc' := 79) (L' := [(4, _), (3, _), (0, _), (1, _), (2, _)]) rfl rfl rfl ?_
              refine er_loc (pc' := 81) rfl rfl rfl ?_
              refine er_if_eqF (pc' := 84) rfl (by decide +kernel) rfl ?_
              refine er_loc (pc' := 85) rfl rfl rfl ?_
              refine er_loc (pc' := 86) rfl rfl rfl ?_
              refine er_k (pc' := 87) (nI 1) rfl rfl rfl ?_
              refine er_cIi (pc' := 90) (rest := []) 12 rfl rfl rfl rfl rfl rfl (l_of1 _ X _ (by omega)) ?_
              refine er_goto rfl ?_
              refine er_iret rfl rfl ?_
              have e3 : sIsOf 5 w = true := by unfold sIsOf; rw [h53]; decide +kernel
              rw [if_pos h15, if_pos e3]
              exact RI_of rfl rfl
          · refine er_loc (pc' := 47) rfl rfl rfl ?_
            refine er_k (pc' := 48) (nI 4) rfl rfl rfl ?_
            refine er_cm_eqF (pc' := 51) rfl (by decide +kernel) rfl ?_
            refine er_loc (pc' := 52) rfl rfl rfl ?_
            refine er_k (pc' := 53) (nI 2) rfl rfl rfl ?_
            refine er_cm_ne (pc' := 56) rfl rfl (fun h53 => ?_) (fun h53 => ?_)
            · refine er_loc (pc' := 62) rfl rfl rfl ?_
              refine er_k (pc' := 63) (nI 3) rfl rfl rfl ?_
              refine er_cm_ne (pc' := 66) rfl rfl (fun h63 => ?_) (fun h63 => ?_)
              · refine er_k (pc' := 77) (nI 0) rfl rfl rfl ?_
                refine er_loc (pc' := 79) (L' := [(4, _), (3, _), (0, _), (1, _), (2, _)]) rfl rfl rfl ?_
                refine er_loc (pc' := 81) rfl rfl rfl ?_
                refine er_if_eqT rfl (by decide +kernel) ?_
                refine er_loc (pc' := 94) rfl rfl rfl ?_
                refine er_ldc (pc' := 96) (-1000000005) rfl rfl rfl rfl rfl ?_
                refine er_cIz (pc' := 99) (rest := []) 12 rfl rfl rfl rfl rfl rfl (l_rError5 _ _ _) ?_
                intro Z9
                refine er_iret rfl rfl ?_
                have e3 : sIsOf 5 w = false := by unfold sIsOf; rw [decide_eq_false (fun hh => h38 hh.symm), decide_eq_false (fun hh => h53 (hh.symm.trans (by decide +kernel))), decide_eq_false h33]; rfl
                rw [if_pos h15, if_neg (by rw [e3]; decide)]
                exact RI_of rfl rfl
              · refine er_loc (pc' := 67) rfl rfl rfl ?_
                refine er_k (pc' := 69) (nI 6) rfl rfl rfl ?_
                refine er_cm_neT rfl (by decide +kernel) ?_
                refine er_k (pc' := 77) (nI 0) rfl rfl rfl ?_
                refine er_loc (pc' := 79) (L' := [(4, _), (3, _), (0, _), (1, _), (2, _)]) rfl rfl rfl ?_
                refine er_loc (pc' := 81) rfl rfl rfl ?_
                refine er_if_eqT rfl (by decide +kernel) ?_
                refine er_loc (pc' := 94) rfl rfl rfl ?_
                refine er_ldc (pc' := 96) (-1000000005) rfl rfl rfl rfl rfl ?_
                refine er_cIz (pc' := 99) (rest := []) 12 rfl rfl rfl rfl rfl rfl (l_rError5 _ _ _) ?_
                intro Z9
                refine er_iret rfl rfl ?_
                have e3 : sIsOf 5 w = false := by unfold sIsOf; rw [decide_eq_false (fun hh => h38 hh.symm), decide_eq_false (fun hh => h53 (hh.symm.trans (by decide +kernel))), decide_eq_false h33]; rfl
                rw [if_pos h15, if_neg (by rw [e3]; decide)]
                exact RI_of rfl rfl
            · refine er_loc (pc' := 57) rfl rfl rfl ?_
              refine er_k (pc' := 58) (nI 5) rfl rfl rfl ?_
              refine er_cm_eqT rfl (rfl) ?_
              refine er_k (pc' := 73) (nI 1) rfl rfl rfl ?_
              refine er_goto rfl ?_
              refine er_loc (pc' := 79) (L' := [(4, _), (3, _), (0, _), (1, _), (2, _)]) rfl rfl rfl ?_
              refine er_loc (pc' := 81) rfl rfl rfl ?_
              refine er_if_eqF (pc' := 84) rfl (by decide +kernel) rfl ?_
              refine er_loc (pc' := 85) rfl rfl rfl ?_
              refine er_loc (pc' := 86) rfl rfl rfl ?_
              refine er_k (pc' := 87) (nI 1) rfl rfl rfl ?_
              refine er_cIi (pc' := 90) (rest := []) 12 rfl rfl rfl rfl rfl rfl (l_of1 _ X _ (by omega)) ?_
              refine er_goto rfl ?_
              refine er_iret rfl rfl ?_
              have e3 : sIsOf 5 w = true := by unfold sIsOf; rw [h53]; decide +kernel
              rw [if_pos h15, if_pos e3]
              exact RI_of rfl rfl
    · refine er_loc (pc' := 19) rfl rfl rfl ?_
      refine er_ldc (pc' := 21) (-1000000001) rfl rfl rfl rfl rfl ?_
      refine er_cIz (pc' := 24) (rest := []) 12 rfl rfl rfl rfl rfl rfl (l_rError1 _ _ _) ?_
      intro Z9
      refine er_iret rfl rfl ?_
      rw [if_neg (by rw [h15]; decide)]
      exact RI_of rfl rfl
  · refine er_enter (L := [(0, _), (1, _), (2, _)]) rfl rfl rfl ?_
    refine er_loc (pc' := 1) rfl rfl rfl ?_
    refine er_loc (pc' := 2) rfl rfl rfl ?_
    refine er_cIi (pc' := 5) (rest := []) 12 rfl rfl rfl rfl rfl rfl (l_rHas_t _ X _ hI hk) ?_
    refine er_if_eqF (pc' := 8) rfl (by decide +kernel) rfl ?_
    refine er_loc (pc' := 9) rfl rfl rfl ?_
    refine er_k (pc' := 10) (nI 0) rfl rfl rfl ?_
    refine er_k (pc' := 12) (nI 6) rfl rfl rfl ?_
    refine er_cSi (pc' := 15) (rest := []) rfl rfl rfl (l_in _ _ _ _ _) ?_
    refine er_if_neb (pc' := 18) rfl rfl (fun h15 => ?_) (fun h15 => ?_)
    · refine er_loc (pc' := 26) rfl rfl rfl ?_
      refine er_loc (pc' := 27) rfl rfl rfl ?_
      refine er_k (pc' := 28) (nI 0) rfl rfl rfl ?_
      refine er_cIi (pc' := 31) (rest := []) 12 rfl rfl rfl rfl rfl rfl (l_of0 _ X _ hI (by omega)) ?_
      rw [e]
      refine er_loc (pc' := 32) (L' := [(3, _), (0, _), (1, _), (2, _)]) rfl rfl rfl ?_
      refine er_loc (pc' := 33) rfl rfl rfl ?_
      refine er_if_eq (pc' := 36) rfl rfl (fun h33 => ?_) (fun h33 => ?_)
      · refine er_k (pc' := 73) (nI 1) rfl rfl rfl ?_
        refine er_goto rfl ?_
        refine er_loc (pc' := 79) (L' := [(4, _), (3, _), (0, _), (1, _), (2, _)]) rfl rfl rfl ?_
        refine er_loc (pc' := 81) rfl rfl rfl ?_
        refine er_if_eqF (pc' := 84) rfl (by decide +kernel) rfl ?_
        refine er_loc (pc' := 85) rfl rfl rfl ?_
        refine er_loc (pc' := 86) rfl rfl rfl ?_
        refine er_k (pc' := 87) (nI 1) rfl rfl rfl ?_
        refine er_cIi (pc' := 90) (rest := []) 12 rfl rfl rfl rfl rfl rfl (l_of1 _ X _ (by omega)) ?_
        refine er_goto rfl ?_
        refine er_iret rfl rfl ?_
        have e3 : sIsOf 6 w = true := by unfold sIsOf; rw [decide_eq_true h33]; simp
        rw [if_pos h15, if_pos e3]
        exact RI_of rfl rfl
      · refine er_loc (pc' := 37) rfl rfl rfl ?_
        refine er_loc (pc' := 38) rfl rfl rfl ?_
        refine er_cm_eq (pc' := 41) rfl rfl (fun h38 => ?_) (fun h38 => ?_)
        · refine er_k (pc' := 73) (nI 1) rfl rfl rfl ?_
          refine er_goto rfl ?_
          refine er_loc (pc' := 79) (L' := [(4, _), (3, _), (0, _), (1, _), (2, _)]) rfl rfl rfl ?_
          refine er_loc (pc' := 81) rfl rfl rfl ?_
          refine er_if_eqF (pc' := 84) rfl (by decide +kernel) rfl ?_
          refine er_loc (pc' := 85) rfl rfl rfl ?_
          refine er_loc (pc' := 86) rfl rfl rfl ?_
          refine er_k (pc' := 87) (nI 1) rfl rfl rfl ?_
          refine er_cIi (pc' := 90) (rest := []) 12 rfl rfl rfl rfl rfl rfl (l_of1 _ X _ (by omega)) ?_
          refine er_goto rfl ?_
          refine er_iret rfl rfl ?_
          have e3 : sIsOf 6 w = true := by unfold sIsOf; rw [decide_eq_true h38.symm]; simp
          rw [if_pos h15, if_pos e3]
          exact RI_of rfl rfl
        · refine er_loc (pc' := 42) rfl rfl rfl ?_
          refine er_k (pc' := 43) (nI 1) rfl rfl rfl ?_
          refine er_cm_ne (pc' := 46) rfl rfl (fun h43 => ?_) (fun h43 => ?_)
          · refine er_loc (pc' := 52) rfl rfl rfl ?_
            refine er_k (pc' := 53) (nI 2) rfl rfl rfl ?_
            refine er_cm_ne (pc' := 56) rfl rfl (fun h53 => ?_) (fun h53 => ?_)
            · refine er_loc (pc' := 62) rfl rfl rfl ?_
              refine er_k (pc' := 63) (nI 3) rfl rfl rfl ?_
              refine er_cm_ne (pc' := 66) rfl rfl (fun h63 => ?_) (fun h63 => ?_)
              · refine er_k (pc' := 77) (nI 0) rfl rfl rfl ?_
                refine er_loc (pc' := 79) (L' := [(4, _), (3, _), (0, _), (1, _), (2, _)]) rfl rfl rfl ?_
                refine er_loc (pc' := 81) rfl rfl rfl ?_
                refine er_if_eqT rfl (by decide +kernel) ?_
                refine er_loc (pc' := 94) rfl rfl rfl ?_
                refine er_ldc (pc' := 96) (-1000000005) rfl rfl rfl rfl rfl ?_
                refine er_cIz (pc' := 99) (rest := []) 12 rfl rfl rfl rfl rfl rfl (l_rError5 _ _ _) ?_
                intro Z9
                refine er_iret rfl rfl ?_
                have e3 : sIsOf 6 w = false := by unfold sIsOf; rw [decide_eq_false (fun hh => h38 hh.symm), decide_eq_false (fun hh => h63 (hh.symm.trans (by decide +kernel))), decide_eq_false h33]; rfl
                rw [if_pos h15, if_neg (by rw [e3]; decide)]
                exact RI_of rfl rfl
              · refine er_loc (pc' := 67) rfl rfl rfl ?_
                refine er_k (pc' := 69) (nI 6) rfl rfl rfl ?_
                refine er_cm_neF (pc' := 72) rfl (rfl) rfl ?_
                refine er_k (pc' := 73) (nI 1) rfl rfl rfl ?_
                refine er_goto rfl ?_
                refine er_loc (pc' := 79) (L' := [(4, _), (3, _), (0, _), (1, _), (2, _)]) rfl rfl rfl ?_
                refine er_loc (pc' := 81) rfl rfl rfl ?_
                refine er_if_eqF (pc' := 84) rfl (by decide +kernel) rfl ?_
                refine er_loc (pc' := 85) rfl rfl rfl ?_
                refine er_loc (pc' := 86) rfl rfl rfl ?_
                refine er_k (pc' := 87) (nI 1) rfl rfl rfl ?_
                refine er_cIi (pc' := 90) (rest := []) 12 rfl rfl rfl rfl rfl rfl (l_of1 _ X _ (by omega)) ?_
                refine er_goto rfl ?_
                refine er_iret rfl rfl ?_
                have e3 : sIsOf 6 w = true := by unfold sIsOf; rw [h63]; decide +kernel
                rw [if_pos h15, if_pos e3]
                exact RI_of rfl rfl
            · refine er_loc (pc' := 57) rfl rfl rfl ?_
              refine er_k (pc' := 58) (nI 5) rfl rfl rfl ?_
              refine er_cm_eqF (pc' := 61) rfl (by decide +kernel) rfl ?_
              refine er_loc (pc' := 62) rfl rfl rfl ?_
              refine er_k (pc' := 63) (nI 3) rfl rfl rfl ?_
              refine er_cm_ne (pc' := 66) rfl rfl (fun h63 => ?_) (fun h63 => ?_)
              · refine er_k (pc' := 77) (nI 0) rfl rfl rfl ?_
                refine er_loc (pc' := 79) (L' := [(4, _), (3, _), (0, _), (1, _), (2, _)]) rfl rfl rfl ?_
                refine er_loc (pc' := 81) rfl rfl rfl ?_
                refine er_if_eqT rfl (by decide +kernel) ?_
                refine er_loc (pc' := 94) rfl rfl rfl ?_
                refine er_ldc (pc' := 96) (-1000000005) rfl rfl rfl rfl rfl ?_
                refine er_cIz (pc' := 99) (rest := []) 12 rfl rfl rfl rfl rfl rfl (l_rError5 _ _ _) ?_
                intro Z9
                refine er_iret rfl rfl ?_
                have e3 : sIsOf 6 w = false := by unfold sIsOf; rw [decide_eq_false (fun hh => h38 hh.symm), decide_eq_false (fun hh => h63 (hh.symm.trans (by decide +kernel))), decide_eq_false h33]; rfl
                rw [if_pos h15, if_neg (by rw [e3]; decide)]
                exact RI_of rfl rfl
              · refine er_loc (pc' := 67) rfl rfl rfl ?_
                refine er_k (pc' := 69) (nI 6) rfl rfl rfl ?_
                refine er_cm_neF (pc' := 72) rfl (rfl) rfl ?_
                refine er_k (pc' := 73) (nI 1) rfl rfl rfl ?_
                refine er_goto rfl ?_
                refine er_loc (pc' := 79) (L' := [(4, _), (3, _), (0, _), (1, _), (2, _)]) rfl rfl rfl ?_
                refine er_loc (pc' := 81) rfl rfl rfl ?_
                refine er_if_eqF (pc' := 84) rfl (by decide +kernel) rfl ?_
                refine er_loc (pc' := 85) rfl rfl rfl ?_
                refine er_loc (pc' := 86) rfl rfl rfl ?_
                refine er_k (pc' := 87) (nI 1) rfl rfl rfl ?_
                refine er_cIi (pc' := 90) (rest := []) 12 rfl rfl rfl rfl rfl rfl (l_of1 _ X _ (by omega)) ?_
                refine er_goto rfl ?_
                refine er_iret rfl rfl ?_
                have e3 : sIsOf 6 w = true := by unfold sIsOf; rw [h63]; decide +kernel
                rw [if_pos h15, if_pos e3]
                exact RI_of rfl rfl
          · refine er_loc (pc' := 47) rfl rfl rfl ?_
            refine er_k (pc' := 48) (nI 4) rfl rfl rfl ?_
            refine er_cm_eqF (pc' := 51) rfl (by decide +kernel) rfl ?_
            refine er_loc (pc' := 52) rfl rfl rfl ?_
            refine er_k (pc' := 53) (nI 2) rfl rfl rfl ?_
            refine er_cm_ne (pc' := 56) rfl rfl (fun h53 => ?_) (fun h53 => ?_)
            · refine er_loc (pc' := 62) rfl rfl rfl ?_
              refine er_k (pc' := 63) (nI 3) rfl rfl rfl ?_
              refine er_cm_ne (pc' := 66) rfl rfl (fun h63 => ?_) (fun h63 => ?_)
              · refine er_k (pc' := 77) (nI 0) rfl rfl rfl ?_
                refine er_loc (pc' := 79) (L' := [(4, _), (3, _), (0, _), (1, _), (2, _)]) rfl rfl rfl ?_
                refine er_loc (pc' := 81) rfl rfl rfl ?_
                refine er_if_eqT rfl (by decide +kernel) ?_
                refine er_loc (pc' := 94) rfl rfl rfl ?_
                refine er_ldc (pc' := 96) (-1000000005) rfl rfl rfl rfl rfl ?_
                refine er_cIz (pc' := 99) (rest := []) 12 rfl rfl rfl rfl rfl rfl (l_rError5 _ _ _) ?_
                intro Z9
                refine er_iret rfl rfl ?_
                have e3 : sIsOf 6 w = false := by unfold sIsOf; rw [decide_eq_false (fun hh => h38 hh.symm), decide_eq_false (fun hh => h63 (hh.symm.trans (by decide +kernel))), decide_eq_false h33]; rfl
                rw [if_pos h15, if_neg (by rw [e3]; decide)]
                exact RI_of rfl rfl
              · refine er_loc (pc' := 67) rfl rfl rfl ?_
                refine er_k (pc' := 69) (nI 6) rfl rfl rfl ?_
                refine er_cm_neF (pc' := 72) rfl (rfl) rfl ?_
                refine er_k (pc' := 73) (nI 1) rfl rfl rfl ?_
                refine er_goto rfl ?_
                refine er_loc (pc' := 79) (L' := [(4, _), (3, _), (0, _), (1, _), (2, _)]) rfl rfl rfl ?_
                refine er_loc (pc' := 81) rfl rfl rfl ?_
                refine er_if_eqF (pc' := 84) rfl (by decide +kernel) rfl ?_
                refine er_loc (pc' := 85) rfl rfl rfl ?_
                refine er_loc (pc' := 86) rfl rfl rfl ?_
                refine er_k (pc' := 87) (nI 1) rfl rfl rfl ?_
                refine er_cIi (pc' := 90) (rest := []) 12 rfl rfl rfl rfl rfl rfl (l_of1 _ X _ (by omega)) ?_
                refine er_goto rfl ?_
                refine er_iret rfl rfl ?_
                have e3 : sIsOf 6 w = true := by unfold sIsOf; rw [h63]; decide +kernel
                rw [if_pos h15, if_pos e3]
                exact RI_of rfl rfl
            · refine er_loc (pc' := 57) rfl rfl rfl ?_
              refine er_k (pc' := 58) (nI 5) rfl rfl rfl ?_
              refine er_cm_eqF (pc' := 61) rfl (by decide +kernel) rfl ?_
              refine er_loc (pc' := 62) rfl rfl rfl ?_
              refine er_k (pc' := 63) (nI 3) rfl rfl rfl ?_
              refine er_cm_ne (pc' := 66) rfl rfl (fun h63 => ?_) (fun h63 => ?_)
              · refine er_k (pc' := 77) (nI 0) rfl rfl rfl ?_
                refine er_loc (pc' := 79) (L' := [(4, _), (3, _), (0, _), (1, _), (2, _)]) rfl rfl rfl ?_
                refine er_loc (pc' := 81) rfl rfl rfl ?_
                refine er_if_eqT rfl (by decide +kernel) ?_
                refine er_loc (pc' := 94) rfl rfl rfl ?_
                refine er_ldc (pc' := 96) (-1000000005) rfl rfl rfl rfl rfl ?_
                refine er_cIz (pc' := 99) (rest := []) 12 rfl rfl rfl rfl rfl rfl (l_rError5 _ _ _) ?_
                intro Z9
                refine er_iret rfl rfl ?_
                have e3 : sIsOf 6 w = false := by unfold sIsOf; rw [decide_eq_false (fun hh => h38 hh.symm), decide_eq_false (fun hh => h63 (hh.symm.trans (by decide +kernel))), decide_eq_false h33]; rfl
                rw [if_pos h15, if_neg (by rw [e3]; decide)]
                exact RI_of rfl rfl
              · refine er_loc (pc' := 67) rfl rfl rfl ?_
                refine er_k (pc' := 69) (nI 6) rfl rfl rfl ?_
                refine er_cm_neF (pc' := 72) rfl (rfl) rfl ?_
                refine er_k (pc' := 73) (nI 1) rfl rfl rfl ?_
                refine er_goto rfl ?_
                refine er_loc (pc' := 79) (L' := [(4, _), (3, _), (0, _), (1, _), (2, _)]) rfl rfl rfl ?_
                refine er_loc (pc' := 81) rfl rfl rfl ?_
                refine er_if_eqF (pc' := 84) rfl (by decide +kernel) rfl ?_
                refine er_loc (pc' := 85) rfl rfl rfl ?_
                refine er_loc (pc' := 86) rfl rfl rfl ?_
                refine er_k (pc' := 87) (nI 1) rfl rfl rfl ?_
                refine er_cIi (pc' := 90) (rest := []) 12 rfl rfl rfl rfl rfl rfl (l_of1 _ X _ (by omega)) ?_
                refine er_goto rfl ?_
                refine er_iret rfl rfl ?_
                have e3 : sIsOf 6 w = true := by unfold sIsOf; rw [h63]; decide +kernel
                rw [if_pos h15, if_pos e3]
                exact RI_of rfl rfl
    · refine er_loc (pc' := 19) rfl rfl rfl ?_
      refine er_ldc (pc' := 21) (-1000000001) rfl rfl rfl rfl rfl ?_
      refine er_cIz (pc' := 24) (rest := []) 12 rfl rfl rfl rfl rfl rfl (l_rError1 _ _ _) ?_
      intro Z9
      refine er_iret rfl rfl ?_
      rw [if_neg (by rw [h15]; decide)]
      exact RI_of rfl rfl
set_option maxRecDepth 100000 in
set_option maxHeartbeats 4000000 in
theorem l_rLaw0 (d : Nat) (X Z : Nat → Nat → Int32) {T : Nat} (hI : RK T (X 64)) (p q r0 : Int32) : EC (d + 4) 164 [.ref 63, .int (nI 0), .int p, .int q, .int r0] (Wd X Z) (RI (sLastsBy (jm (X 64)) p q r0) X) := by
  refine er_enter (L := [(0, _), (1, _), (2, _), (3, _), (4, _)]) rfl rfl rfl ?_
  refine er_loc (pc' := 1) rfl rfl rfl ?_
  refine er_k (pc' := 2) (nI 0) rfl rfl rfl ?_
  refine er_k (pc' := 3) (nI 1) rfl rfl rfl ?_
  refine er_cSi (pc' := 6) (rest := []) rfl rfl rfl (l_in _ _ _ _ _) ?_
  rw [show sIn (nI 0) (nI 0) (nI 1) = true from by decide +kernel]
  refine er_if_eqF (pc' := 9) rfl (by decide +kernel) rfl ?_
  refine er_loc (pc' := 10) rfl rfl rfl ?_
  refine er_loc (pc' := 11) rfl rfl rfl ?_
  refine er_loc (pc' := 12) rfl rfl rfl ?_
  refine er_loc (pc' := 13) rfl rfl rfl ?_
  refine er_loc (pc' := 15) rfl rfl rfl ?_
  refine er_cIz (pc' := 18) (rest := []) 12 rfl rfl rfl rfl rfl rfl (l_rGives0 _ X _ hI _ _ _) ?_
  intro Z2
  refine er_goto rfl ?_
  refine er_iret rfl rfl ?_
  exact RI_of rfl rfl
set_option maxRecDepth 100000 in
set_option maxHeartbeats 4000000 in
theorem l_rLaw1 (d : Nat) (X Z : Nat → Nat → Int32) {T : Nat} (hI : RK T (X 64)) (p q r0 : Int32) : EC (d + 4) 164 [.ref 63, .int (nI 1), .int p, .int q, .int r0] (Wd X Z) (RI (sErrsBy (jm (X 64)) p q r0) X) := by
  refine er_enter (L := [(0, _), (1, _), (2, _), (3, _), (4, _)]) rfl rfl rfl ?_
  refine er_loc (pc' := 1) rfl rfl rfl ?_
  refine er_k (pc' := 2) (nI 0) rfl rfl rfl ?_
  refine er_k (pc' := 3) (nI 1) rfl rfl rfl ?_
  refine er_cSi (pc' := 6) (rest := []) rfl rfl rfl (l_in _ _ _ _ _) ?_
  rw [show sIn (nI 1) (nI 0) (nI 1) = true from by decide +kernel]
  refine er_if_eqF (pc' := 9) rfl (by decide +kernel) rfl ?_
  refine er_loc (pc' := 10) rfl rfl rfl ?_
  refine er_loc (pc' := 11) rfl rfl rfl ?_
  refine er_loc (pc' := 12) rfl rfl rfl ?_
  refine er_loc (pc' := 13) rfl rfl rfl ?_
  refine er_loc (pc' := 15) rfl rfl rfl ?_
  refine er_cIz (pc' := 18) (rest := []) 12 rfl rfl rfl rfl rfl rfl (l_rGives1 _ X _ hI _ _ _) ?_
  intro Z2
  refine er_goto rfl ?_
  refine er_iret rfl rfl ?_
  exact RI_of rfl rfl
theorem l_rLaw (d : Nat) (X Z : Nat → Nat → Int32) {T : Nat} (hI : RK T (X 64)) (u p q r0 : Int32) : EC (d + 4) 164 [.ref 63, .int u, .int p, .int q, .int r0] (Wd X Z) (fun r => if sUse u = true then (if u = 0 then RI (sLastsBy (jm (X 64)) p q r0) X r else RI (sErrsBy (jm (X 64)) p q r0) X r) else RI (sErr 1) (yErr X 1) r) := by
  by_cases hu : sUse u = true
  · have hu2 := hu
    unfold sUse at hu2
    simp only [Bool.or_eq_true, decide_eq_true_eq] at hu2
    rcases hu2 with e | e
    · subst e
      exact (l_rLaw0 d X Z hI p q r0).mono (fun r hr => by rw [if_pos hu, if_pos rfl]; exact hr)
    · subst e
      exact (l_rLaw1 d X Z hI p q r0).mono (fun r hr => by rw [if_pos hu, if_neg (by decide +kernel)]; exact hr)
  · refine EC.mono (P := RI (sErr 1) (yErr X 1)) ?_ (fun r hr => by rw [if_neg hu]; exact hr)
    have hw2 : sIn u (nI 0) (nI 1) = false := by rw [sIn_01]; simpa using hu
    refine er_enter (L := [(0, _), (1, _), (2, _), (3, _), (4, _)]) rfl rfl rfl ?_
    refine er_loc (pc' := 1) rfl rfl rfl ?_
    refine er_k (pc' := 2) (nI 0) rfl rfl rfl ?_
    refine er_k (pc' := 3) (nI 1) rfl rfl rfl ?_
    refine er_cSi (pc' := 6) (rest := []) rfl rfl rfl (l_in _ _ _ _ _) ?_
    rw [hw2]
    refine er_if_eqT rfl (by decide +kernel) ?_
    refine er_loc (pc' := 22) rfl rfl rfl ?_
    refine er_ldc (pc' := 24) (-1000000001) rfl rfl rfl rfl rfl ?_
    refine er_cIz (pc' := 27) (rest := []) 12 rfl rfl rfl rfl rfl rfl (l_rError1 _ _ _) ?_
    intro Z9
    refine er_iret rfl rfl ?_
    exact RI_of rfl rfl
set_option maxRecDepth 100000 in
set_option maxHeartbeats 4000000 in
theorem l_rDoes_no (d : Nat) (X Z : Nat → Nat → Int32) {T : Nat} (hI : RK T (X 64)) (s : Int32) (hs : jHas (jm (X 64)) s = false) : EC (d + 4) 165 [.ref 63, .int s] (Wd X Z) (RI (sErr 1) (yErr X 1)) := by
  refine er_enter (L := [(0, _), (1, _)]) rfl rfl rfl ?_
  refine er_loc (pc' := 1) rfl rfl rfl ?_
  refine er_loc (pc' := 2) rfl rfl rfl ?_
  refine er_cIi (pc' := 5) (rest := []) 12 rfl rfl rfl rfl rfl rfl (l_rHas_f _ X _ hI hs) ?_
  refine er_if_neF (pc' := 8) rfl (by decide +kernel) rfl ?_
  refine er_loc (pc' := 9) rfl rfl rfl ?_
  refine er_ldc (pc' := 11) (-1000000001) rfl rfl rfl rfl rfl ?_
  refine er_cIz (pc' := 14) (rest := []) 12 rfl rfl rfl rfl rfl rfl (l_rError1 _ _ _) ?_
  intro Z9
  refine er_iret rfl rfl ?_
  exact RI_of rfl rfl
set_option maxRecDepth 100000 in
set_option maxHeartbeats 4000000 in
theorem l_rUndo_no (d : Nat) (X Z : Nat → Nat → Int32) {T : Nat} (hI : RK T (X 64)) (s : Int32) (hs : jHas (jm (X 64)) s = false) : EC (d + 4) 168 [.ref 63, .int s] (Wd X Z) (RI (sErr 1) (yErr X 1)) := by
  refine er_enter (L := [(0, _), (1, _)]) rfl rfl rfl ?_
  refine er_loc (pc' := 1) rfl rfl rfl ?_
  refine er_loc (pc' := 2) rfl rfl rfl ?_
  refine er_cIi (pc' := 5) (rest := []) 12 rfl rfl rfl rfl rfl rfl (l_rHas_f _ X _ hI hs) ?_
  refine er_if_neF (pc' := 8) rfl (by decide +kernel) rfl ?_
  refine er_loc (pc' := 9) rfl rfl rfl ?_
  refine er_ldc (pc' := 11) (-1000000001) rfl rfl rfl rfl rfl ?_
  refine er_cIz (pc' := 14) (rest := []) 12 rfl rfl rfl rfl rfl rfl (l_rError1 _ _ _) ?_
  intro Z9
  refine er_iret rfl rfl ?_
  exact RI_of rfl rfl
set_option maxRecDepth 100000 in
set_option maxHeartbeats 4000000 in
theorem l_rDoes (d : Nat) (X Z : Nat → Nat → Int32) {T : Nat} (hI : RK T (X 64)) (hT : T < 2000000000) {k : Nat} (hk : k < jn (jm (X 64))) : EC (d + 6) 165 [.ref 63, .int (nI k)] (Wd X Z) (fun r => if sCan (jm (X 64)) k = true then RNJ (bI (sBit (jFin (jm (X 64)) k 0 7) (nI k))) (jFin (jm (X 64)) k) (T + 300) X r else RI (sErr 3) (yErr X 3) r) := by
  refine er_enter (L := [(0, _), (1, _)]) rfl rfl rfl ?_
  have h8 := jn8 hI.ij
  have hk8 : k < 8 := by omega
  have hq := kind7 hI.ij k
  refine er_loc (pc' := 1) rfl rfl rfl ?_
  refine er_loc (pc' := 2) rfl rfl rfl ?_
  refine er_cIi (pc' := 5) (rest := []) 12 rfl rfl rfl rfl rfl rfl (l_rHas_t _ X _ hI hk) ?_
  refine er_if_neT rfl (by decide +kernel) ?_
  refine er_loc (pc' := 16) rfl rfl rfl ?_
  refine er_loc (pc' := 17) rfl rfl rfl ?_
  refine er_cIi (pc' := 20) (rest := []) 12 rfl rfl rfl rfl rfl rfl (l_rMayDo _ X _ hI hk) ?_
  refine er_if_eqb (pc' := 23) rfl rfl (fun h20 => ?_) (fun h20 => ?_)
  · refine er_loc (pc' := 41) rfl rfl rfl ?_
    refine er_ldc (pc' := 43) (-1000000003) rfl rfl rfl rfl rfl ?_
    refine er_cIz (pc' := 46) (rest := []) 12 rfl rfl rfl rfl rfl rfl (l_rError3 _ _ _) ?_
    intro Z9
    refine er_iret rfl rfl ?_
    rw [if_neg (by unfold sCan; rw [h20]; simp)]
    exact RI_of rfl rfl
  · refine er_loc (pc' := 24) rfl rfl rfl ?_
    refine er_gf (pc' := 27) (_) rfl rfl rfl rfl rfl ?_
    refine er_k (pc' := 28) (nI 0) rfl rfl rfl ?_
    refine er_ia (pc' := 29) (0) rfl rfl rfl rfl (by omega) rfl rfl ?_
    refine er_loc (pc' := 30) rfl rfl rfl ?_
    refine er_loc (pc' := 31) rfl rfl rfl ?_
    refine er_cIz (pc' := 34) (rest := [_]) 12 rfl rfl rfl rfl rfl rfl (l_rLastsOf _ X _ hI (by omega) hk) ?_
    intro Z2
    refine er_iadd (pc' := 35) rfl rfl ?_
    refine er_ldc (pc' := 37) (99999) rfl rfl rfl rfl rfl ?_
    refine er_cm_le (pc' := 40) rfl rfl (fun h37 => ?_) (fun h37 => ?_)
    · refine er_loc (pc' := 48) rfl rfl rfl ?_
      refine er_loc (pc' := 49) rfl rfl rfl ?_
      refine er_cIw (pc' := 52) (rest := []) 12 rfl rfl rfl rfl rfl rfl (l_rIsDone _ _ _ hI hT h20) ?_
      intro X1 Z1 w1
      refine er_loc (pc' := 53) rfl rfl rfl ?_
      refine er_loc (pc' := 54) rfl rfl rfl ?_
      refine er_k (pc' := 55) (nI 5) rfl rfl rfl ?_
      refine er_cIi (pc' := 58) (rest := []) 12 rfl rfl rfl rfl rfl rfl (l_of5 _ _ _ w1.rk (by rw [w1.j]; exact hk)) ?_
      rw [w1.j]
      refine er_iret rfl rfl ?_
      have e : sCan (jm (X 64)) k = true := by unfold sCan; rw [h20, show jm (X 64) 0 10 = X 64 0 from rfl, decide_eq_false h37]; rfl
      rw [if_pos e]
      exact RNJ_of rfl w1
    · refine er_loc (pc' := 41) rfl rfl rfl ?_
      refine er_ldc (pc' := 43) (-1000000003) rfl rfl rfl rfl rfl ?_
      refine er_cIz (pc' := 46) (rest := []) 12 rfl rfl rfl rfl rfl rfl (l_rError3 _ _ _) ?_
      intro Z9
      refine er_iret rfl rfl ?_
      rw [if_neg (by unfold sCan; rw [show jm (X 64) 0 10 = X 64 0 from rfl, decide_eq_true h37]; simp)]
      exact RI_of rfl rfl
set_option maxRecDepth 100000 in
set_option maxHeartbeats 4000000 in
theorem l_rUndo (d : Nat) (X Z : Nat → Nat → Int32) {T : Nat} (hI : RK T (X 64)) (hT : T < 2000000000) {k : Nat} (hk : k < jn (jm (X 64))) : EC (d + 7) 168 [.ref 63, .int (nI k)] (Wd X Z) (fun r => if sCanU (jm (X 64)) k = true then RNJ (jApart (jm (X 64)) k 0 9) (jApart (jm (X 64)) k) (T + 300) X r else RI (sErr 3) (yErr X 3) r) := by
  refine er_enter (L := [(0, _), (1, _)]) rfl rfl rfl ?_
  have h8 := jn8 hI.ij
  have hk8 : k < 8 := by omega
  have hq := kind7 hI.ij k
  refine er_loc (pc' := 1) rfl rfl rfl ?_
  refine er_loc (pc' := 2) rfl rfl rfl ?_
  refine er_cIi (pc' := 5) (rest := []) 12 rfl rfl rfl rfl rfl rfl (l_rHas_t _ X _ hI hk) ?_
  refine er_if_neT rfl (by decide +kernel) ?_
  refine er_loc (pc' := 16) rfl rfl rfl ?_
  refine er_loc (pc' := 17) rfl rfl rfl ?_
  refine er_cIi (pc' := 20) (rest := []) 12 rfl rfl rfl rfl rfl rfl (l_rMayUn _ X _ hI hk) ?_
  refine er_if_eqb (pc' := 23) rfl rfl (fun h20 => ?_) (fun h20 => ?_)
  · refine er_loc (pc' := 41) rfl rfl rfl ?_
    refine er_ldc (pc' := 43) (-1000000003) rfl rfl rfl rfl rfl ?_
    refine er_cIz (pc' := 46) (rest := []) 12 rfl rfl rfl rfl rfl rfl (l_rError3 _ _ _) ?_
    intro Z9
    refine er_iret rfl rfl ?_
    rw [if_neg (by unfold sCanU; rw [h20]; simp)]
    exact RI_of rfl rfl
  · refine er_loc (pc' := 24) rfl rfl rfl ?_
    refine er_gf (pc' := 27) (_) rfl rfl rfl rfl rfl ?_
    refine er_k (pc' := 28) (nI 0) rfl rfl rfl ?_
    refine er_ia (pc' := 29) (0) rfl rfl rfl rfl (by omega) rfl rfl ?_
    refine er_loc (pc' := 30) rfl rfl rfl ?_
    refine er_loc (pc' := 31) rfl rfl rfl ?_
    refine er_cIz (pc' := 34) (rest := [_]) 12 rfl rfl rfl rfl rfl rfl (l_rBackOf _ X _ hI (by omega) hk) ?_
    intro Z2
    refine er_iadd (pc' := 35) rfl rfl ?_
    refine er_ldc (pc' := 37) (99999) rfl rfl rfl rfl rfl ?_
    refine er_cm_le (pc' := 40) rfl rfl (fun h37 => ?_) (fun h37 => ?_)
    · refine er_loc (pc' := 48) rfl rfl rfl ?_
      refine er_loc (pc' := 49) rfl rfl rfl ?_
      refine er_cIw (pc' := 52) (rest := []) 12 rfl rfl rfl rfl rfl rfl (l_rIsUndone _ _ _ hI hT hk) ?_
      intro X1 Z1 w1
      refine er_loc (pc' := 53) rfl rfl rfl ?_
      refine er_gf (pc' := 56) (_) rfl rfl rfl rfl rfl ?_
      refine er_k (pc' := 57) (nI 4) rfl rfl rfl ?_
      refine er_ia (pc' := 58) (4) rfl rfl rfl rfl (by omega) rfl rfl ?_
      refine er_iret rfl rfl ?_
      have e : sCanU (jm (X 64)) k = true := by unfold sCanU; rw [h20, show jm (X 64) 0 10 = X 64 0 from rfl, decide_eq_false h37]; rfl
      rw [if_pos e]
      exact RNJ_of (by rw [← w1.j]; rfl) w1
    · refine er_loc (pc' := 41) rfl rfl rfl ?_
      refine er_ldc (pc' := 43) (-1000000003) rfl rfl rfl rfl rfl ?_
      refine er_cIz (pc' := 46) (rest := []) 12 rfl rfl rfl rfl rfl rfl (l_rError3 _ _ _) ?_
      intro Z9
      refine er_iret rfl rfl ?_
      rw [if_neg (by unfold sCanU; rw [show jm (X 64) 0 10 = X 64 0 from rfl, decide_eq_true h37]; simp)]
      exact RI_of rfl rfl
set_option maxRecDepth 100000 in
set_option maxHeartbeats 4000000 in
theorem l_rSeed (d : Nat) (X Z : Nat → Nat → Int32) {T : Nat} (hI : RK T (X 64)) (v : Int32) : EC (d + 2) 199 [.ref 63, .int v] (Wd X Z) (RNJ (X 64 1) (ud (jm (X 64)) 0 17 v) T X) := by
  refine er_enter (L := [(0, _), (1, _)]) rfl rfl rfl ?_
  refine er_loc (pc' := 1) rfl rfl rfl ?_
  refine er_k (pc' := 2) (nI 1) rfl rfl rfl ?_
  refine er_loc (pc' := 3) rfl rfl rfl ?_
  refine er_cIz (pc' := 6) (rest := []) 12 rfl rfl rfl rfl rfl rfl (l_rBecomes _ _ _ (by omega) _) ?_
  intro Z2
  refine er_iret rfl rfl ?_
  exact RNJ_of rfl (wZ hI rfl rfl)
set_option maxRecDepth 100000 in
set_option maxHeartbeats 4000000 in
theorem l_rTell (d : Nat) (X Z : Nat → Nat → Int32) {T : Nat} (hI : RK T (X 64)) (v : Int32) (w : Nat) (hw : X 64 6 = nI w) (h20 : w ≤ 20) : EC (d + 3) 222 [.ref 63, .int v] (Wd X Z) (fun r => if w < 20 then RNJ (nI (w + 1)) (ud (ud (jm (X 64)) 10 w v) 0 16 (nI (w + 1))) T X r else RI (sErr 4) (yErr X 4) r) := by
  refine er_enter (L := [(0, _), (1, _)]) rfl rfl rfl ?_
  refine er_loc (pc' := 1) rfl rfl rfl ?_
  refine er_gf (pc' := 4) (_) rfl rfl rfl rfl rfl ?_
  refine er_k (pc' := 6) (nI 6) rfl rfl rfl ?_
  refine er_ia (pc' := 7) (6) rfl rfl rfl rfl (by omega) rfl rfl ?_
  rw [hw]
  refine er_k (pc' := 9) (nI 20) rfl rfl rfl ?_
  refine er_cm_ne (pc' := 12) rfl rfl (fun h9 => ?_) (fun h9 => ?_)
  · have hlt : w < 20 := by
      rcases Nat.lt_or_ge w 20 with h | h
      · exact h
      · exact absurd (show nI w = nI 20 by rw [show w = 20 by omega]) h9
    refine er_loc (pc' := 20) rfl rfl rfl ?_
    refine er_gf (pc' := 23) (_) rfl rfl rfl rfl rfl ?_
    refine er_k (pc' := 25) (nI 105) rfl rfl rfl ?_
    refine er_loc (pc' := 26) rfl rfl rfl ?_
    refine er_gf (pc' := 29) (_) rfl rfl rfl rfl rfl ?_
    refine er_k (pc' := 31) (nI 6) rfl rfl rfl ?_
    refine er_ia (pc' := 32) (6) rfl rfl rfl rfl (by omega) rfl rfl ?_
    rw [hw]
    refine er_iadd (pc' := 33) rfl rfl ?_
    refine er_loc (pc' := 34) rfl rfl rfl ?_
    refine er_isX (pc' := 35) (105 + w) rfl rfl (fun _ => rfl) (nI_add 105 w) (by omega) rfl rfl ?_
    refine er_loc (pc' := 36) rfl rfl rfl ?_
    refine er_gf (pc' := 39) (_) rfl rfl rfl rfl rfl ?_
    refine er_k (pc' := 41) (nI 6) rfl rfl rfl ?_
    refine er_pure (pc' := 42) rfl rfl rfl ?_
    refine er_ia (pc' := 43) (6) rfl rfl rfl rfl (by omega) rfl rfl ?_
    rw [show ud X 64 (105 + w) v 64 6 = nI w from by rw [ud_same, u1_ne (by omega)]; exact hw]
    refine er_k (pc' := 44) (nI 1) rfl rfl rfl ?_
    refine er_iadd (pc' := 45) rfl rfl ?_
    rw [nI_add w 1]
    refine er_isX (pc' := 46) (6) rfl rfl (fun _ => rfl) rfl (by omega) rfl rfl ?_
    refine er_loc (pc' := 47) rfl rfl rfl ?_
    refine er_gf (pc' := 50) (_) rfl rfl rfl rfl rfl ?_
    refine er_k (pc' := 52) (nI 6) rfl rfl rfl ?_
    refine er_ia (pc' := 53) (6) rfl rfl rfl rfl (by omega) rfl rfl ?_
    refine er_iret rfl rfl ?_
    rw [if_pos hlt]
    have h1 := wWait (v := v) hI rfl (show w < 20 from hlt) rfl
    have h2 := wWaits (p := 6) h1.rk h1.j (isN.of (show w + 1 ≤ 20 by omega) (by omega)) rfl
    exact RNJ_of rfl (h1.trans h2)
  · have hlt : ¬ w < 20 := by
      have := nIj (by omega) (by omega) h9
      omega
    refine er_loc (pc' := 13) rfl rfl rfl ?_
    refine er_ldc (pc' := 15) (-1000000004) rfl rfl rfl rfl rfl ?_
    refine er_cIz (pc' := 18) (rest := []) 12 rfl rfl rfl rfl rfl rfl (l_rError4 _ _ _) ?_
    intro Z9
    refine er_iret rfl rfl ?_
    rw [if_neg hlt]
    exact RI_of rfl rfl
set_option maxRecDepth 100000 in
set_option maxHeartbeats 4000000 in
theorem l_rTold (d : Nat) (X Z : Nat → Nat → Int32) (k : Int32) : EC (d + 3) 225 [.ref 63, .int k] (Wd X Z) (fun r => if sIn k (nI 1) (nI 5) = true then RI (X 67 (nN k)) X r else RI (sErr 1) (yErr X 1) r) := by
  refine er_enter (L := [(0, _), (1, _)]) rfl rfl rfl ?_
  refine er_loc (pc' := 1) rfl rfl rfl ?_
  refine er_k (pc' := 2) (nI 1) rfl rfl rfl ?_
  refine er_k (pc' := 3) (nI 5) rfl rfl rfl ?_
  refine er_cSi (pc' := 6) (rest := []) rfl rfl rfl (l_in _ _ _ _ _) ?_
  refine er_if_eqb (pc' := 9) rfl rfl (fun h6 => ?_) (fun h6 => ?_)
  · refine er_loc (pc' := 19) rfl rfl rfl ?_
    refine er_ldc (pc' := 21) (-1000000001) rfl rfl rfl rfl rfl ?_
    refine er_cIz (pc' := 24) (rest := []) 12 rfl rfl rfl rfl rfl rfl (l_rError1 _ _ _) ?_
    intro Z9
    refine er_iret rfl rfl ?_
    rw [if_neg (by rw [h6]; decide)]
    exact RI_of rfl rfl
  · obtain ⟨j, h1j, h5j, hj⟩ := sIn_ex (by omega) (by omega) h6
    have hj2 : nN k = j := by rw [hj]; exact nN_nI (by omega)
    have hkn : k = nI (nN k) := by rw [hj2, hj]
    refine er_loc (pc' := 10) rfl rfl rfl ?_
    refine er_gf (pc' := 13) (_) rfl rfl rfl rfl rfl ?_
    refine er_loc (pc' := 14) rfl rfl rfl ?_
    refine er_ia (pc' := 15) (nN k) rfl rfl rfl hkn (by omega) rfl rfl ?_
    refine er_goto rfl ?_
    refine er_iret rfl rfl ?_
    rw [if_pos h6]
    exact RI_of rfl rfl
end
section
/-! THE REFERENCE, its face: counts, next, left, odds, loose, the tape -/
theorem set_n {x : Int32} {n : Nat} (hn : n ≤ 8) (h : ∀ i, bt x i = true → i < n) : ∃ j, j < 2 ^ n ∧ x = nI j := by
  refine ⟨x.toBitVec.toNat, ?_, ?_⟩
  · apply Nat.lt_pow_two_of_testBit
    intro i hi
    cases hb : x.toBitVec.toNat.testBit i with
    | false => rfl
    | true =>
      have := h i (by unfold bt; exact hb)
      omega
  · apply Int32.toBitVec_inj.mp
    show _ = (Int32.ofNat _).toBitVec
    rw [Int32.toBitVec_ofNat']
    simp
theorem fin256 {k : Nat} (h : k < 256) {p : Nat → Prop} (hp : ∀ i : Fin 256, p i.val) : p k := hp ⟨k, h⟩
theorem bits_step {j : Nat} (h : j < 256) : j ≠ 0 → (nI j &&& (nI j - nI 1)) = nI (nN (nI j &&& (nI j - nI 1))) ∧ nN (nI j &&& (nI j - nI 1)) < j ∧ sPop (nI j) = nI 1 + sPop (nI (nN (nI j &&& (nI j - nI 1)))) :=
  fin256 (p := fun j => j ≠ 0 → (nI j &&& (nI j - nI 1)) = nI (nN (nI j &&& (nI j - nI 1))) ∧ nN (nI j &&& (nI j - nI 1)) < j ∧ sPop (nI j) = nI 1 + sPop (nI (nN (nI j &&& (nI j - nI 1))))) h (by decide +kernel)
theorem pop_or {n : Nat} (hn : n < 8) {j : Nat} (hj : j < 2 ^ n) : sPop (nI j ||| (nI 1 <<< (nI n &&& 31))) = sPop (nI j) + nI 1 := by
  have h : ∀ n : Fin 8, ∀ j : Fin 256, j.val < 2 ^ n.val → sPop (nI j.val ||| (nI 1 <<< (nI n.val &&& 31))) = sPop (nI j.val) + nI 1 := by decide +kernel
  have hp := Nat.pow_le_pow_right (show 0 < 2 by omega) (show n ≤ 8 by omega)
  exact h ⟨n, hn⟩ ⟨j, by omega⟩ hj
theorem or_0 (x : Int32) : x ||| nI 0 = x := by
  apply bt_ext
  intro i _
  rw [bt_or, bt_0, Bool.or_false]
theorem rB_lt {R : Nat → Int32} {p n : Nat} (hn : n ≤ 8) (hf : ∀ i, i < n → fl (R (p + 6 * i))) : ∀ i, bt (rB R p n) i = true → i < n := by
  intro i hi
  rw [bt_rB hn hf, Bool.and_eq_true, decide_eq_true_eq] at hi
  exact hi.1
theorem rS_pop {R : Nat → Int32} {p : Nat} : ∀ {n : Nat}, n ≤ 8 → (∀ i, i < n → fl (R (p + 6 * i))) → rS R p n = sPop (rB R p n)
  | 0, _, _ => (by decide +kernel : nI 0 = sPop (nI 0))
  | n + 1, hn, hf => by
    have hf2 : ∀ i, i < n → fl (R (p + 6 * i)) := fun i hi => hf i (by omega)
    show rS R p n + R (p + 6 * n) = sPop (rB R p n ||| (R (p + 6 * n) <<< (nI n &&& 31)))
    rw [rS_pop (by omega) hf2]
    obtain ⟨j, hj, e⟩ := set_n (by omega) (rB_lt (show n ≤ 8 by omega) hf2)
    rcases hf n (by omega) with h | h
    · rw [h, sh0 (by omega), or_0, show ∀ x : Int32, x + nI 0 = x from fun x => Int32.add_zero x]
    · rw [h, e, pop_or (by omega) hj]
set_option maxRecDepth 100000 in
set_option maxHeartbeats 4000000 in
theorem l_bits_loop (d : Nat) (w : ab_W) (s : Int32) : ∀ (m j : Nat), j ≤ m → j < 256 → ∀ (a : Int32), ER (d + 1) tb_m179 4 [(0, .int s), (1, .int a), (2, .int (nI j))] [] w (PI (a + sPop (nI j)) w)
  | 0, j, hm, h, a => by
    have hj : j = 0 := by omega
    subst hj
    refine er_loc (pc' := 5) rfl rfl rfl ?_
    refine er_if_eqT rfl (rfl) ?_
    refine er_loc (pc' := 21) rfl rfl rfl ?_
    refine er_iret rfl rfl ?_
    exact PI_of (by rw [show sPop (nI 0) = nI 0 from by decide +kernel]; exact (Int32.add_zero _).symm)
  | m + 1, j, hm, h, a => by
    by_cases h0 : j = 0
    · subst h0
      refine er_loc (pc' := 5) rfl rfl rfl ?_
      refine er_if_eqT rfl (rfl) ?_
      refine er_loc (pc' := 21) rfl rfl rfl ?_
      refine er_iret rfl rfl ?_
      exact PI_of (by rw [show sPop (nI 0) = nI 0 from by decide +kernel]; exact (Int32.add_zero _).symm)
    · obtain ⟨b1, b2, b3⟩ := bits_step h h0
      have h0j : ¬ nI j = 0 := fun hh => h0 (nIj (by omega) (by omega) (show nI j = nI 0 from hh))
      refine er_loc (pc' := 5) rfl rfl rfl ?_
      refine er_if_eqF (pc' := 8) rfl (h0j) rfl ?_
      refine er_loc (L' := [(1, .int (_ + nI 1)), (0, _), (2, _)]) rfl rfl rfl ?_
      refine er_loc (pc' := 12) rfl rfl rfl ?_
      refine er_loc (pc' := 13) rfl rfl rfl ?_
      refine er_k (pc' := 14) (nI 1) rfl rfl rfl ?_
      refine er_isub (pc' := 15) rfl rfl ?_
      refine er_iand (pc' := 16) rfl rfl ?_
      refine er_loc (pc' := 17) (L' := [(2, _), (1, _), (0, _)]) rfl rfl rfl ?_
      refine er_goto rfl ?_
      refine ER_loc [(0, _), (1, _), (2, _)] rfl (List.forall_mem_cons.mpr ⟨rfl, List.forall_mem_cons.mpr ⟨rfl, List.forall_mem_cons.mpr ⟨rfl, fun _ h => absurd h List.not_mem_nil⟩⟩⟩) rfl rfl ?_
      rw [b1, b3, ← Int32.add_assoc]
      exact l_bits_loop d w s m _ (by omega) (by omega) _
set_option maxRecDepth 100000 in
set_option maxHeartbeats 4000000 in
theorem l_rBits (d : Nat) (w : ab_W) {j : Nat} (h : j < 256) : EC (d + 2) 179 [.int (nI j)] w (PI (sPop (nI j)) w) := by
  have e : sPop (nI j) = nI 0 + sPop (nI j) := (Int32.zero_add _).symm
  rw [e]
  refine er_enter (L := [(0, _)]) rfl rfl rfl ?_
  refine er_k (pc' := 1) (nI 0) rfl rfl rfl ?_
  refine er_loc (pc' := 2) (L' := [(1, _), (0, _)]) rfl rfl rfl ?_
  refine er_loc (pc' := 3) rfl rfl rfl ?_
  refine er_loc (pc' := 4) (L' := [(2, _), (1, _), (0, _)]) rfl rfl rfl ?_
  refine ER_loc [(0, _), (1, _), (2, _)] rfl (List.forall_mem_cons.mpr ⟨rfl, List.forall_mem_cons.mpr ⟨rfl, List.forall_mem_cons.mpr ⟨rfl, fun _ h => absurd h List.not_mem_nil⟩⟩⟩) rfl rfl ?_
  exact l_bits_loop d w _ j j (Nat.le_refl _) h _
theorem l_rBitsD (d : Nat) (w : ab_W) {T : Nat} {J : Nat → Nat → Int32} (hI : IJ T J) : EC (d + 2) 179 [.int (J 0 6)] w (PI (sPop (J 0 6)) w) := by
  have h8 := jn8 hI
  obtain ⟨j, hj, e⟩ := set_n (Nat.le_refl 8) (fun i hi => Nat.lt_of_lt_of_le (hI.done i hi) h8)
  rw [e]
  exact l_rBits d w hj
theorem l_rWrongsJ (d : Nat) (X Z : Nat → Nat → Int32) {T : Nat} (hI : RK T (X 64)) : EC (d + 2) 180 [.ref 63] (Wd X Z) (PI (sPop (jm (X 64) 0 7)) (Wd X Z)) := by
  have h := l_rWrongs d X Z hI.n hI.n8
  rw [rS_pop (n := jn (jm (X 64))) hI.n8 (fun i hi => hI.fW (by have := jn8 hI.ij; omega))] at h
  exact h
set_option maxRecDepth 100000 in
set_option maxHeartbeats 4000000 in
theorem l_rCount0 (d : Nat) (X Z : Nat → Nat → Int32) {T : Nat} (hI : RK T (X 64)) (hT : T < 2000000000) : EC (d + 3) 224 [.ref 63, .int (nI 0)] (Wd X Z) (RI (jm (X 64) 0 1) X) := by
  refine er_enter (L := [(0, _), (1, _)]) rfl rfl rfl ?_
  refine er_loc (pc' := 1) rfl rfl rfl ?_
  refine er_swT (0) rfl (by decide +kernel) rfl ?_
  refine er_loc (pc' := 61) rfl rfl rfl ?_
  refine er_gf (pc' := 64) (_) rfl rfl rfl rfl rfl ?_
  refine er_k (pc' := 65) (nI 2) rfl rfl rfl ?_
  refine er_ia (pc' := 66) (2) rfl rfl rfl rfl (by omega) rfl rfl ?_
  refine er_iret rfl rfl ?_
  exact RI_of rfl rfl
set_option maxRecDepth 100000 in
set_option maxHeartbeats 4000000 in
theorem l_rCount1 (d : Nat) (X Z : Nat → Nat → Int32) {T : Nat} (hI : RK T (X 64)) (hT : T < 2000000000) : EC (d + 3) 224 [.ref 63, .int (nI 1)] (Wd X Z) (RI (sPop (jm (X 64) 0 6)) X) := by
  refine er_enter (L := [(0, _), (1, _)]) rfl rfl rfl ?_
  refine er_loc (pc' := 1) rfl rfl rfl ?_
  refine er_swT (1) rfl (by decide +kernel) rfl ?_
  refine er_loc (pc' := 68) rfl rfl rfl ?_
  refine er_cIi (pc' := 71) (rest := []) 12 rfl rfl rfl rfl rfl rfl (l_rDone _ X _ (n := jn (jm (X 64))) hI.n hI.n8) ?_
  rw [show rB (X 64) 11 (jn (jm (X 64))) = jm (X 64) 0 6 from rfl]
  refine er_cSi (pc' := 74) (rest := []) rfl rfl rfl (l_rBitsD _ _ hI.ij) ?_
  refine er_iret rfl rfl ?_
  exact RI_of rfl rfl
set_option maxRecDepth 100000 in
set_option maxHeartbeats 4000000 in
theorem l_rCount2 (d : Nat) (X Z : Nat → Nat → Int32) {T : Nat} (hI : RK T (X 64)) (hT : T < 2000000000) : EC (d + 3) 224 [.ref 63, .int (nI 2)] (Wd X Z) (RI (sPop (jm (X 64) 0 7)) X) := by
  refine er_enter (L := [(0, _), (1, _)]) rfl rfl rfl ?_
  refine er_loc (pc' := 1) rfl rfl rfl ?_
  refine er_swT (2) rfl (by decide +kernel) rfl ?_
  refine er_loc (pc' := 76) rfl rfl rfl ?_
  refine er_cIi (pc' := 79) (rest := []) 12 rfl rfl rfl rfl rfl rfl (l_rWrongsJ _ X _ hI) ?_
  refine er_iret rfl rfl ?_
  exact RI_of rfl rfl
set_option maxRecDepth 100000 in
set_option maxHeartbeats 4000000 in
theorem l_rCount3 (d : Nat) (X Z : Nat → Nat → Int32) {T : Nat} (hI : RK T (X 64)) (hT : T < 2000000000) : EC (d + 3) 224 [.ref 63, .int (nI 3)] (Wd X Z) (RI (jm (X 64) 0 9) X) := by
  refine er_enter (L := [(0, _), (1, _)]) rfl rfl rfl ?_
  refine er_loc (pc' := 1) rfl rfl rfl ?_
  refine er_swT (3) rfl (by decide +kernel) rfl ?_
  refine er_loc (pc' := 81) rfl rfl rfl ?_
  refine er_gf (pc' := 84) (_) rfl rfl rfl rfl rfl ?_
  refine er_k (pc' := 85) (nI 4) rfl rfl rfl ?_
  refine er_ia (pc' := 86) (4) rfl rfl rfl rfl (by omega) rfl rfl ?_
  refine er_iret rfl rfl ?_
  exact RI_of rfl rfl
set_option maxRecDepth 100000 in
set_option maxHeartbeats 4000000 in
theorem l_rCount4 (d : Nat) (X Z : Nat → Nat → Int32) {T : Nat} (hI : RK T (X 64)) (hT : T < 2000000000) : EC (d + 3) 224 [.ref 63, .int (nI 4)] (Wd X Z) (RI (jm (X 64) 0 8) X) := by
  refine er_enter (L := [(0, _), (1, _)]) rfl rfl rfl ?_
  refine er_loc (pc' := 1) rfl rfl rfl ?_
  refine er_swT (4) rfl (by decide +kernel) rfl ?_
  refine er_loc (pc' := 88) rfl rfl rfl ?_
  refine er_gf (pc' := 91) (_) rfl rfl rfl rfl rfl ?_
  refine er_k (pc' := 92) (nI 3) rfl rfl rfl ?_
  refine er_ia (pc' := 93) (3) rfl rfl rfl rfl (by omega) rfl rfl ?_
  refine er_iret rfl rfl ?_
  exact RI_of rfl rfl
set_option maxRecDepth 100000 in
set_option maxHeartbeats 4000000 in
theorem l_rCount5 (d : Nat) (X Z : Nat → Nat → Int32) {T : Nat} (hI : RK T (X 64)) (hT : T < 2000000000) : EC (d + 3) 224 [.ref 63, .int (nI 5)] (Wd X Z) (RI (jm (X 64) 0 10) X) := by
  refine er_enter (L := [(0, _), (1, _)]) rfl rfl rfl ?_
  refine er_loc (pc' := 1) rfl rfl rfl ?_
  refine er_swT (5) rfl (by decide +kernel) rfl ?_
  refine er_loc (pc' := 95) rfl rfl rfl ?_
  refine er_gf (pc' := 98) (_) rfl rfl rfl rfl rfl ?_
  refine er_k (pc' := 99) (nI 0) rfl rfl rfl ?_
  refine er_ia (pc' := 100) (0) rfl rfl rfl rfl (by omega) rfl rfl ?_
  refine er_iret rfl rfl ?_
  exact RI_of rfl rfl
set_option maxRecDepth 100000 in
set_option maxHeartbeats 4000000 in
theorem l_rCount6 (d : Nat) (X Z : Nat → Nat → Int32) {T : Nat} (hI : RK T (X 64)) (hT : T < 2000000000) : EC (d + 3) 224 [.ref 63, .int (nI 6)] (Wd X Z) (RI (sTired (jm (X 64))) X) := by
  refine er_enter (L := [(0, _), (1, _)]) rfl rfl rfl ?_
  refine er_loc (pc' := 1) rfl rfl rfl ?_
  refine er_swT (6) rfl (by decide +kernel) rfl ?_
  refine er_loc (pc' := 102) rfl rfl rfl ?_
  refine er_cIi (pc' := 105) (rest := []) 12 rfl rfl rfl rfl rfl rfl (l_rTiredJ _ X _ hI (by omega)) ?_
  refine er_iret rfl rfl ?_
  exact RI_of rfl rfl
set_option maxRecDepth 100000 in
set_option maxHeartbeats 4000000 in
theorem l_rCount7 (d : Nat) (X Z : Nat → Nat → Int32) {T : Nat} (hI : RK T (X 64)) (hT : T < 2000000000) : EC (d + 3) 224 [.ref 63, .int (nI 7)] (Wd X Z) (RI (jm (X 64) 0 14) X) := by
  refine er_enter (L := [(0, _), (1, _)]) rfl rfl rfl ?_
  refine er_loc (pc' := 1) rfl rfl rfl ?_
  refine er_swT (7) rfl (by decide +kernel) rfl ?_
  refine er_loc (pc' := 107) rfl rfl rfl ?_
  refine er_gf (pc' := 110) (_) rfl rfl rfl rfl rfl ?_
  refine er_k (pc' := 111) (nI 5) rfl rfl rfl ?_
  refine er_ia (pc' := 112) (5) rfl rfl rfl rfl (by omega) rfl rfl ?_
  refine er_iret rfl rfl ?_
  exact RI_of rfl rfl
set_option maxRecDepth 100000 in
set_option maxHeartbeats 4000000 in
theorem l_rCount8 (d : Nat) (X Z : Nat → Nat → Int32) {T : Nat} (hI : RK T (X 64)) (hT : T < 2000000000) : EC (d + 3) 224 [.ref 63, .int (nI 8)] (Wd X Z) (RI (jm (X 64) 0 16) X) := by
  refine er_enter (L := [(0, _), (1, _)]) rfl rfl rfl ?_
  refine er_loc (pc' := 1) rfl rfl rfl ?_
  refine er_swT (8) rfl (by decide +kernel) rfl ?_
  refine er_loc (pc' := 114) rfl rfl rfl ?_
  refine er_gf (pc' := 117) (_) rfl rfl rfl rfl rfl ?_
  refine er_k (pc' := 119) (nI 6) rfl rfl rfl ?_
  refine er_ia (pc' := 120) (6) rfl rfl rfl rfl (by omega) rfl rfl ?_
  refine er_iret rfl rfl ?_
  exact RI_of rfl rfl
set_option maxRecDepth 100000 in
set_option maxHeartbeats 4000000 in
theorem l_rCount9 (d : Nat) (X Z : Nat → Nat → Int32) {T : Nat} (hI : RK T (X 64)) (hT : T < 2000000000) : EC (d + 3) 224 [.ref 63, .int (nI 9)] (Wd X Z) (RI (X 63 21) X) := by
  refine er_enter (L := [(0, _), (1, _)]) rfl rfl rfl ?_
  refine er_loc (pc' := 1) rfl rfl rfl ?_
  refine er_swT (9) rfl (by decide +kernel) rfl ?_
  refine er_loc (pc' := 122) rfl rfl rfl ?_
  refine er_gf (pc' := 125) (.int (X 63 21)) rfl rfl rfl rfl rfl ?_
  refine er_iret rfl rfl ?_
  exact RI_of rfl rfl
set_option maxRecDepth 100000 in
set_option maxHeartbeats 4000000 in
theorem l_rCount10 (d : Nat) (X Z : Nat → Nat → Int32) {T : Nat} (hI : RK T (X 64)) (hT : T < 2000000000) : EC (d + 3) 224 [.ref 63, .int (nI 10)] (Wd X Z) (RI (jm (X 64) 0 17) X) := by
  refine er_enter (L := [(0, _), (1, _)]) rfl rfl rfl ?_
  refine er_loc (pc' := 1) rfl rfl rfl ?_
  refine er_swT (10) rfl (by decide +kernel) rfl ?_
  refine er_loc (pc' := 127) rfl rfl rfl ?_
  refine er_gf (pc' := 130) (_) rfl rfl rfl rfl rfl ?_
  refine er_k (pc' := 131) (nI 1) rfl rfl rfl ?_
  refine er_ia (pc' := 132) (1) rfl rfl rfl rfl (by omega) rfl rfl ?_
  refine er_iret rfl rfl ?_
  exact RI_of rfl rfl
theorem l_rCount (d : Nat) (X Z : Nat → Nat → Int32) {T : Nat} (hI : RK T (X 64)) (hT : T < 2000000000) (w : Int32) : EC (d + 3) 224 [.ref 63, .int w] (Wd X Z) (fun r => if sIn w (nI 0) (nI 10) = true then RI (sCnt (jm (X 64)) (X 63 21) w) X r else RI (sErr 1) (yErr X 1) r) := by
  by_cases hw : sIn w (nI 0) (nI 10) = true
  · refine EC.mono (P := RI (sCnt (jm (X 64)) (X 63 21) w) X) ?_ (fun r hr => by rw [if_pos hw]; exact hr)
    obtain ⟨j, _, h2, rfl⟩ := sIn_ex (by omega) (by omega) hw
    have : j = 0 ∨ j = 1 ∨ j = 2 ∨ j = 3 ∨ j = 4 ∨ j = 5 ∨ j = 6 ∨ j = 7 ∨ j = 8 ∨ j = 9 ∨ j = 10 := by omega
    rcases this with rfl | rfl | rfl | rfl | rfl | rfl | rfl | rfl | rfl | rfl | rfl
    · exact l_rCount0 d X Z hI hT
    · exact l_rCount1 d X Z hI hT
    · exact l_rCount2 d X Z hI hT
    · exact l_rCount3 d X Z hI hT
    · exact l_rCount4 d X Z hI hT
    · exact l_rCount5 d X Z hI hT
    · exact l_rCount6 d X Z hI hT
    · exact l_rCount7 d X Z hI hT
    · exact l_rCount8 d X Z hI hT
    · exact l_rCount9 d X Z hI hT
    · exact l_rCount10 d X Z hI hT
  · refine EC.mono (P := RI (sErr 1) (yErr X 1)) ?_ (fun r hr => by rw [if_neg hw]; exact hr)
    have hw2 : sIn w (nI 0) (nI 10) = false := by simpa using hw
    refine er_enter (L := [(0, _), (1, _)]) rfl rfl rfl ?_
    refine er_loc (pc' := 1) rfl rfl rfl ?_
    refine er_sw (0) rfl rfl (fun s1_0 => ?_) (fun s1_0 => ?_)
    · exfalso; subst s1_0; exact absurd hw2 (by decide +kernel)
    refine er_sw (1) rfl rfl (fun s1_1 => ?_) (fun s1_1 => ?_)
    · exfalso; subst s1_1; exact absurd hw2 (by decide +kernel)
    refine er_sw (2) rfl rfl (fun s1_2 => ?_) (fun s1_2 => ?_)
    · exfalso; subst s1_2; exact absurd hw2 (by decide +kernel)
    refine er_sw (3) rfl rfl (fun s1_3 => ?_) (fun s1_3 => ?_)
    · exfalso; subst s1_3; exact absurd hw2 (by decide +kernel)
    refine er_sw (4) rfl rfl (fun s1_4 => ?_) (fun s1_4 => ?_)
    · exfalso; subst s1_4; exact absurd hw2 (by decide +kernel)
    refine er_sw (5) rfl rfl (fun s1_5 => ?_) (fun s1_5 => ?_)
    · exfalso; subst s1_5; exact absurd hw2 (by decide +kernel)
    refine er_sw (6) rfl rfl (fun s1_6 => ?_) (fun s1_6 => ?_)
    · exfalso; subst s1_6; exact absurd hw2 (by decide +kernel)
    refine er_sw (7) rfl rfl (fun s1_7 => ?_) (fun s1_7 => ?_)
    · exfalso; subst s1_7; exact absurd hw2 (by decide +kernel)
    refine er_sw (8) rfl rfl (fun s1_8 => ?_) (fun s1_8 => ?_)
    · exfalso; subst s1_8; exact absurd hw2 (by decide +kernel)
    refine er_sw (9) rfl rfl (fun s1_9 => ?_) (fun s1_9 => ?_)
    · exfalso; subst s1_9; exact absurd hw2 (by decide +kernel)
    refine er_sw (10) rfl rfl (fun s1_10 => ?_) (fun s1_10 => ?_)
    · exfalso; subst s1_10; exact absurd hw2 (by decide +kernel)
    refine er_tsD [0, 1, 2, 3, 4, 5, 6, 7, 8, 9, 10] rfl rfl rfl rfl (List.forall_mem_cons.mpr ⟨ne_toInt s1_0 rfl, List.forall_mem_cons.mpr ⟨ne_toInt s1_1 rfl, List.forall_mem_cons.mpr ⟨ne_toInt s1_2 rfl, List.forall_mem_cons.mpr ⟨ne_toInt s1_3 rfl, List.forall_mem_cons.mpr ⟨ne_toInt s1_4 rfl, List.forall_mem_cons.mpr ⟨ne_toInt s1_5 rfl, List.forall_mem_cons.mpr ⟨ne_toInt s1_6 rfl, List.forall_mem_cons.mpr ⟨ne_toInt s1_7 rfl, List.forall_mem_cons.mpr ⟨ne_toInt s1_8 rfl, List.forall_mem_cons.mpr ⟨ne_toInt s1_9 rfl, List.forall_mem_cons.mpr ⟨ne_toInt s1_10 rfl, fun _ h => absurd h List.not_mem_nil⟩⟩⟩⟩⟩⟩⟩⟩⟩⟩⟩) ?_
    refine er_loc (pc' := 134) rfl rfl rfl ?_
    refine er_ldc (pc' := 136) (-1000000001) rfl rfl rfl rfl rfl ?_
    refine er_cIz (pc' := 139) (rest := []) 12 rfl rfl rfl rfl rfl rfl (l_rError1 _ _ _) ?_
    intro Z9
    refine er_iret rfl rfl ?_
    exact RI_of rfl rfl
theorem bt_sSetOf {p : Nat → Bool} : ∀ {n : Nat}, n ≤ 8 → ∀ i, bt (sSetOf p n) i = (decide (i < n) && p i)
  | 0, _, i => by
    rw [show sSetOf p 0 = nI 0 from rfl, bt_0, decide_eq_false (by omega)]
    rfl
  | n + 1, hn, i => by
    rw [show sSetOf p (n + 1) = sWith (sSetOf p n) (nI n) (p n) from rfl, bt_with (by omega), bt_sSetOf (by omega) i]
    by_cases h : i = n
    · subst h
      rw [if_pos rfl, decide_eq_true (Nat.lt_succ_self i)]
      rfl
    · rw [if_neg h, decide_eq_decide.mpr (show i < n + 1 ↔ i < n by omega)]
theorem or_set {p : Nat → Bool} {i : Nat} (h : i < 8) : sSetOf p i ||| (if p i = true then nI 1 <<< (nI i &&& 31) else nI 0) = sSetOf p (i + 1) := by
  apply bt_ext
  intro j _
  rw [bt_or, bt_sSetOf (by omega), bt_sSetOf (by omega)]
  cases hp : p i with
  | true =>
    rw [if_pos rfl, bt_one (by omega)]
    by_cases hj : j = i
    · subst hj
      rw [hp, decide_eq_true rfl, decide_eq_true (Nat.lt_succ_self j)]
      simp
    · rw [decide_eq_decide.mpr (show j < i + 1 ↔ j < i by omega), decide_eq_false hj, Bool.or_false]
  | false =>
    rw [if_neg (by decide), bt_0, Bool.or_false]
    by_cases hj : j = i
    · subst hj
      rw [hp, Bool.and_false, Bool.and_false]
    · rw [decide_eq_decide.mpr (show j < i + 1 ↔ j < i by omega)]
set_option maxRecDepth 100000 in
set_option maxHeartbeats 4000000 in
theorem l_rMays_loop (d : Nat) (X Z : Nat → Nat → Int32) {T : Nat} (hI : RK T (X 64)) : ∀ (m i : Nat) (x : Int32) (v : Int32), i + m = jn (jm (X 64)) → x = nI i → v = sSetOf (sMayDo (jm (X 64))) i → ER (d + 3) tb_m174 4 [(0, .ref 63), (1, .int v), (2, .int x)] [] (Wd X Z) (PI (sSetOf (sMayDo (jm (X 64))) (jn (jm (X 64)))) (Wd X Z))
  | 0, i, x, v, hi, h0, h1 => by
    have hi0 : i = jn (jm (X 64)) := by omega
    subst h0
    subst h1
    have h8 := jn8 hI.ij
    subst hi0
    refine er_loc (pc' := 5) rfl rfl rfl ?_
    refine er_loc (pc' := 6) rfl rfl rfl ?_
    refine er_gf (pc' := 9) (_) rfl rfl rfl rfl rfl ?_
    refine er_k (pc' := 10) (nI 2) rfl rfl rfl ?_
    refine er_ia (pc' := 11) (2) rfl rfl rfl rfl (by omega) rfl rfl ?_
    rw [hI.n]
    refine er_cm_geT rfl (nI_nlt (by omega) (by omega)) ?_
    refine er_loc (pc' := 39) rfl rfl rfl ?_
    refine er_iret rfl rfl ?_
    exact PI_of rfl
  | m + 1, i, x, v, hi, h0, h1 => by
    subst h0
    subst h1
    have h8 := jn8 hI.ij
    refine er_loc (pc' := 5) rfl rfl rfl ?_
    refine er_loc (pc' := 6) rfl rfl rfl ?_
    refine er_gf (pc' := 9) (_) rfl rfl rfl rfl rfl ?_
    refine er_k (pc' := 10) (nI 2) rfl rfl rfl ?_
    refine er_ia (pc' := 11) (2) rfl rfl rfl rfl (by omega) rfl rfl ?_
    rw [hI.n]
    refine er_cm_geF (pc' := 14) rfl (nI_lt (by omega) (by omega)) rfl ?_
    refine er_loc (pc' := 15) rfl rfl rfl ?_
    refine er_loc (pc' := 16) rfl rfl rfl ?_
    refine er_loc (pc' := 17) rfl rfl rfl ?_
    refine er_cIi (pc' := 20) (rest := [_]) 12 rfl rfl rfl rfl rfl rfl (l_rMayDo _ X _ hI (by omega)) ?_
    refine er_if_eqb (pc' := 23) rfl rfl (fun h20 => ?_) (fun h20 => ?_)
    · refine er_k (nI 0) rfl rfl rfl ?_
      refine er_ior rfl rfl ?_
      refine er_loc (L' := [(1, _), (0, _), (2, _)]) rfl rfl rfl ?_
      refine er_loc (L' := [(2, .int (_ + nI 1)), (1, _), (0, _)]) rfl rfl rfl ?_
      refine er_goto rfl ?_
      refine ER_loc [(0, _), (1, _), (2, _)] rfl (List.forall_mem_cons.mpr ⟨rfl, List.forall_mem_cons.mpr ⟨rfl, List.forall_mem_cons.mpr ⟨rfl, fun _ h => absurd h List.not_mem_nil⟩⟩⟩) rfl rfl ?_
      refine l_rMays_loop d X Z hI m (i + 1) _ _ (by omega) (nI_add i 1) ?_
      rw [← or_set (by omega), if_neg (by rw [h20]; decide)]
    · refine er_k (nI 1) rfl rfl rfl ?_
      refine er_loc (pc' := 25) rfl rfl rfl ?_
      refine er_ishl (pc' := 26) rfl rfl ?_
      refine er_goto rfl ?_
      refine er_ior rfl rfl ?_
      refine er_loc (L' := [(1, _), (0, _), (2, _)]) rfl rfl rfl ?_
      refine er_loc (L' := [(2, .int (_ + nI 1)), (1, _), (0, _)]) rfl rfl rfl ?_
      refine er_goto rfl ?_
      refine ER_loc [(0, _), (1, _), (2, _)] rfl (List.forall_mem_cons.mpr ⟨rfl, List.forall_mem_cons.mpr ⟨rfl, List.forall_mem_cons.mpr ⟨rfl, fun _ h => absurd h List.not_mem_nil⟩⟩⟩) rfl rfl ?_
      refine l_rMays_loop d X Z hI m (i + 1) _ _ (by omega) (nI_add i 1) ?_
      rw [← or_set (by omega), if_pos h20]
set_option maxRecDepth 100000 in
set_option maxHeartbeats 4000000 in
theorem l_rMays (d : Nat) (X Z : Nat → Nat → Int32) {T : Nat} (hI : RK T (X 64)) : EC (d + 4) 174 [.ref 63] (Wd X Z) (PI (sSetOf (sMayDo (jm (X 64))) (jn (jm (X 64)))) (Wd X Z)) := by
  refine er_enter (L := [(0, _)]) rfl rfl rfl ?_
  refine er_k (pc' := 1) (nI 0) rfl rfl rfl ?_
  refine er_loc (pc' := 2) (L' := [(1, _), (0, _)]) rfl rfl rfl ?_
  refine er_k (pc' := 3) (nI 0) rfl rfl rfl ?_
  refine er_loc (pc' := 4) (L' := [(2, _), (1, _), (0, _)]) rfl rfl rfl ?_
  refine ER_loc [(0, _), (1, _), (2, _)] rfl (List.forall_mem_cons.mpr ⟨rfl, List.forall_mem_cons.mpr ⟨rfl, List.forall_mem_cons.mpr ⟨rfl, fun _ h => absurd h List.not_mem_nil⟩⟩⟩) rfl rfl ?_
  exact l_rMays_loop d X Z hI (jn (jm (X 64))) 0 _ _ (by omega) rfl rfl
theorem sSetOf_cong {p q : Nat → Bool} (h : ∀ i, p i = q i) : ∀ n, sSetOf p n = sSetOf q n
  | 0 => rfl
  | n + 1 => by
    show sWith _ _ _ = sWith _ _ _
    rw [sSetOf_cong h n, h n]
set_option maxRecDepth 100000 in
set_option maxHeartbeats 4000000 in
theorem l_rNext_loop (d : Nat) (X Z : Nat → Nat → Int32) {T : Nat} (hI : RK T (X 64)) (w : Int32) : ∀ (m i : Nat) (x : Int32) (v : Int32), i + m = jn (jm (X 64)) → x = nI i → v = sSetOf (sMayUn (jm (X 64))) i → ER (d + 5) tb_m173 20 [(0, .ref 63), (1, .int w), (2, .int v), (3, .int x)] [] (Wd X Z) (RI (sSetOf (sPn (jm (X 64)) w) (jn (jm (X 64)))) X)
  | 0, i, x, v, hi, h0, h1 => by
    have hi0 : i = jn (jm (X 64)) := by omega
    subst h0
    subst h1
    have h8 := jn8 hI.ij
    subst hi0
    refine er_loc (pc' := 21) rfl rfl rfl ?_
    refine er_loc (pc' := 22) rfl rfl rfl ?_
    refine er_gf (pc' := 25) (_) rfl rfl rfl rfl rfl ?_
    refine er_k (pc' := 26) (nI 2) rfl rfl rfl ?_
    refine er_ia (pc' := 27) (2) rfl rfl rfl rfl (by omega) rfl rfl ?_
    rw [hI.n]
    refine er_cm_geT rfl (nI_nlt (by omega) (by omega)) ?_
    refine er_loc (pc' := 55) rfl rfl rfl ?_
    refine er_if_ne (pc' := 58) rfl rfl (fun h55 => ?_) (fun h55 => ?_)
    · refine er_loc (pc' := 66) rfl rfl rfl ?_
      refine er_iret rfl rfl ?_
      exact RI_of (sSetOf_cong (fun i => (if_neg h55).symm) _) rfl
    · refine er_loc (pc' := 59) rfl rfl rfl ?_
      refine er_cIi (pc' := 62) (rest := []) 12 rfl rfl rfl rfl rfl rfl (l_rMays _ X _ hI) ?_
      refine er_goto rfl ?_
      refine er_iret rfl rfl ?_
      exact RI_of (sSetOf_cong (fun i => (if_pos h55).symm) _) rfl
  | m + 1, i, x, v, hi, h0, h1 => by
    subst h0
    subst h1
    have h8 := jn8 hI.ij
    refine er_loc (pc' := 21) rfl rfl rfl ?_
    refine er_loc (pc' := 22) rfl rfl rfl ?_
    refine er_gf (pc' := 25) (_) rfl rfl rfl rfl rfl ?_
    refine er_k (pc' := 26) (nI 2) rfl rfl rfl ?_
    refine er_ia (pc' := 27) (2) rfl rfl rfl rfl (by omega) rfl rfl ?_
    rw [hI.n]
    refine er_cm_geF (pc' := 30) rfl (nI_lt (by omega) (by omega)) rfl ?_
    refine er_loc (pc' := 31) rfl rfl rfl ?_
    refine er_loc (pc' := 32) rfl rfl rfl ?_
    refine er_loc (pc' := 33) rfl rfl rfl ?_
    refine er_cIi (pc' := 36) (rest := [_]) 12 rfl rfl rfl rfl rfl rfl (l_rMayUn _ X _ hI (by omega)) ?_
    refine er_if_eqb (pc' := 39) rfl rfl (fun h36 => ?_) (fun h36 => ?_)
    · refine er_k (nI 0) rfl rfl rfl ?_
      refine er_ior rfl rfl ?_
      refine er_loc (L' := [(2, _), (0, _), (1, _), (3, _)]) rfl rfl rfl ?_
      refine er_loc (L' := [(3, .int (_ + nI 1)), (2, _), (0, _), (1, _)]) rfl rfl rfl ?_
      refine er_goto rfl ?_
      refine ER_loc [(0, _), (1, _), (2, _), (3, _)] rfl (List.forall_mem_cons.mpr ⟨rfl, List.forall_mem_cons.mpr ⟨rfl, List.forall_mem_cons.mpr ⟨rfl, List.forall_mem_cons.mpr ⟨rfl, fun _ h => absurd h List.not_mem_nil⟩⟩⟩⟩) rfl rfl ?_
      refine l_rNext_loop d X Z hI w m (i + 1) _ _ (by omega) (nI_add i 1) ?_
      rw [← or_set (by omega), if_neg (by rw [h36]; decide)]
    · refine er_k (nI 1) rfl rfl rfl ?_
      refine er_loc (pc' := 41) rfl rfl rfl ?_
      refine er_ishl (pc' := 42) rfl rfl ?_
      refine er_goto rfl ?_
      refine er_ior rfl rfl ?_
      refine er_loc (L' := [(2, _), (0, _), (1, _), (3, _)]) rfl rfl rfl ?_
      refine er_loc (L' := [(3, .int (_ + nI 1)), (2, _), (0, _), (1, _)]) rfl rfl rfl ?_
      refine er_goto rfl ?_
      refine ER_loc [(0, _), (1, _), (2, _), (3, _)] rfl (List.forall_mem_cons.mpr ⟨rfl, List.forall_mem_cons.mpr ⟨rfl, List.forall_mem_cons.mpr ⟨rfl, List.forall_mem_cons.mpr ⟨rfl, fun _ h => absurd h List.not_mem_nil⟩⟩⟩⟩) rfl rfl ?_
      refine l_rNext_loop d X Z hI w m (i + 1) _ _ (by omega) (nI_add i 1) ?_
      rw [← or_set (by omega), if_pos h36]
set_option maxRecDepth 100000 in
set_option maxHeartbeats 4000000 in
theorem l_rNext (d : Nat) (X Z : Nat → Nat → Int32) {T : Nat} (hI : RK T (X 64)) (w : Int32) : EC (d + 6) 173 [.ref 63, .int w] (Wd X Z) (fun r => if sIn w (nI 0) (nI 1) = true then RI (sSetOf (sPn (jm (X 64)) w) (jn (jm (X 64)))) X r else RI (sErr 1) (yErr X 1) r) := by
  refine er_enter (L := [(0, _), (1, _)]) rfl rfl rfl ?_
  refine er_loc (pc' := 1) rfl rfl rfl ?_
  refine er_k (pc' := 2) (nI 0) rfl rfl rfl ?_
  refine er_k (pc' := 3) (nI 1) rfl rfl rfl ?_
  refine er_cSi (pc' := 6) (rest := []) rfl rfl rfl (l_in _ _ _ _ _) ?_
  refine er_if_neb (pc' := 9) rfl rfl (fun h6 => ?_) (fun h6 => ?_)
  · refine er_k (pc' := 17) (nI 0) rfl rfl rfl ?_
    refine er_loc (pc' := 18) (L' := [(2, _), (0, _), (1, _)]) rfl rfl rfl ?_
    refine er_k (pc' := 19) (nI 0) rfl rfl rfl ?_
    refine er_loc (pc' := 20) (L' := [(3, _), (2, _), (0, _), (1, _)]) rfl rfl rfl ?_
    refine ER_loc [(0, _), (1, _), (2, _), (3, _)] rfl (List.forall_mem_cons.mpr ⟨rfl, List.forall_mem_cons.mpr ⟨rfl, List.forall_mem_cons.mpr ⟨rfl, List.forall_mem_cons.mpr ⟨rfl, fun _ h => absurd h List.not_mem_nil⟩⟩⟩⟩) rfl rfl ?_
    refine ER.mono (l_rNext_loop d X Z hI w (jn (jm (X 64))) 0 _ _ (by omega) rfl rfl) ?_
    intro r hr
    rw [if_pos h6]
    exact hr
  · refine er_loc (pc' := 10) rfl rfl rfl ?_
    refine er_ldc (pc' := 12) (-1000000001) rfl rfl rfl rfl rfl ?_
    refine er_cIz (pc' := 15) (rest := []) 12 rfl rfl rfl rfl rfl rfl (l_rError1 _ _ _) ?_
    intro Z9
    refine er_iret rfl rfl ?_
    rw [if_neg (by rw [h6]; decide)]
    exact RI_of rfl rfl
set_option maxRecDepth 100000 in
set_option maxHeartbeats 4000000 in
theorem l_rLeft_loop (d : Nat) (X Z : Nat → Nat → Int32) {T : Nat} (hI : RK T (X 64)) : ∀ (m i : Nat) (x : Int32) (v : Int32), i + m = jn (jm (X 64)) → x = nI i → v = sLeft (jm (X 64)) i → ER (d + 2) tb_m191 9 [(0, .ref 63), (1, .int v), (2, .int x)] [] (Wd X Z) (RI (sLeft (jm (X 64)) (jn (jm (X 64)))) X)
  | 0, i, x, v, hi, h0, h1 => by
    have hi0 : i = jn (jm (X 64)) := by omega
    subst h0
    subst h1
    have h8 := jn8 hI.ij
    subst hi0
    refine er_loc (pc' := 10) rfl rfl rfl ?_
    refine er_loc (pc' := 11) rfl rfl rfl ?_
    refine er_gf (pc' := 14) (_) rfl rfl rfl rfl rfl ?_
    refine er_k (pc' := 15) (nI 2) rfl rfl rfl ?_
    refine er_ia (pc' := 16) (2) rfl rfl rfl rfl (by omega) rfl rfl ?_
    rw [hI.n]
    refine er_cm_geT rfl (nI_nlt (by omega) (by omega)) ?_
    refine er_loc (pc' := 48) rfl rfl rfl ?_
    refine er_iret rfl rfl ?_
    exact RI_of rfl rfl
  | m + 1, i, x, v, hi, h0, h1 => by
    subst h0
    subst h1
    have h8 := jn8 hI.ij
    refine er_loc (pc' := 10) rfl rfl rfl ?_
    refine er_loc (pc' := 11) rfl rfl rfl ?_
    refine er_gf (pc' := 14) (_) rfl rfl rfl rfl rfl ?_
    refine er_k (pc' := 15) (nI 2) rfl rfl rfl ?_
    refine er_ia (pc' := 16) (2) rfl rfl rfl rfl (by omega) rfl rfl ?_
    rw [hI.n]
    refine er_cm_geF (pc' := 19) rfl (nI_lt (by omega) (by omega)) rfl ?_
    refine er_loc (pc' := 20) rfl rfl rfl ?_
    refine er_loc (pc' := 21) rfl rfl rfl ?_
    refine er_loc (pc' := 22) rfl rfl rfl ?_
    refine er_k (pc' := 23) (nI 4) rfl rfl rfl ?_
    refine er_cIi (pc' := 26) (rest := [_]) 12 rfl rfl rfl rfl rfl rfl (l_of4 _ X _ hI (by omega)) ?_
    refine er_if_neb (pc' := 29) rfl rfl (fun h26 => ?_) (fun h26 => ?_)
    · refine er_k (nI 0) rfl rfl rfl ?_
      refine er_isub rfl rfl ?_
      refine er_loc (L' := [(1, _), (0, _), (2, _)]) rfl rfl rfl ?_
      refine er_loc (L' := [(2, .int (_ + nI 1)), (1, _), (0, _)]) rfl rfl rfl ?_
      refine er_goto rfl ?_
      refine ER_loc [(0, _), (1, _), (2, _)] rfl (List.forall_mem_cons.mpr ⟨rfl, List.forall_mem_cons.mpr ⟨rfl, List.forall_mem_cons.mpr ⟨rfl, fun _ h => absurd h List.not_mem_nil⟩⟩⟩) rfl rfl ?_
      refine l_rLeft_loop d X Z hI m (i + 1) _ _ (by omega) (nI_add i 1) ?_
      show _ = _ - (if _ then _ else _)
      rw [if_pos h26]
    · refine er_loc rfl rfl rfl ?_
      refine er_loc (pc' := 31) rfl rfl rfl ?_
      refine er_k (pc' := 32) (nI 2) rfl rfl rfl ?_
      refine er_cIi (pc' := 35) (rest := [_]) 12 rfl rfl rfl rfl rfl rfl (l_of2 _ X _ (by omega)) ?_
      refine er_goto rfl ?_
      refine er_isub rfl rfl ?_
      refine er_loc (L' := [(1, _), (0, _), (2, _)]) rfl rfl rfl ?_
      refine er_loc (L' := [(2, .int (_ + nI 1)), (1, _), (0, _)]) rfl rfl rfl ?_
      refine er_goto rfl ?_
      refine ER_loc [(0, _), (1, _), (2, _)] rfl (List.forall_mem_cons.mpr ⟨rfl, List.forall_mem_cons.mpr ⟨rfl, List.forall_mem_cons.mpr ⟨rfl, fun _ h => absurd h List.not_mem_nil⟩⟩⟩) rfl rfl ?_
      refine l_rLeft_loop d X Z hI m (i + 1) _ _ (by omega) (nI_add i 1) ?_
      show _ = _ - (if _ then _ else _)
      rw [if_neg (by rw [h26]; decide)]
set_option maxRecDepth 100000 in
set_option maxHeartbeats 4000000 in
theorem l_rLeft (d : Nat) (X Z : Nat → Nat → Int32) {T : Nat} (hI : RK T (X 64)) : EC (d + 3) 191 [.ref 63] (Wd X Z) (RI (sLeft (jm (X 64)) (jn (jm (X 64)))) X) := by
  refine er_enter (L := [(0, _)]) rfl rfl rfl ?_
  refine er_loc (pc' := 1) rfl rfl rfl ?_
  refine er_gf (pc' := 4) (_) rfl rfl rfl rfl rfl ?_
  refine er_k (pc' := 5) (nI 4) rfl rfl rfl ?_
  refine er_ia (pc' := 6) (4) rfl rfl rfl rfl (by omega) rfl rfl ?_
  refine er_loc (pc' := 7) (L' := [(1, _), (0, _)]) rfl rfl rfl ?_
  refine er_k (pc' := 8) (nI 0) rfl rfl rfl ?_
  refine er_loc (pc' := 9) (L' := [(2, _), (1, _), (0, _)]) rfl rfl rfl ?_
  refine ER_loc [(0, _), (1, _), (2, _)] rfl (List.forall_mem_cons.mpr ⟨rfl, List.forall_mem_cons.mpr ⟨rfl, List.forall_mem_cons.mpr ⟨rfl, fun _ h => absurd h List.not_mem_nil⟩⟩⟩) rfl rfl ?_
  exact l_rLeft_loop d X Z hI (jn (jm (X 64))) 0 _ _ (by omega) rfl rfl
set_option maxRecDepth 100000 in
set_option maxHeartbeats 4000000 in
theorem l_rOdds_no (d : Nat) (X Z : Nat → Nat → Int32) {T : Nat} (hI : RK T (X 64)) (s w : Int32) (hs : jHas (jm (X 64)) s = false) : EC (d + 3) 198 [.ref 63, .int s, .int w] (Wd X Z) (RI (sErr 1) (yErr X 1)) := by
  refine er_enter (L := [(0, _), (1, _), (2, _)]) rfl rfl rfl ?_
  refine er_loc (pc' := 1) rfl rfl rfl ?_
  refine er_loc (pc' := 2) rfl rfl rfl ?_
  refine er_cIi (pc' := 5) (rest := []) 12 rfl rfl rfl rfl rfl rfl (l_rHas_f _ X _ hI hs) ?_
  refine er_if_eqT rfl (by decide +kernel) ?_
  refine er_loc (pc' := 18) rfl rfl rfl ?_
  refine er_ldc (pc' := 20) (-1000000001) rfl rfl rfl rfl rfl ?_
  refine er_cIz (pc' := 23) (rest := []) 12 rfl rfl rfl rfl rfl rfl (l_rError1 _ _ _) ?_
  intro Z9
  refine er_iret rfl rfl ?_
  exact RI_of rfl rfl
theorem odd_f {v : Int32} (h : isN v 1) : (v = 0 → nI 1 - v = nI 1) ∧ (¬ v = 0 → nI 1 - v = nI 0) := by
  obtain ⟨n, hn, rfl⟩ := (isN_iff (by omega)).mp h
  have : n = 0 ∨ n = 1 := by omega
  rcases this with rfl | rfl <;> decide +kernel
set_option maxRecDepth 100000 in
set_option maxHeartbeats 4000000 in
theorem l_rOdd_loop (d : Nat) (X : Nat → Nat → Int32) {T : Nat} (hI : RK T (X 64)) {k : Nat} (hk : k < jn (jm (X 64))) (w : Int32) (P : ab_R → Prop) : ∀ (m i : Nat) (Z : Nat → Nat → Int32) (v : Int32) (x : Int32), i + m = 10 → x = nI i → v = sRight (jm (X 64)) k i → (∀ Z2 x2, ER (d + 5) tb_m198 60 [(0, .ref 63), (1, .int (nI k)), (2, .int w), (3, .int (sRight (jm (X 64)) k 10)), (4, .int x2)] [] (Wd X Z2) P) → ER (d + 5) tb_m198 29 [(0, .ref 63), (1, .int (nI k)), (2, .int w), (3, .int v), (4, .int x)] [] (Wd X Z) (P)
  | 0, i, Z, v, x, hi, h0, h1, h2 => by
    have hi0 : i = 10 := by omega
    subst h0
    subst h1
    subst hi0
    refine er_loc (pc' := 31) rfl rfl rfl ?_
    refine er_k (pc' := 33) (nI 10) rfl rfl rfl ?_
    refine er_cm_geT rfl (nI_nlt (by omega) (by omega)) ?_
    exact h2 Z _
  | m + 1, i, Z, v, x, hi, h0, h1, h2 => by
    subst h0
    subst h1
    have h8 := jn8 hI.ij
    have hk8 : k < 8 := by omega
    refine er_loc (pc' := 31) rfl rfl rfl ?_
    refine er_k (pc' := 33) (nI 10) rfl rfl rfl ?_
    refine er_cm_geF (pc' := 36) rfl (nI_lt (by omega) (by omega)) rfl ?_
    refine er_loc (pc' := 37) rfl rfl rfl ?_
    refine er_loc (pc' := 38) rfl rfl rfl ?_
    refine er_loc (pc' := 39) rfl rfl rfl ?_
    refine er_loc (pc' := 41) rfl rfl rfl ?_
    refine er_cIz (pc' := 44) (rest := [_]) 12 rfl rfl rfl rfl rfl rfl (l_rErrsOf _ X _ hI hk8 _) ?_
    intro Z2
    refine er_if_ne (pc' := 47) rfl rfl (fun h44 => ?_) (fun h44 => ?_)
    · refine er_k (nI 0) rfl rfl rfl ?_
      refine er_iadd rfl rfl ?_
      refine er_loc (L' := [(3, _), (0, _), (1, _), (2, _), (4, _)]) rfl rfl rfl ?_
      refine er_loc (L' := [(4, .int (_ + nI 1)), (3, _), (0, _), (1, _), (2, _)]) rfl rfl rfl ?_
      refine er_goto rfl ?_
      refine ER_loc [(0, _), (1, _), (2, _), (3, _), (4, _)] rfl (List.forall_mem_cons.mpr ⟨rfl, List.forall_mem_cons.mpr ⟨rfl, List.forall_mem_cons.mpr ⟨rfl, List.forall_mem_cons.mpr ⟨rfl, List.forall_mem_cons.mpr ⟨rfl, fun _ h => absurd h List.not_mem_nil⟩⟩⟩⟩⟩) rfl rfl ?_
      refine l_rOdd_loop d X hI hk w P m (i + 1) _ _ _ (by omega) (nI_add i 1) ?_ h2
      show _ = _ + (nI 1 - _)
      rw [(odd_f errsBy1).2 h44]
    · refine er_k (nI 1) rfl rfl rfl ?_
      refine er_goto rfl ?_
      refine er_iadd rfl rfl ?_
      refine er_loc (L' := [(3, _), (0, _), (1, _), (2, _), (4, _)]) rfl rfl rfl ?_
      refine er_loc (L' := [(4, .int (_ + nI 1)), (3, _), (0, _), (1, _), (2, _)]) rfl rfl rfl ?_
      refine er_goto rfl ?_
      refine ER_loc [(0, _), (1, _), (2, _), (3, _), (4, _)] rfl (List.forall_mem_cons.mpr ⟨rfl, List.forall_mem_cons.mpr ⟨rfl, List.forall_mem_cons.mpr ⟨rfl, List.forall_mem_cons.mpr ⟨rfl, List.forall_mem_cons.mpr ⟨rfl, fun _ h => absurd h List.not_mem_nil⟩⟩⟩⟩⟩) rfl rfl ?_
      refine l_rOdd_loop d X hI hk w P m (i + 1) _ _ _ (by omega) (nI_add i 1) ?_ h2
      show _ = _ + (nI 1 - _)
      rw [(odd_f errsBy1).1 h44]
set_option maxRecDepth 100000 in
set_option maxHeartbeats 4000000 in
theorem l_rRed_loop (d : Nat) {X : Nat → Nat → Int32} (w : Int32) (P : ab_R → Prop) : ∀ (m : Nat) (p q x : Int32) (Z : Nat → Nat → Int32), x = nI (m + 1) → (∀ r, RI (if w = 0 then (sRed m p q).1 else (sRed m p q).2) X r → P r) ∧ m ≤ 9 → ER (d + 3) tb_m198 68 [(0, .ref 63), (2, .int w), (3, .int p), (4, .int q), (5, .int x)] [] (Wd X Z) P
  | 0, p, q, x, Z, hx, hP => by
    subst hx
    refine er_loc (pc' := 70) rfl rfl rfl ?_
    refine er_k (pc' := 71) (nI 1) rfl rfl rfl ?_
    refine er_cm_leT rfl (nI_nlt (by omega) (by omega)) ?_
    refine er_loc (pc' := 108) rfl rfl rfl ?_
    refine er_if_ne (pc' := 111) rfl rfl (fun h108 => ?_) (fun h108 => ?_)
    · refine er_loc (pc' := 117) rfl rfl rfl ?_
      refine er_iret rfl rfl ?_
      apply hP.1
      rw [if_neg h108]
      exact RI_of rfl rfl
    · refine er_loc (pc' := 112) rfl rfl rfl ?_
      refine er_goto rfl ?_
      refine er_iret rfl rfl ?_
      apply hP.1
      rw [if_pos h108]
      exact RI_of rfl rfl
  | m + 1, p, q, x, Z, hx, hP => by
    have hm9 := hP.2
    subst hx
    refine er_loc (pc' := 70) rfl rfl rfl ?_
    refine er_k (pc' := 71) (nI 1) rfl rfl rfl ?_
    refine er_cm_leF (pc' := 74) rfl (nI_lt (by omega) (by omega)) rfl ?_
    refine er_loc (pc' := 75) rfl rfl rfl ?_
    refine er_loc (pc' := 77) rfl rfl rfl ?_
    refine er_irem (pc' := 78) rfl rfl (by have := nI_ne0 (n := m + 2) (by omega) (by omega); exact this) ?_
    refine er_if_ne (pc' := 81) rfl rfl (fun h78 => ?_) (fun h78 => ?_)
    · refine er_loc (L' := [(5, .int (_ + (-1))), (0, _), (2, _), (3, _), (4, _)]) rfl rfl rfl ?_
      refine er_goto rfl ?_
      refine ER_loc [(0, _), (2, _), (3, _), (4, _), (5, _)] rfl (List.forall_mem_cons.mpr ⟨rfl, List.forall_mem_cons.mpr ⟨rfl, List.forall_mem_cons.mpr ⟨rfl, List.forall_mem_cons.mpr ⟨rfl, List.forall_mem_cons.mpr ⟨rfl, fun _ h => absurd h List.not_mem_nil⟩⟩⟩⟩⟩) rfl rfl ?_
      refine l_rRed_loop d w P m _ _ _ Z (by rw [nI_addm1 (by omega)]; rfl) ?_
      have e2 : sRed (m + 1) p q = sRed m p q := by
        show (if _ then _ else _) = _
        rw [if_neg (fun c => h78 c.1)]
      rw [← e2]
      exact ⟨hP.1, by omega⟩
    · refine er_loc (pc' := 83) rfl rfl rfl ?_
      refine er_loc (pc' := 85) rfl rfl rfl ?_
      refine er_irem (pc' := 86) rfl rfl (by have := nI_ne0 (n := m + 2) (by omega) (by omega); exact this) ?_
      refine er_if_ne (pc' := 89) rfl rfl (fun h86 => ?_) (fun h86 => ?_)
      · refine er_loc (L' := [(5, .int (_ + (-1))), (0, _), (2, _), (3, _), (4, _)]) rfl rfl rfl ?_
        refine er_goto rfl ?_
        refine ER_loc [(0, _), (2, _), (3, _), (4, _), (5, _)] rfl (List.forall_mem_cons.mpr ⟨rfl, List.forall_mem_cons.mpr ⟨rfl, List.forall_mem_cons.mpr ⟨rfl, List.forall_mem_cons.mpr ⟨rfl, List.forall_mem_cons.mpr ⟨rfl, fun _ h => absurd h List.not_mem_nil⟩⟩⟩⟩⟩) rfl rfl ?_
        refine l_rRed_loop d w P m _ _ _ Z (by rw [nI_addm1 (by omega)]; rfl) ?_
        have e2 : sRed (m + 1) p q = sRed m p q := by
          show (if _ then _ else _) = _
          rw [if_neg (fun c => h86 c.2)]
        rw [← e2]
        exact ⟨hP.1, by omega⟩
      · refine er_loc (pc' := 90) rfl rfl rfl ?_
        refine er_loc (pc' := 92) rfl rfl rfl ?_
        refine er_idiv (pc' := 93) rfl rfl (by have := nI_ne0 (n := m + 2) (by omega) (by omega); exact this) ?_
        refine er_loc (pc' := 94) (L' := [(3, _), (0, _), (2, _), (4, _), (5, _)]) rfl rfl rfl ?_
        refine er_loc (pc' := 96) rfl rfl rfl ?_
        refine er_loc (pc' := 98) rfl rfl rfl ?_
        refine er_idiv (pc' := 99) rfl rfl (by have := nI_ne0 (n := m + 2) (by omega) (by omega); exact this) ?_
        refine er_loc (pc' := 101) (L' := [(4, _), (3, _), (0, _), (2, _), (5, _)]) rfl rfl rfl ?_
        refine er_loc (L' := [(5, .int (_ + (-1))), (4, _), (3, _), (0, _), (2, _)]) rfl rfl rfl ?_
        refine er_goto rfl ?_
        refine ER_loc [(0, _), (2, _), (3, _), (4, _), (5, _)] rfl (List.forall_mem_cons.mpr ⟨rfl, List.forall_mem_cons.mpr ⟨rfl, List.forall_mem_cons.mpr ⟨rfl, List.forall_mem_cons.mpr ⟨rfl, List.forall_mem_cons.mpr ⟨rfl, fun _ h => absurd h List.not_mem_nil⟩⟩⟩⟩⟩) rfl rfl ?_
        refine l_rRed_loop d w P m _ _ _ Z (by rw [nI_addm1 (by omega)]; rfl) ?_
        have e2 : sRed (m + 1) p q = sRed m (p / nI (m + 2)) (q / nI (m + 2)) := by
          show (if _ then _ else _) = _
          rw [if_pos ⟨h78, h86⟩]
        rw [← e2]
        exact ⟨hP.1, by omega⟩
set_option maxRecDepth 100000 in
set_option maxHeartbeats 4000000 in
theorem l_rOdds (d : Nat) (X Z : Nat → Nat → Int32) {T : Nat} (hI : RK T (X 64)) {k : Nat} (hk : k < jn (jm (X 64))) (w : Int32) : EC (d + 6) 198 [.ref 63, .int (nI k), .int w] (Wd X Z) (fun r => if sIn w (nI 0) (nI 1) = true then RI (if w = 0 then (sOdds (jm (X 64)) k).1 else (sOdds (jm (X 64)) k).2) X r else RI (sErr 1) (yErr X 1) r) := by
  refine er_enter (L := [(0, _), (1, _), (2, _)]) rfl rfl rfl ?_
  refine er_loc (pc' := 1) rfl rfl rfl ?_
  refine er_loc (pc' := 2) rfl rfl rfl ?_
  refine er_cIi (pc' := 5) (rest := []) 12 rfl rfl rfl rfl rfl rfl (l_rHas_t _ X _ hI hk) ?_
  refine er_if_eqF (pc' := 8) rfl (by decide +kernel) rfl ?_
  refine er_loc (pc' := 9) rfl rfl rfl ?_
  refine er_k (pc' := 10) (nI 0) rfl rfl rfl ?_
  refine er_k (pc' := 11) (nI 1) rfl rfl rfl ?_
  refine er_cSi (pc' := 14) (rest := []) rfl rfl rfl (l_in _ _ _ _ _) ?_
  refine er_if_neb (pc' := 17) rfl rfl (fun h14 => ?_) (fun h14 => ?_)
  · refine er_k (pc' := 25) (nI 0) rfl rfl rfl ?_
    refine er_loc (pc' := 26) (L' := [(3, _), (0, _), (1, _), (2, _)]) rfl rfl rfl ?_
    refine er_k (pc' := 27) (nI 0) rfl rfl rfl ?_
    refine er_loc (pc' := 29) (L' := [(4, _), (3, _), (0, _), (1, _), (2, _)]) rfl rfl rfl ?_
    refine ER_loc [(0, _), (1, _), (2, _), (3, _), (4, _)] rfl (List.forall_mem_cons.mpr ⟨rfl, List.forall_mem_cons.mpr ⟨rfl, List.forall_mem_cons.mpr ⟨rfl, List.forall_mem_cons.mpr ⟨rfl, List.forall_mem_cons.mpr ⟨rfl, fun _ h => absurd h List.not_mem_nil⟩⟩⟩⟩⟩) rfl rfl ?_
    refine l_rOdd_loop d X hI hk w _ 10 0 Z _ _ (by omega) rfl rfl ?_
    intro Z2 x2
    refine er_k (pc' := 62) (nI 10) rfl rfl rfl ?_
    refine er_loc (pc' := 64) (L' := [(4, _), (0, _), (1, _), (2, _), (3, _)]) rfl rfl rfl ?_
    refine er_k (pc' := 66) (nI 10) rfl rfl rfl ?_
    refine er_loc (pc' := 68) (L' := [(5, _), (4, _), (0, _), (1, _), (2, _), (3, _)]) rfl rfl rfl ?_
    refine ER_loc [(0, _), (2, _), (3, _), (4, _), (5, _)] rfl (List.forall_mem_cons.mpr ⟨rfl, List.forall_mem_cons.mpr ⟨rfl, List.forall_mem_cons.mpr ⟨rfl, List.forall_mem_cons.mpr ⟨rfl, List.forall_mem_cons.mpr ⟨rfl, fun _ h => absurd h List.not_mem_nil⟩⟩⟩⟩⟩) rfl rfl ?_
    refine l_rRed_loop (d + 2) w _ 9 _ _ _ Z2 rfl ⟨fun r hr => ?_, by omega⟩
    rw [if_pos h14]
    exact hr
  · refine er_loc (pc' := 18) rfl rfl rfl ?_
    refine er_ldc (pc' := 20) (-1000000001) rfl rfl rfl rfl rfl ?_
    refine er_cIz (pc' := 23) (rest := []) 12 rfl rfl rfl rfl rfl rfl (l_rError1 _ _ _) ?_
    intro Z9
    refine er_iret rfl rfl ?_
    rw [if_neg (by rw [h14]; decide)]
    exact RI_of rfl rfl
end
section
/-! THE REFERENCE, its face: copies, draws, the tape, what would be done next -/
theorem Wd_row {X Z : Nat → Nat → Int32} {c n : Nat} {f g : Nat → Int32} (h : ∀ x z, cO c x z = .inr (.inl (qa n x))) (hfg : ∀ k, k < n → f k = g k) : Wd (uc X c f) Z = Wd (uc X c g) Z := by
  unfold Wd
  apply List.map_congr_left
  intro i _
  by_cases hi : i = c
  · subst hi
    rw [uc_same, uc_same, h, h, qa_cong hfg]
  · rw [uc_ne hi, uc_ne hi]
theorem cpf_step {f g : Nat → Int32} {i : Nat} : u1 (cpf f g 0 0 i) i (f i) = cpf f g 0 0 (i + 1) := by
  funext j
  rw [u1_at]
  show _ = if 0 ≤ j ∧ j < 0 + (i + 1) then f (j - 0 + 0) else g j
  by_cases h : j = i
  · subst h
    rw [if_pos rfl, if_pos ⟨by omega, by omega⟩]
    rfl
  · rw [if_neg h]
    show (if 0 ≤ j ∧ j < 0 + i then f (j - 0 + 0) else g j) = _
    by_cases h2 : j < i
    · rw [if_pos ⟨by omega, by omega⟩, if_pos ⟨by omega, by omega⟩]
    · rw [if_neg (by omega), if_neg (by omega)]
theorem cpf_0 (f g : Nat → Int32) : cpf f g 0 0 0 = g := by
  funext j
  exact if_neg (by omega)
set_option maxRecDepth 100000 in
set_option maxHeartbeats 4000000 in
theorem l_copy_loop (d : Nat) (X Z : Nat → Nat → Int32) {c1 c2 : Nat} (b1 : Nat.blt c1 79 = true) (b2 : Nat.blt c2 79 = true) (h1 : ∀ x z, cO c1 x z = .inr (.inl (qa 327 x))) (h2 : ∀ x z, cO c2 x z = .inr (.inl (qa 327 x))) (hne : c1 ≠ c2) : ∀ (m i : Nat) (x : Int32), i + m = 327 → x = nI i → ER (d + 1) tb_m177 2 [(0, .ref c1), (1, .ref c2), (2, .int x)] [] (Wd (uc X c2 (cpf (X c1) (X c2) 0 0 i)) Z) (RV (uc X c2 (X c1)))
  | 0, i, x, hi, h0 => by
    have hi0 : i = 327 := by omega
    subst h0
    subst hi0
    refine er_loc (pc' := 3) rfl rfl rfl ?_
    refine er_k (pc' := 6) (nI 327) rfl rfl rfl ?_
    refine er_cm_geT rfl (nI_nlt (by omega) (by omega)) ?_
    refine er_vret rfl rfl ?_
    refine ⟨Z, ?_⟩
    rw [Wd_row (g := X c1) h2 (fun k hk => cpf_all hk)]
  | m + 1, i, x, hi, h0 => by
    subst h0
    refine er_loc (pc' := 3) rfl rfl rfl ?_
    refine er_k (pc' := 6) (nI 327) rfl rfl rfl ?_
    refine er_cm_geF (pc' := 9) rfl (nI_lt (by omega) (by omega)) rfl ?_
    refine er_loc (pc' := 10) rfl rfl rfl ?_
    refine er_loc (pc' := 11) rfl rfl rfl ?_
    refine er_loc (pc' := 12) rfl rfl rfl ?_
    refine er_loc (pc' := 13) rfl rfl rfl ?_
    refine er_ia (pc' := 14) (i) rfl (b1) ((h1 _ _)) rfl (by omega) rfl rfl ?_
    refine er_isX (pc' := 15) (i) rfl (b2) ((fun f => h2 f _)) rfl (by omega) rfl rfl ?_
    refine er_loc (pc' := 18) (L' := [(2, .int (_ + nI 1)), (0, _), (1, _)]) rfl rfl rfl ?_
    refine er_goto rfl ?_
    refine ER_loc [(0, _), (1, _), (2, _)] rfl (List.forall_mem_cons.mpr ⟨rfl, List.forall_mem_cons.mpr ⟨rfl, List.forall_mem_cons.mpr ⟨rfl, fun _ h => absurd h List.not_mem_nil⟩⟩⟩) rfl rfl ?_
    have ih := l_copy_loop d X Z b1 b2 h1 h2 hne m (i + 1) _ (by omega) (nI_add i 1)
    rw [uc_ne hne]
    rw [show ud (uc X c2 (cpf (X c1) (X c2) 0 0 i)) c2 i (X c1 i) = uc X c2 (cpf (X c1) (X c2) 0 0 (i + 1)) from by unfold ud; rw [uc_uc, uc_same, cpf_step]]
    exact ih
set_option maxRecDepth 100000 in
set_option maxHeartbeats 4000000 in
theorem l_rCopy (d : Nat) (X Z : Nat → Nat → Int32) {c1 c2 : Nat} (b1 : Nat.blt c1 79 = true) (b2 : Nat.blt c2 79 = true) (h1 : ∀ x z, cO c1 x z = .inr (.inl (qa 327 x))) (h2 : ∀ x z, cO c2 x z = .inr (.inl (qa 327 x))) (hne : c1 ≠ c2) : EC (d + 2) 177 [.ref c1, .ref c2] (Wd X Z) (RV (uc X c2 (X c1))) := by
  refine er_enter (L := [(0, _), (1, _)]) rfl rfl rfl ?_
  refine er_k (pc' := 1) (nI 0) rfl rfl rfl ?_
  refine er_loc (pc' := 2) (L' := [(2, _), (0, _), (1, _)]) rfl rfl rfl ?_
  refine ER_loc [(0, _), (1, _), (2, _)] rfl (List.forall_mem_cons.mpr ⟨rfl, List.forall_mem_cons.mpr ⟨rfl, List.forall_mem_cons.mpr ⟨rfl, fun _ h => absurd h List.not_mem_nil⟩⟩⟩) rfl rfl ?_
  have h := l_copy_loop d X Z b1 b2 h1 h2 hne 327 0 (nI 0) (by omega) rfl
  rw [cpf_0, uc_id] at h
  exact h
section ERK
variable {d pc pc' lk : Nat} {M : ab_M} {L L' : ab_Lo} {st : List Value} {w : ab_W} {P : ab_R → Prop} {X Z : Nat → Nat → Int32}
theorem er_cSv {j i : Nat} {X' : Nat → Nat → Int32} {As rest : List Value} (hf : ab_fetch M.2.2.2.2.2.2.2 pc = some (.invokestatic i, lk)) (hq : qS lk st = some (j, As, rest)) (hp : pc + 3 = pc') (h : EC d j As (Wd X Z) (RV X')) (k : ∀ Z', ER d M pc' L rest (Wd X' Z') P) : ER d M pc L st (Wd X Z) P :=
  er_cS hf hq hp h (fun r hr => by obtain ⟨Z', rfl⟩ := hr; exact k Z')
end ERK
set_option maxRecDepth 100000 in
set_option maxHeartbeats 4000000 in
theorem l_rThinks (d : Nat) (X Z : Nat → Nat → Int32) : EC (d + 3) 176 [.ref 63] (Wd X Z) (RV (uc X 66 (X 64))) := by
  refine er_enter (L := [(0, _)]) rfl rfl rfl ?_
  refine er_loc (pc' := 1) rfl rfl rfl ?_
  refine er_gf (pc' := 4) (_) rfl rfl rfl rfl rfl ?_
  refine er_loc (pc' := 5) rfl rfl rfl ?_
  refine er_gf (pc' := 8) (_) rfl rfl rfl rfl rfl ?_
  refine er_cSv (pc' := 11) (rest := []) rfl rfl rfl (l_rCopy _ _ _ (c1 := 64) (c2 := 66) rfl rfl (fun _ _ => rfl) (fun _ _ => rfl) (by omega)) ?_
  intro Z7
  refine er_vret rfl rfl ?_
  exact RV_of rfl
set_option maxRecDepth 100000 in
set_option maxHeartbeats 4000000 in
theorem l_rPutsBack (d : Nat) (X Z : Nat → Nat → Int32) : EC (d + 3) 181 [.ref 63] (Wd X Z) (RV (uc X 64 (X 66))) := by
  refine er_enter (L := [(0, _)]) rfl rfl rfl ?_
  refine er_loc (pc' := 1) rfl rfl rfl ?_
  refine er_gf (pc' := 4) (_) rfl rfl rfl rfl rfl ?_
  refine er_loc (pc' := 5) rfl rfl rfl ?_
  refine er_gf (pc' := 8) (_) rfl rfl rfl rfl rfl ?_
  refine er_cSv (pc' := 11) (rest := []) rfl rfl rfl (l_rCopy _ _ _ (c1 := 66) (c2 := 64) rfl rfl (fun _ _ => rfl) (fun _ _ => rfl) (by omega)) ?_
  intro Z7
  refine er_vret rfl rfl ?_
  exact RV_of rfl
set_option maxRecDepth 100000 in
set_option maxHeartbeats 4000000 in
theorem l_rImage (d : Nat) (X Z : Nat → Nat → Int32) : EC (d + 3) 220 [.ref 63] (Wd X Z) (RI (X 63 3 + nI 1) (ud (uc X 65 (X 64)) 63 3 (X 63 3 + nI 1))) := by
  refine er_enter (L := [(0, _)]) rfl rfl rfl ?_
  refine er_loc (pc' := 1) rfl rfl rfl ?_
  refine er_gf (pc' := 4) (_) rfl rfl rfl rfl rfl ?_
  refine er_loc (pc' := 5) rfl rfl rfl ?_
  refine er_gf (pc' := 8) (_) rfl rfl rfl rfl rfl ?_
  refine er_cSv (pc' := 11) (rest := []) rfl rfl rfl (l_rCopy _ _ _ (c1 := 64) (c2 := 65) rfl rfl (fun _ _ => rfl) (fun _ _ => rfl) (by omega)) ?_
  intro Z7
  refine er_loc (pc' := 12) rfl rfl rfl ?_
  refine er_pure (pc' := 13) rfl rfl rfl ?_
  refine er_gf (pc' := 16) (.int (uc X 65 (X 64) 63 3)) rfl rfl rfl rfl rfl ?_
  refine er_k (pc' := 17) (nI 1) rfl rfl rfl ?_
  refine er_iadd (pc' := 18) rfl rfl ?_
  refine er_pfIX (pc' := 21) 3 rfl rfl rfl rfl rfl rfl ?_
  refine er_loc (pc' := 22) rfl rfl rfl ?_
  refine er_gf (pc' := 25) (.int (ud (uc X 65 (X 64)) 63 3 (X 63 3 + nI 1) 63 3)) rfl rfl rfl rfl rfl ?_
  refine er_iret rfl rfl ?_
  exact RI_of rfl rfl
set_option maxRecDepth 100000 in
set_option maxHeartbeats 4000000 in
theorem l_rRestore (d : Nat) (X Z : Nat → Nat → Int32) : EC (d + 3) 221 [.ref 63] (Wd X Z) (fun r => if X 63 3 = 0 then RI (sErr 2) (yErr X 2) r else RI (X 65 0) (uc X 64 (X 65)) r) := by
  refine er_enter (L := [(0, _)]) rfl rfl rfl ?_
  refine er_loc (pc' := 1) rfl rfl rfl ?_
  refine er_gf (pc' := 4) (.int (X 63 3)) rfl rfl rfl rfl rfl ?_
  refine er_if_ne (pc' := 7) rfl rfl (fun h4 => ?_) (fun h4 => ?_)
  · refine er_loc (pc' := 15) rfl rfl rfl ?_
    refine er_gf (pc' := 18) (_) rfl rfl rfl rfl rfl ?_
    refine er_loc (pc' := 19) rfl rfl rfl ?_
    refine er_gf (pc' := 22) (_) rfl rfl rfl rfl rfl ?_
    refine er_cSv (pc' := 25) (rest := []) rfl rfl rfl (l_rCopy _ _ _ (c1 := 65) (c2 := 64) rfl rfl (fun _ _ => rfl) (fun _ _ => rfl) (by omega)) ?_
    intro Z7
    refine er_loc (pc' := 26) rfl rfl rfl ?_
    refine er_gf (pc' := 29) (_) rfl rfl rfl rfl rfl ?_
    refine er_k (pc' := 30) (nI 0) rfl rfl rfl ?_
    refine er_ia (pc' := 31) (0) rfl rfl rfl rfl (by omega) rfl rfl ?_
    refine er_iret rfl rfl ?_
    rw [if_neg h4]
    exact RI_of rfl rfl
  · refine er_loc (pc' := 8) rfl rfl rfl ?_
    refine er_ldc (pc' := 10) (-1000000002) rfl rfl rfl rfl rfl ?_
    refine er_cIz (pc' := 13) (rest := []) 12 rfl rfl rfl rfl rfl rfl (l_rError2 _ _ _) ?_
    intro Z9
    refine er_iret rfl rfl ?_
    rw [if_pos h4]
    exact RI_of rfl rfl
set_option maxRecDepth 100000 in
set_option maxHeartbeats 4000000 in
theorem l_rDraw (d : Nat) (X Z : Nat → Nat → Int32) {T : Nat} (hI : RK T (X 64)) : EC (d + 1) 172 [.ref 63] (Wd X Z) (RNJ (sDraw (sZ (X 64 1))) (jZ (jm (X 64))) T X) := by
  refine er_enter (L := [(0, _)]) rfl rfl rfl ?_
  refine er_loc (pc' := 1) rfl rfl rfl ?_
  refine er_gf (pc' := 4) (_) rfl rfl rfl rfl rfl ?_
  refine er_k (pc' := 5) (nI 1) rfl rfl rfl ?_
  refine er_loc (pc' := 6) rfl rfl rfl ?_
  refine er_gf (pc' := 9) (_) rfl rfl rfl rfl rfl ?_
  refine er_k (pc' := 10) (nI 1) rfl rfl rfl ?_
  refine er_ia (pc' := 11) (1) rfl rfl rfl rfl (by omega) rfl rfl ?_
  refine er_ldc (pc' := 13) (1103515245) rfl rfl rfl rfl rfl ?_
  refine er_imul (pc' := 14) rfl rfl ?_
  refine er_k (pc' := 17) (nI 12345) rfl rfl rfl ?_
  refine er_iadd (pc' := 18) rfl rfl ?_
  refine er_isX (pc' := 19) (1) rfl rfl (fun _ => rfl) rfl (by omega) rfl rfl ?_
  refine er_loc (pc' := 20) rfl rfl rfl ?_
  refine er_gf (pc' := 23) (_) rfl rfl rfl rfl rfl ?_
  refine er_k (pc' := 24) (nI 1) rfl rfl rfl ?_
  refine er_ia (pc' := 25) (1) rfl rfl rfl rfl (by omega) rfl rfl ?_
  refine er_k (pc' := 27) (nI 8) rfl rfl rfl ?_
  refine er_iushr (pc' := 28) rfl rfl ?_
  refine er_iret rfl rfl ?_
  exact RNJ_of rfl (wZ hI rfl rfl)
theorem loT_c (J : Nat → Nat → Int32) (c : Int32) : loT (J, c) = ((loT (J, nI 0)).1, c + (loT (J, nI 0)).2) := by
  show (if _ then _ else if _ then _ else _ : (Nat → Nat → Int32) × Int32) = ((if _ then _ else if _ then _ else _ : (Nat → Nat → Int32) × Int32).1, c + (if _ then _ else if _ then _ else _ : (Nat → Nat → Int32) × Int32).2)
  split
  · show (_, _) = (_, _)
    congr 1
  · split
    · show (_, _) = (_, _)
      congr 1
      exact (Int32.add_zero c).symm
    · show (_, _) = (_, _)
      congr 1
      exact (Int32.add_zero c).symm
section WJT
variable {J J' : Nat → Nat → Int32} {T T' : Nat} {X Y : Nat → Nat → Int32} {v : Int32}
theorem RNJ.tr {r : ab_R} (h : WJ J T X Y) (h2 : RNJ v J' T' Y r) : RNJ v J' T' X r := by
  obtain ⟨X', Z', e, h3⟩ := h2
  exact ⟨X', Z', e, h.trans h3⟩
theorem RK.mono {R : Nat → Int32} (h : RK T R) (hT : T ≤ T') : RK T' R := ⟨h.ij.mono hT, h.2.1, h.2.2.1, h.2.2.2⟩
theorem WJ.mono (h : WJ J T X Y) (hT : T ≤ T') : WJ J T' X Y := ⟨h.1, h.2.1.mono hT, h.2.2.1, h.2.2.2⟩
end WJT
theorem jHas_f {T : Nat} {J : Nat → Nat → Int32} {k : Nat} (hI : IJ T J) (hk : ¬ k < jn J) (h : k < 100) : jHas J (nI k) = false := by
  unfold jHas
  have h8 := jn8 hI
  rw [show J 0 1 = nI (jn J) from hI.n.1, decide_eq_false (nI_nlt (show jn J ≤ k by omega) (by omega)), Bool.and_false]
set_option maxRecDepth 100000 in
set_option maxHeartbeats 4000000 in
theorem l_rDrawn (d : Nat) (X Z : Nat → Nat → Int32) {T : Nat} (hI : RK T (X 64)) (hT : T < 2000000000) : EC (d + 8) 171 [.ref 63] (Wd X Z) (RNJ (loT (jm (X 64), nI 0)).2 (loT (jm (X 64), nI 0)).1 (T + 300) X) := by
  refine er_enter (L := [(0, _)]) rfl rfl rfl ?_
  obtain ⟨k, hk8, hk⟩ := pick8 (sZ (X 64 1))
  refine er_loc (pc' := 1) rfl rfl rfl ?_
  refine er_cIj (pc' := 4) (rest := []) 12 rfl rfl rfl rfl rfl rfl (l_rDraw _ _ _ hI) ?_
  intro X1 Z1 w1
  have hI1 := w1.rk
  refine er_k (pc' := 6) (nI 8) rfl rfl rfl ?_
  refine er_irem (pc' := 7) rfl rfl (by decide) ?_
  rw [show sDraw (sZ (X 64 1)) - sDraw (sZ (X 64 1)) / nI 8 * nI 8 = nI k from hk]
  have eT : loT (jm (X 64), nI 0) = loS (jm (X1 64)) k (nI 0) := by
    show loS (jZ (jm (X 64))) (nN (sPick (sZ (X 64 1)))) (nI 0) = _
    rw [hk, nN_nI (by omega), ← w1.j]
  refine er_loc (pc' := 8) (L' := [(1, _), (0, _)]) rfl rfl rfl ?_
  by_cases hk2 : k < jn (jm (X1 64))
  · refine er_loc (pc' := 9) rfl rfl rfl ?_
    refine er_loc (pc' := 10) rfl rfl rfl ?_
    refine er_cIi (pc' := 13) (rest := []) 12 rfl rfl rfl rfl rfl rfl (l_rHas_t _ X1 _ hI1 hk2) ?_
    refine er_if_eqF (pc' := 16) rfl (by decide +kernel) rfl ?_
    refine er_loc (pc' := 17) rfl rfl rfl ?_
    refine er_loc (pc' := 18) rfl rfl rfl ?_
    refine er_cIi (pc' := 21) (rest := []) 12 rfl rfl rfl rfl rfl rfl (l_rMayDo _ X1 _ hI1 hk2) ?_
    refine er_if_eqb (pc' := 24) rfl rfl (fun h21 => ?_) (fun h21 => ?_)
    · refine er_loc (pc' := 32) rfl rfl rfl ?_
      refine er_loc (pc' := 33) rfl rfl rfl ?_
      refine er_cIi (pc' := 36) (rest := []) 12 rfl rfl rfl rfl rfl rfl (l_rHas_t _ X1 _ hI1 hk2) ?_
      refine er_if_eqF (pc' := 39) rfl (by decide +kernel) rfl ?_
      refine er_loc (pc' := 40) rfl rfl rfl ?_
      refine er_loc (pc' := 41) rfl rfl rfl ?_
      refine er_cIi (pc' := 44) (rest := []) 12 rfl rfl rfl rfl rfl rfl (l_rMayUn _ X1 _ hI1 hk2) ?_
      refine er_if_eqb (pc' := 47) rfl rfl (fun h44 => ?_) (fun h44 => ?_)
      · refine er_loc (pc' := 56) rfl rfl rfl ?_
        refine er_gf (pc' := 59) (_) rfl rfl rfl rfl rfl ?_
        refine er_k (pc' := 60) (nI 0) rfl rfl rfl ?_
        refine er_pure (pc' := 61) rfl rfl rfl ?_
        refine er_ia (pc' := 62) (0) rfl rfl rfl rfl (by omega) rfl rfl ?_
        refine er_k (pc' := 63) (nI 1) rfl rfl rfl ?_
        refine er_iadd (pc' := 64) rfl rfl ?_
        refine er_isX (pc' := 65) (0) rfl rfl (fun _ => rfl) rfl (by omega) rfl rfl ?_
        refine er_k (pc' := 66) (nI 0) rfl rfl rfl ?_
        refine er_iret rfl rfl ?_
        have e2 : loS (jm (X1 64)) k (nI 0) = (ud (jm (X1 64)) 0 10 (jm (X1 64) 0 10 + nI 1), nI 0) := (if_neg (by rw [h21]; decide)).trans (if_neg (by rw [h44]; decide))
        rw [eT, e2]
        have w2 := wMin (p := 0) hI1 rfl (hI1.ij.minute.add (isN.of (n := 1) (B := 300) (by omega) (by omega)) (by omega)) rfl
        exact RNJ_of rfl (w1.trans w2)
      · refine er_loc (pc' := 48) rfl rfl rfl ?_
        refine er_loc (pc' := 49) rfl rfl rfl ?_
        refine er_cIw (pc' := 52) (rest := []) 12 rfl rfl rfl rfl rfl rfl (l_rIsUndone _ _ _ hI1 hT hk2) ?_
        intro X2 Z2 w2
        refine er_goto rfl ?_
        refine er_k (pc' := 66) (nI 0) rfl rfl rfl ?_
        refine er_iret rfl rfl ?_
        have e2 : loS (jm (X1 64)) k (nI 0) = (jApart (jm (X1 64)) k, nI 0) := (if_neg (by rw [h21]; decide)).trans (if_pos h44)
        rw [eT, e2]
        exact RNJ_of rfl (w1.trans w2)
    · refine er_loc (pc' := 25) rfl rfl rfl ?_
      refine er_loc (pc' := 26) rfl rfl rfl ?_
      refine er_cIw (pc' := 29) (rest := []) 12 rfl rfl rfl rfl rfl rfl (l_rIsDone _ _ _ hI1 hT h21) ?_
      intro X2 Z2 w2
      refine er_k (pc' := 30) (nI 1) rfl rfl rfl ?_
      refine er_iret rfl rfl ?_
      have e2 : loS (jm (X1 64)) k (nI 0) = (jFin (jm (X1 64)) k, nI 0 + nI 1) := if_pos h21
      rw [eT, e2]
      exact RNJ_of (show nI 1 = nI 0 + nI 1 from by decide +kernel) (w1.trans w2)
  · have hs : jHas (jm (X1 64)) (nI k) = false := jHas_f hI1.ij hk2 (by omega)
    refine er_loc (pc' := 9) rfl rfl rfl ?_
    refine er_loc (pc' := 10) rfl rfl rfl ?_
    refine er_cIi (pc' := 13) (rest := []) 12 rfl rfl rfl rfl rfl rfl (l_rHas_f _ X1 _ hI1 hs) ?_
    refine er_if_eqT rfl (by decide +kernel) ?_
    refine er_loc (pc' := 32) rfl rfl rfl ?_
    refine er_loc (pc' := 33) rfl rfl rfl ?_
    refine er_cIi (pc' := 36) (rest := []) 12 rfl rfl rfl rfl rfl rfl (l_rHas_f _ X1 _ hI1 hs) ?_
    refine er_if_eqT rfl (by decide +kernel) ?_
    refine er_loc (pc' := 56) rfl rfl rfl ?_
    refine er_gf (pc' := 59) (_) rfl rfl rfl rfl rfl ?_
    refine er_k (pc' := 60) (nI 0) rfl rfl rfl ?_
    refine er_pure (pc' := 61) rfl rfl rfl ?_
    refine er_ia (pc' := 62) (0) rfl rfl rfl rfl (by omega) rfl rfl ?_
    refine er_k (pc' := 63) (nI 1) rfl rfl rfl ?_
    refine er_iadd (pc' := 64) rfl rfl ?_
    refine er_isX (pc' := 65) (0) rfl rfl (fun _ => rfl) rfl (by omega) rfl rfl ?_
    refine er_k (pc' := 66) (nI 0) rfl rfl rfl ?_
    refine er_iret rfl rfl ?_
    have e2 : loS (jm (X1 64)) k (nI 0) = (ud (jm (X1 64)) 0 10 (jm (X1 64) 0 10 + nI 1), nI 0) := (if_neg (by rw [(sMayDo_no hk2)]; decide)).trans (if_neg (by rw [(sMayUn_no hk2)]; decide))
    rw [eT, e2]
    have w2 := wMin (p := 0) hI1 rfl (hI1.ij.minute.add (isN.of (n := 1) (B := 300) (by omega) (by omega)) (by omega)) rfl
    exact RNJ_of rfl (w1.trans w2)
set_option maxRecDepth 100000 in
set_option maxHeartbeats 4000000 in
theorem l_rLoose_loop (d n : Nat) : ∀ (m i T : Nat) (X1 Z : Nat → Nat → Int32) (c x : Int32), (i + m = n ∧ n ≤ 40) → x = nI i → RK T (X1 64) → T + 300 * m < 1000000000 → ER (d + 8) tb_m170 45 [(0, .ref 63), (1, .int (nI n)), (2, .int c), (3, .int x)] [] (Wd X1 Z) (RNJ (itN loT m (jm (X1 64), c)).2 (itN loT m (jm (X1 64), c)).1 (T + 300 * m) X1)
  | 0, i, T, X1, Z, c, x, hi, hx, hI1, hb => by
    have hi0 : i = n := by omega
    subst hx
    subst hi0
    refine er_loc (pc' := 46) rfl rfl rfl ?_
    refine er_loc (pc' := 47) rfl rfl rfl ?_
    refine er_cm_geT rfl (nI_nlt (by omega) (by omega)) ?_
    refine er_loc (pc' := 64) rfl rfl rfl ?_
    refine er_iret rfl rfl ?_
    exact RNJ_of rfl (WJ.rf hI1)
  | m + 1, i, T, X1, Z, c, x, hi, hx, hI1, hb => by
    subst hx
    refine er_loc (pc' := 46) rfl rfl rfl ?_
    refine er_loc (pc' := 47) rfl rfl rfl ?_
    refine er_cm_geF (pc' := 50) rfl (nI_lt (by omega) (by omega)) rfl ?_
    refine er_loc (pc' := 51) rfl rfl rfl ?_
    refine er_loc (pc' := 52) rfl rfl rfl ?_
    refine er_cIj (pc' := 55) (rest := [_]) 12 rfl rfl rfl rfl rfl rfl (l_rDrawn _ _ _ hI1 (by omega)) ?_
    intro X2 Z2 w2
    refine er_iadd (pc' := 56) rfl rfl ?_
    refine er_loc (pc' := 57) (L' := [(2, _), (0, _), (1, _), (3, _)]) rfl rfl rfl ?_
    refine er_loc (pc' := 60) (L' := [(3, .int (_ + nI 1)), (2, _), (0, _), (1, _)]) rfl rfl rfl ?_
    refine er_goto rfl ?_
    refine ER_loc [(0, _), (1, _), (2, _), (3, _)] rfl (List.forall_mem_cons.mpr ⟨rfl, List.forall_mem_cons.mpr ⟨rfl, List.forall_mem_cons.mpr ⟨rfl, List.forall_mem_cons.mpr ⟨rfl, fun _ h => absurd h List.not_mem_nil⟩⟩⟩⟩) rfl rfl ?_
    have ih := l_rLoose_loop d n m (i + 1) (T + 300) X2 Z2 (c + (loT (jm (X1 64), nI 0)).2) _ ⟨by omega, by omega⟩ (nI_add i 1) w2.rk (by omega)
    rw [w2.j] at ih
    refine ER.mono ih (fun r hr => ?_)
    rw [itN_succ, loT_c (jm (X1 64)) c]
    rw [show T + 300 * (m + 1) = T + 300 + 300 * m by omega]
    exact RNJ.tr w2 hr
set_option maxRecDepth 100000 in
set_option maxHeartbeats 4000000 in
theorem l_rLoose (d : Nat) (X Z : Nat → Nat → Int32) {t : Nat} (hI : RK t (X 64)) (ht : t < 100000) (n : Int32) : EC (d + 9) 170 [.ref 63, .int n] (Wd X Z) (fun r => if sIn n (nI 1) (nI 40) = true then (if sLooseOk (jm (X 64)) n = true then RNJ (itN loT (nN n) (jm (X 64), nI 0)).2 (itN loT (nN n) (jm (X 64), nI 0)).1 (t + 300 * nN n) X r else RI (sErr 3) (yErr X 3) r) else RI (sErr 1) (yErr X 1) r) := by
  refine er_enter (L := [(0, _), (1, _)]) rfl rfl rfl ?_
  refine er_loc (pc' := 1) rfl rfl rfl ?_
  refine er_k (pc' := 2) (nI 1) rfl rfl rfl ?_
  refine er_k (pc' := 4) (nI 40) rfl rfl rfl ?_
  refine er_cSi (pc' := 7) (rest := []) rfl rfl rfl (l_in _ _ _ _ _) ?_
  refine er_if_neb (pc' := 10) rfl rfl (fun h7 => ?_) (fun h7 => ?_)
  · refine er_loc (pc' := 18) rfl rfl rfl ?_
    refine er_gf (pc' := 21) (_) rfl rfl rfl rfl rfl ?_
    refine er_k (pc' := 22) (nI 0) rfl rfl rfl ?_
    refine er_ia (pc' := 23) (0) rfl rfl rfl rfl (by omega) rfl rfl ?_
    refine er_k (pc' := 26) (nI 300) rfl rfl rfl ?_
    refine er_loc (pc' := 27) rfl rfl rfl ?_
    refine er_imul (pc' := 28) rfl rfl ?_
    refine er_iadd (pc' := 29) rfl rfl ?_
    refine er_ldc (pc' := 31) (99999) rfl rfl rfl rfl rfl ?_
    refine er_cm_le (pc' := 34) rfl rfl (fun h31 => ?_) (fun h31 => ?_)
    · refine er_k (pc' := 42) (nI 0) rfl rfl rfl ?_
      refine er_loc (pc' := 43) (L' := [(2, _), (0, _), (1, _)]) rfl rfl rfl ?_
      refine er_k (pc' := 44) (nI 0) rfl rfl rfl ?_
      refine er_loc (pc' := 45) (L' := [(3, _), (2, _), (0, _), (1, _)]) rfl rfl rfl ?_
      obtain ⟨j, h1j, h40j, hj⟩ := sIn_ex (by omega) (by omega) h7
      subst hj
      refine ER_loc [(0, _), (1, _), (2, _), (3, _)] rfl (List.forall_mem_cons.mpr ⟨rfl, List.forall_mem_cons.mpr ⟨rfl, List.forall_mem_cons.mpr ⟨rfl, List.forall_mem_cons.mpr ⟨rfl, fun _ h => absurd h List.not_mem_nil⟩⟩⟩⟩) rfl rfl ?_
      refine ER.mono (l_rLoose_loop (d := d) j j 0 t X Z (nI 0) _ ⟨by omega, h40j⟩ rfl hI (by omega)) (fun r hr => ?_)
      rw [if_pos h7, if_pos (by unfold sLooseOk; rw [jm010, Int32.mul_comm]; simp [h31]), nN_nI (by omega)]
      exact hr
    · refine er_loc (pc' := 35) rfl rfl rfl ?_
      refine er_ldc (pc' := 37) (-1000000003) rfl rfl rfl rfl rfl ?_
      refine er_cIz (pc' := 40) (rest := []) 12 rfl rfl rfl rfl rfl rfl (l_rError3 _ _ _) ?_
      intro Z9
      refine er_iret rfl rfl ?_
      rw [if_pos h7, if_neg (by unfold sLooseOk; rw [jm010, Int32.mul_comm]; simp [h31])]
      exact RI_of rfl rfl
  · refine er_loc (pc' := 11) rfl rfl rfl ?_
    refine er_ldc (pc' := 13) (-1000000001) rfl rfl rfl rfl rfl ?_
    refine er_cIz (pc' := 16) (rest := []) 12 rfl rfl rfl rfl rfl rfl (l_rError1 _ _ _) ?_
    intro Z9
    refine er_iret rfl rfl ?_
    rw [if_neg (by rw [h7]; decide)]
    exact RI_of rfl rfl
end
