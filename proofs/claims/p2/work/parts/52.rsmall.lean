/-! THE REFERENCE: small ones over its row -/
def rS (R : Nat → Int32) (o : Nat) : Nat → Int32
  | 0 => nI 0
  | n + 1 => rS R o n + R (o + 6 * n)
def rNever (R : Nat → Int32) (i : Nat) : Bool := decide (R (7 + 6 * i) = nI 2) || decide (R (7 + 6 * i) = nI 5)
set_option maxRecDepth 100000 in
set_option maxHeartbeats 4000000 in
theorem l_rTired (d : Nat) (X Z : Nat → Nat → Int32) : EC (d + 2) 140 [.ref 63] (Wd X Z) (PI (sHeld (X 64 0 / nI 30) (nI 0) (nI 9)) (Wd X Z)) := by
  refine er_enter (L := [(0, _)]) rfl rfl rfl ?_
  refine er_loc (pc' := 1) rfl rfl rfl ?_
  refine er_gf (pc' := 4) (_) rfl rfl rfl rfl rfl ?_
  refine er_k (pc' := 5) (nI 0) rfl rfl rfl ?_
  refine er_ia (pc' := 6) (0) rfl rfl rfl rfl (by omega) rfl rfl ?_
  refine er_k (pc' := 8) (nI 30) rfl rfl rfl ?_
  refine er_idiv (pc' := 9) rfl rfl (by decide) ?_
  refine er_k (pc' := 10) (nI 0) rfl rfl rfl ?_
  refine er_k (pc' := 12) (nI 9) rfl rfl rfl ?_
  refine er_cSi (pc' := 15) (rest := []) rfl rfl rfl (l_held _ _ _ _ _) ?_
  refine er_iret rfl rfl ?_
  exact PI_of rfl
set_option maxRecDepth 100000 in
set_option maxHeartbeats 4000000 in
theorem l_rBecomes (d : Nat) (X Z : Nat → Nat → Int32) {p : Nat} (hp : p < 327) (v : Int32) : EC (d + 1) 147 [.ref 63, .int (nI p), .int v] (Wd X Z) (RI (X 64 p) (ud X 64 p v)) := by
  refine er_enter (L := [(0, _), (1, _), (2, _)]) rfl rfl rfl ?_
  refine er_loc (pc' := 1) rfl rfl rfl ?_
  refine er_gf (pc' := 4) (_) rfl rfl rfl rfl rfl ?_
  refine er_loc (pc' := 5) rfl rfl rfl ?_
  refine er_ia (pc' := 6) (p) rfl rfl rfl rfl (by omega) rfl rfl ?_
  refine er_loc (pc' := 7) (L' := [(3, _), (0, _), (1, _), (2, _)]) rfl rfl rfl ?_
  refine er_loc (pc' := 8) rfl rfl rfl ?_
  refine er_gf (pc' := 11) (_) rfl rfl rfl rfl rfl ?_
  refine er_loc (pc' := 12) rfl rfl rfl ?_
  refine er_loc (pc' := 13) rfl rfl rfl ?_
  refine er_isX (pc' := 14) (p) rfl rfl (fun _ => rfl) rfl (by omega) rfl rfl ?_
  refine er_loc (pc' := 15) rfl rfl rfl ?_
  refine er_iret rfl rfl ?_
  exact RI_of rfl rfl
set_option maxRecDepth 100000 in
set_option maxHeartbeats 4000000 in
theorem l_rNever (d : Nat) (X Z : Nat → Nat → Int32) {i : Nat} (hi : i < 8) : EC (d + 2) 137 [.ref 63, .int (nI i)] (Wd X Z) (PI (bI (rNever (X 64) i)) (Wd X Z)) := by
  refine er_enter (L := [(0, _), (1, _)]) rfl rfl rfl ?_
  refine er_loc (pc' := 1) rfl rfl rfl ?_
  refine er_loc (pc' := 2) rfl rfl rfl ?_
  refine er_k (pc' := 3) (nI 0) rfl rfl rfl ?_
  refine er_cIi (pc' := 6) (rest := []) 12 rfl rfl rfl rfl rfl rfl (l_rOf _ X Z hi (by omega)) ?_
  rw [show 7 + 6 * i + 0 = 7 + 6 * i from rfl]
  refine er_k (pc' := 7) (nI 2) rfl rfl rfl ?_
  refine er_cm_eq (pc' := 10) rfl rfl (fun h7 => ?_) (fun h7 => ?_)
  · refine er_k (pc' := 21) (nI 1) rfl rfl rfl ?_
    refine er_goto rfl ?_
    refine er_ret _ rfl rfl ?_
    exact PI_of (bI_eq1 (by simp [rNever, *]))
  · refine er_loc (pc' := 11) rfl rfl rfl ?_
    refine er_loc (pc' := 12) rfl rfl rfl ?_
    refine er_k (pc' := 13) (nI 0) rfl rfl rfl ?_
    refine er_cIi (pc' := 16) (rest := []) 12 rfl rfl rfl rfl rfl rfl (l_rOf _ X Z hi (by omega)) ?_
    rw [show 7 + 6 * i + 0 = 7 + 6 * i from rfl]
    refine er_k (pc' := 17) (nI 5) rfl rfl rfl ?_
    refine er_cm_ne (pc' := 20) rfl rfl (fun h17 => ?_) (fun h17 => ?_)
    · refine er_k (pc' := 25) (nI 0) rfl rfl rfl ?_
      refine er_ret _ rfl rfl ?_
      exact PI_of (bI_eq0 (by simp [rNever, *]))
    · refine er_k (pc' := 21) (nI 1) rfl rfl rfl ?_
      refine er_goto rfl ?_
      refine er_ret _ rfl rfl ?_
      exact PI_of (bI_eq1 (by simp [rNever, *]))
set_option maxRecDepth 100000 in
set_option maxHeartbeats 4000000 in
theorem l_rWrongs_loop (d : Nat) (X Z : Nat → Nat → Int32) (n : Nat) (h2 : X 64 2 = nI n) (hn : n ≤ 8) : ∀ (m i : Nat) (a x : Int32), i + m = n → x = nI i → a = rS (X 64) 12 i → ER (d + 1) tb_m180 4 [(0, .ref 63), (1, .int a), (2, .int x)] [] (Wd X Z) (PI (rS (X 64) 12 n) (Wd X Z))
  | 0, i, a, x, hi, hx, ha => by
    have hi0 : i = n := by omega
    subst hx
    subst hi0
    subst ha
    refine er_loc (pc' := 5) rfl rfl rfl ?_
    refine er_loc (pc' := 6) rfl rfl rfl ?_
    refine er_gf (pc' := 9) (_) rfl rfl rfl rfl rfl ?_
    refine er_k (pc' := 10) (nI 2) rfl rfl rfl ?_
    refine er_ia (pc' := 11) (2) rfl rfl rfl rfl (by omega) rfl rfl ?_
    rw [h2]
    refine er_cm_geT rfl (nI_nlt (by omega) (by omega)) ?_
    refine er_loc (pc' := 30) rfl rfl rfl ?_
    refine er_iret rfl rfl ?_
    exact PI_of rfl
  | m + 1, i, a, x, hi, hx, ha => by
    subst hx
    subst ha
    refine er_loc (pc' := 5) rfl rfl rfl ?_
    refine er_loc (pc' := 6) rfl rfl rfl ?_
    refine er_gf (pc' := 9) (_) rfl rfl rfl rfl rfl ?_
    refine er_k (pc' := 10) (nI 2) rfl rfl rfl ?_
    refine er_ia (pc' := 11) (2) rfl rfl rfl rfl (by omega) rfl rfl ?_
    rw [h2]
    refine er_cm_geF (pc' := 14) rfl (nI_lt (by omega) (by omega)) rfl ?_
    refine er_loc (pc' := 15) rfl rfl rfl ?_
    refine er_loc (pc' := 16) rfl rfl rfl ?_
    refine er_loc (pc' := 17) rfl rfl rfl ?_
    refine er_k (pc' := 18) (nI 5) rfl rfl rfl ?_
    refine er_cIi (pc' := 21) (rest := [_]) 12 rfl rfl rfl rfl rfl rfl (l_rOf _ X Z (by omega) (by omega)) ?_
    refine er_iadd (pc' := 22) rfl rfl ?_
    refine er_loc (pc' := 23) (L' := [(1, _), (0, _), (2, _)]) rfl rfl rfl ?_
    refine er_loc (L' := [(2, .int (_ + nI 1)), (1, _), (0, _)]) rfl rfl rfl ?_
    refine er_goto rfl ?_
    refine ER_loc [(0, _), (1, _), (2, _)] rfl (List.forall_mem_cons.mpr ⟨rfl, List.forall_mem_cons.mpr ⟨rfl, List.forall_mem_cons.mpr ⟨rfl, fun _ h => absurd h List.not_mem_nil⟩⟩⟩) rfl rfl ?_
    exact l_rWrongs_loop d X Z n h2 hn m (i + 1) _ _ (by omega) (nI_add i 1) (by rw [show 7 + 6 * i + 5 = 12 + 6 * i by omega]; rfl)
set_option maxRecDepth 100000 in
set_option maxHeartbeats 4000000 in
theorem l_rWrongs (d : Nat) (X Z : Nat → Nat → Int32) {n : Nat} (h2 : X 64 2 = nI n) (hn : n ≤ 8) : EC (d + 2) 180 [.ref 63] (Wd X Z) (PI (rS (X 64) 12 n) (Wd X Z)) := by
  refine er_enter (L := [(0, _)]) rfl rfl rfl ?_
  refine er_k (pc' := 1) (nI 0) rfl rfl rfl ?_
  refine er_loc (pc' := 2) (L' := [(1, _), (0, _)]) rfl rfl rfl ?_
  refine er_k (pc' := 3) (nI 0) rfl rfl rfl ?_
  refine er_loc (pc' := 4) (L' := [(2, _), (1, _), (0, _)]) rfl rfl rfl ?_
  refine ER_loc [(0, _), (1, _), (2, _)] rfl (List.forall_mem_cons.mpr ⟨rfl, List.forall_mem_cons.mpr ⟨rfl, List.forall_mem_cons.mpr ⟨rfl, fun _ h => absurd h List.not_mem_nil⟩⟩⟩) rfl rfl ?_
  exact l_rWrongs_loop d X Z n h2 hn n 0 _ _ (by omega) rfl rfl
