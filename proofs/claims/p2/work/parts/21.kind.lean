/-! KINDS: what they do otherwise; the JOB as a row of numbers by cell and place -/
def nN (x : Int32) : Nat := x.toNatClampNeg
theorem nN_nI {n : Nat} (h : n < 2 ^ 31) : nN (nI n) = n := nI_clamp h
theorem lt7 {q : Nat} (h : q < 7) : q = 0 ∨ q = 1 ∨ q = 2 ∨ q = 3 ∨ q = 4 ∨ q = 5 ∨ q = 6 := by omega
theorem lt8 {q : Nat} (h : q < 8) : q = 0 ∨ q = 1 ∨ q = 2 ∨ q = 3 ∨ q = 4 ∨ q = 5 ∨ q = 6 ∨ q = 7 := by omega
theorem cO_S {q : Nat} (h : q < 7) (x z : Nat → Int32) : cO (2 + q) x z = .inl (q, []) := by
  rcases lt7 h with rfl | rfl | rfl | rfl | rfl | rfl | rfl <;> rfl
theorem blt_S {q : Nat} (h : q < 7) : Nat.blt (2 + q) 79 = true := Nat.ble_eq_true_of_le (by omega)
def sLasting (q : Nat) (v h m s : Int32) : Int32 := match q with
  | 0 => v
  | 1 => v + nI 1
  | 2 => v + nI 2
  | 3 => if h = nI 1 then v * nI 2 else v
  | 4 => v + nI 1 + (m - m / nI 3 * nI 3)
  | 5 => v + nI 2 + s
  | _ => (if h = nI 1 then v * nI 2 else v) + m
def sBackOf (q : Nat) (v : Int32) : Int32 := if q = 3 ∨ q = 6 then v else v / nI 2
def sNever (q : Nat) : Bool := decide (q = 2) || decide (q = 5)
def sHands (q : Nat) : Int32 := if q = 6 then nI 2 else nI 1
def tgL (q : Nat) : Nat := match q with
  | 0 => 1
  | 1 => 10
  | 2 => 13
  | 3 => 17
  | 4 => 21
  | 5 => 24
  | _ => 27
def tgB (q : Nat) : Nat := if q = 3 ∨ q = 6 then 18 else 2
def tgN (q : Nat) : Nat := if q = 2 ∨ q = 5 then 14 else 4
def tgH (q : Nat) : Nat := if q = 6 then 28 else 3
set_option maxRecDepth 100000 in
set_option maxHeartbeats 4000000 in
theorem l_lasting0 (d c : Nat) (v h m s : Int32) (X Z : Nat → Nat → Int32) (hc : Nat.blt c 79 = true) (ho : ∃ k, k < 7 ∧ c = 2 + k) : EC (d + 1) 1 [.ref c, .int v, .int h, .int m, .int s] (Wd X Z) (PI (sLasting 0 v h m s) (Wd X Z)) := by
  refine er_enter (L := [(0, _), (1, _), (2, _), (3, _), (4, _)]) rfl rfl rfl ?_
  refine er_loc (pc' := 1) rfl rfl rfl ?_
  refine er_iret rfl rfl ?_
  exact PI_of (by simp [sLasting, *])
set_option maxRecDepth 100000 in
set_option maxHeartbeats 4000000 in
theorem l_lasting1 (d c : Nat) (v h m s : Int32) (X Z : Nat → Nat → Int32) (hc : Nat.blt c 79 = true) (ho : ∃ k, k < 7 ∧ c = 2 + k) : EC (d + 1) 10 [.ref c, .int v, .int h, .int m, .int s] (Wd X Z) (PI (sLasting 1 v h m s) (Wd X Z)) := by
  refine er_enter (L := [(0, _), (1, _), (2, _), (3, _), (4, _)]) rfl rfl rfl ?_
  refine er_loc (pc' := 1) rfl rfl rfl ?_
  refine er_k (pc' := 2) (nI 1) rfl rfl rfl ?_
  refine er_iadd (pc' := 3) rfl rfl ?_
  refine er_iret rfl rfl ?_
  exact PI_of (by simp [sLasting, *])
set_option maxRecDepth 100000 in
set_option maxHeartbeats 4000000 in
theorem l_lasting2 (d c : Nat) (v h m s : Int32) (X Z : Nat → Nat → Int32) (hc : Nat.blt c 79 = true) (ho : ∃ k, k < 7 ∧ c = 2 + k) : EC (d + 1) 13 [.ref c, .int v, .int h, .int m, .int s] (Wd X Z) (PI (sLasting 2 v h m s) (Wd X Z)) := by
  refine er_enter (L := [(0, _), (1, _), (2, _), (3, _), (4, _)]) rfl rfl rfl ?_
  refine er_loc (pc' := 1) rfl rfl rfl ?_
  refine er_k (pc' := 2) (nI 2) rfl rfl rfl ?_
  refine er_iadd (pc' := 3) rfl rfl ?_
  refine er_iret rfl rfl ?_
  exact PI_of (by simp [sLasting, *])
set_option maxRecDepth 100000 in
set_option maxHeartbeats 4000000 in
theorem l_lasting3 (d c : Nat) (v h m s : Int32) (X Z : Nat → Nat → Int32) (hc : Nat.blt c 79 = true) (ho : ∃ k, k < 7 ∧ c = 2 + k) : EC (d + 1) 17 [.ref c, .int v, .int h, .int m, .int s] (Wd X Z) (PI (sLasting 3 v h m s) (Wd X Z)) := by
  refine er_enter (L := [(0, _), (1, _), (2, _), (3, _), (4, _)]) rfl rfl rfl ?_
  refine er_loc (pc' := 1) rfl rfl rfl ?_
  refine er_k (pc' := 2) (nI 1) rfl rfl rfl ?_
  refine er_cm_ne (pc' := 5) rfl rfl (fun h2 => ?_) (fun h2 => ?_)
  · refine er_loc (pc' := 12) rfl rfl rfl ?_
    refine er_iret rfl rfl ?_
    exact PI_of (by simp [sLasting, *])
  · refine er_loc (pc' := 6) rfl rfl rfl ?_
    refine er_k (pc' := 7) (nI 2) rfl rfl rfl ?_
    refine er_imul (pc' := 8) rfl rfl ?_
    refine er_goto rfl ?_
    refine er_iret rfl rfl ?_
    exact PI_of (by simp [sLasting, *])
set_option maxRecDepth 100000 in
set_option maxHeartbeats 4000000 in
theorem l_lasting4 (d c : Nat) (v h m s : Int32) (X Z : Nat → Nat → Int32) (hc : c = 2 + 4) : EC (d + 2) 21 [.ref c, .int v, .int h, .int m, .int s] (Wd X Z) (PI (sLasting 4 v h m s) (Wd X Z)) := by
  refine er_enter (L := [(0, _), (1, _), (2, _), (3, _), (4, _)]) rfl rfl rfl ?_
  subst hc
  refine er_loc (pc' := 1) rfl rfl rfl ?_
  refine er_loc (pc' := 2) rfl rfl rfl ?_
  refine er_loc (pc' := 3) rfl rfl rfl ?_
  refine er_loc (pc' := 4) rfl rfl rfl ?_
  refine er_loc (pc' := 6) rfl rfl rfl ?_
  refine er_cIi (pc' := 9) (rest := []) 4 rfl rfl rfl rfl rfl rfl (l_lasting1 _ _ _ _ _ _ _ _ rfl ⟨_, by omega, rfl⟩) ?_
  refine er_loc (pc' := 10) rfl rfl rfl ?_
  refine er_k (pc' := 11) (nI 3) rfl rfl rfl ?_
  refine er_irem (pc' := 12) rfl rfl (by decide) ?_
  refine er_iadd (pc' := 13) rfl rfl ?_
  refine er_iret rfl rfl ?_
  exact PI_of (by simp [sLasting, *])
set_option maxRecDepth 100000 in
set_option maxHeartbeats 4000000 in
theorem l_lasting5 (d c : Nat) (v h m s : Int32) (X Z : Nat → Nat → Int32) (hc : c = 2 + 5) : EC (d + 2) 24 [.ref c, .int v, .int h, .int m, .int s] (Wd X Z) (PI (sLasting 5 v h m s) (Wd X Z)) := by
  refine er_enter (L := [(0, _), (1, _), (2, _), (3, _), (4, _)]) rfl rfl rfl ?_
  subst hc
  refine er_loc (pc' := 1) rfl rfl rfl ?_
  refine er_loc (pc' := 2) rfl rfl rfl ?_
  refine er_loc (pc' := 3) rfl rfl rfl ?_
  refine er_loc (pc' := 4) rfl rfl rfl ?_
  refine er_loc (pc' := 6) rfl rfl rfl ?_
  refine er_cIi (pc' := 9) (rest := []) 5 rfl rfl rfl rfl rfl rfl (l_lasting2 _ _ _ _ _ _ _ _ rfl ⟨_, by omega, rfl⟩) ?_
  refine er_loc (pc' := 11) rfl rfl rfl ?_
  refine er_iadd (pc' := 12) rfl rfl ?_
  refine er_iret rfl rfl ?_
  exact PI_of (by simp [sLasting, *])
set_option maxRecDepth 100000 in
set_option maxHeartbeats 4000000 in
theorem l_lasting6 (d c : Nat) (v h m s : Int32) (X Z : Nat → Nat → Int32) (hc : c = 2 + 6) : EC (d + 2) 27 [.ref c, .int v, .int h, .int m, .int s] (Wd X Z) (PI (sLasting 6 v h m s) (Wd X Z)) := by
  refine er_enter (L := [(0, _), (1, _), (2, _), (3, _), (4, _)]) rfl rfl rfl ?_
  subst hc
  refine er_loc (pc' := 1) rfl rfl rfl ?_
  refine er_loc (pc' := 2) rfl rfl rfl ?_
  refine er_loc (pc' := 3) rfl rfl rfl ?_
  refine er_loc (pc' := 4) rfl rfl rfl ?_
  refine er_loc (pc' := 6) rfl rfl rfl ?_
  refine er_cIi (pc' := 9) (rest := []) 6 rfl rfl rfl rfl rfl rfl (l_lasting3 _ _ _ _ _ _ _ _ rfl ⟨_, by omega, rfl⟩) ?_
  refine er_loc (pc' := 10) rfl rfl rfl ?_
  refine er_iadd (pc' := 11) rfl rfl ?_
  refine er_iret rfl rfl ?_
  exact PI_of (by simp [sLasting, *])
theorem l_lasting (d q : Nat) (v h m s : Int32) (X Z : Nat → Nat → Int32) (hq : q < 7) : EC (d + 2) (tgL q) [.ref (2 + q), .int v, .int h, .int m, .int s] (Wd X Z) (PI (sLasting q v h m s) (Wd X Z)) := by
  rcases lt7 hq with rfl | rfl | rfl | rfl | rfl | rfl | rfl
  · exact l_lasting0 (d + 1) _ _ _ _ _ _ _ rfl ⟨0, by omega, rfl⟩
  · exact l_lasting1 (d + 1) _ _ _ _ _ _ _ rfl ⟨1, by omega, rfl⟩
  · exact l_lasting2 (d + 1) _ _ _ _ _ _ _ rfl ⟨2, by omega, rfl⟩
  · exact l_lasting3 (d + 1) _ _ _ _ _ _ _ rfl ⟨3, by omega, rfl⟩
  · exact l_lasting4 d _ _ _ _ _ _ _ rfl
  · exact l_lasting5 d _ _ _ _ _ _ _ rfl
  · exact l_lasting6 d _ _ _ _ _ _ _ rfl
set_option maxRecDepth 100000 in
set_option maxHeartbeats 4000000 in
theorem l_back (d c : Nat) (v : Int32) (w : ab_W) : EC (d + 1) 2 [.ref c, .int v] w (PI (v / nI 2) w) := by
  refine er_enter (L := [(0, _), (1, _)]) rfl rfl rfl ?_
  refine er_loc (pc' := 1) rfl rfl rfl ?_
  refine er_k (pc' := 2) (nI 2) rfl rfl rfl ?_
  refine er_idiv (pc' := 3) rfl rfl (by decide) ?_
  refine er_iret rfl rfl ?_
  exact PI_of rfl
set_option maxRecDepth 100000 in
set_option maxHeartbeats 4000000 in
theorem l_back3 (d c : Nat) (v : Int32) (w : ab_W) : EC (d + 1) 18 [.ref c, .int v] w (PI (v) w) := by
  refine er_enter (L := [(0, _), (1, _)]) rfl rfl rfl ?_
  refine er_loc (pc' := 1) rfl rfl rfl ?_
  refine er_iret rfl rfl ?_
  exact PI_of rfl
set_option maxRecDepth 100000 in
set_option maxHeartbeats 4000000 in
theorem l_never (d c : Nat) (w : ab_W) : EC (d + 1) 4 [.ref c] w (PI (bI false) w) := by
  refine er_enter (L := [(0, _)]) rfl rfl rfl ?_
  refine er_k (pc' := 1) (nI 0) rfl rfl rfl ?_
  refine er_ret _ rfl rfl ?_
  exact PI_of rfl
set_option maxRecDepth 100000 in
set_option maxHeartbeats 4000000 in
theorem l_never2 (d c : Nat) (w : ab_W) : EC (d + 1) 14 [.ref c] w (PI (bI true) w) := by
  refine er_enter (L := [(0, _)]) rfl rfl rfl ?_
  refine er_k (pc' := 1) (nI 1) rfl rfl rfl ?_
  refine er_ret _ rfl rfl ?_
  exact PI_of rfl
set_option maxRecDepth 100000 in
set_option maxHeartbeats 4000000 in
theorem l_hands (d c : Nat) (w : ab_W) : EC (d + 1) 3 [.ref c] w (PI (nI 1) w) := by
  refine er_enter (L := [(0, _)]) rfl rfl rfl ?_
  refine er_k (pc' := 1) (nI 1) rfl rfl rfl ?_
  refine er_iret rfl rfl ?_
  exact PI_of rfl
set_option maxRecDepth 100000 in
set_option maxHeartbeats 4000000 in
theorem l_hands6 (d c : Nat) (w : ab_W) : EC (d + 1) 28 [.ref c] w (PI (nI 2) w) := by
  refine er_enter (L := [(0, _)]) rfl rfl rfl ?_
  refine er_k (pc' := 1) (nI 2) rfl rfl rfl ?_
  refine er_iret rfl rfl ?_
  exact PI_of rfl
theorem l_backOf (d q : Nat) (v : Int32) (w : ab_W) (hq : q < 7) : EC (d + 1) (tgB q) [.ref (2 + q), .int v] w (PI (sBackOf q v) w) := by
  rcases lt7 hq with rfl | rfl | rfl | rfl | rfl | rfl | rfl
  · exact l_back d _ v w
  · exact l_back d _ v w
  · exact l_back d _ v w
  · exact l_back3 d _ v w
  · exact l_back d _ v w
  · exact l_back d _ v w
  · exact l_back3 d _ v w
theorem l_neverOf (d q : Nat) (w : ab_W) (hq : q < 7) : EC (d + 1) (tgN q) [.ref (2 + q)] w (PI (bI (sNever q)) w) := by
  rcases lt7 hq with rfl | rfl | rfl | rfl | rfl | rfl | rfl
  · exact l_never d _ w
  · exact l_never d _ w
  · exact l_never2 d _ w
  · exact l_never d _ w
  · exact l_never d _ w
  · exact l_never2 d _ w
  · exact l_never d _ w
theorem l_handsOf (d q : Nat) (w : ab_W) (hq : q < 7) : EC (d + 1) (tgH q) [.ref (2 + q)] w (PI (sHands q) w) := by
  rcases lt7 hq with rfl | rfl | rfl | rfl | rfl | rfl | rfl
  · exact l_hands d _ w
  · exact l_hands d _ w
  · exact l_hands d _ w
  · exact l_hands d _ w
  · exact l_hands d _ w
  · exact l_hands d _ w
  · exact l_hands6 d _ w
