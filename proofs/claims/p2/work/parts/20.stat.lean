/-! STATIC FUNCTIONS OF NUMBERS, on both sides -/
def sIn (v a b : Int32) : Bool := !decide (v < a) && !decide (b < v)
def sHeld (v a b : Int32) : Int32 := if v < a then a else if b < v then b else v
def sErr (k : Nat) : Int32 := (-1000000000) - nI k
set_option maxRecDepth 100000 in
set_option maxHeartbeats 4000000 in
theorem l_within (d : Nat) (v a b : Int32) (w : ab_W) : EC (d + 1) 76 [.int v, .int a, .int b] w (PI (bI (sIn v a b)) w) := by
  refine er_enter (L := [(0, _), (1, _), (2, _)]) rfl rfl rfl ?_
  refine er_loc (pc' := 1) rfl rfl rfl ?_
  refine er_loc (pc' := 2) rfl rfl rfl ?_
  refine er_cm_lt (pc' := 5) rfl rfl (fun h2 => ?_) (fun h2 => ?_)
  · refine er_k (pc' := 15) (nI 0) rfl rfl rfl ?_
    refine er_ret _ rfl rfl ?_
    exact PI_of (bI_eq0 (by simp [sIn, *]))
  · refine er_loc (pc' := 6) rfl rfl rfl ?_
    refine er_loc (pc' := 7) rfl rfl rfl ?_
    refine er_cm_gt (pc' := 10) rfl rfl (fun h7 => ?_) (fun h7 => ?_)
    · refine er_k (pc' := 15) (nI 0) rfl rfl rfl ?_
      refine er_ret _ rfl rfl ?_
      exact PI_of (bI_eq0 (by simp [sIn, *]))
    · refine er_k (pc' := 11) (nI 1) rfl rfl rfl ?_
      refine er_goto rfl ?_
      refine er_ret _ rfl rfl ?_
      exact PI_of (bI_eq1 (by simp [sIn, *]))
set_option maxRecDepth 100000 in
set_option maxHeartbeats 4000000 in
theorem l_in (d : Nat) (v a b : Int32) (w : ab_W) : EC (d + 1) 128 [.int v, .int a, .int b] w (PI (bI (sIn v a b)) w) := by
  refine er_enter (L := [(0, _), (1, _), (2, _)]) rfl rfl rfl ?_
  refine er_loc (pc' := 1) rfl rfl rfl ?_
  refine er_loc (pc' := 2) rfl rfl rfl ?_
  refine er_cm_lt (pc' := 5) rfl rfl (fun h2 => ?_) (fun h2 => ?_)
  · refine er_k (pc' := 15) (nI 0) rfl rfl rfl ?_
    refine er_ret _ rfl rfl ?_
    exact PI_of (bI_eq0 (by simp [sIn, *]))
  · refine er_loc (pc' := 6) rfl rfl rfl ?_
    refine er_loc (pc' := 7) rfl rfl rfl ?_
    refine er_cm_gt (pc' := 10) rfl rfl (fun h7 => ?_) (fun h7 => ?_)
    · refine er_k (pc' := 15) (nI 0) rfl rfl rfl ?_
      refine er_ret _ rfl rfl ?_
      exact PI_of (bI_eq0 (by simp [sIn, *]))
    · refine er_k (pc' := 11) (nI 1) rfl rfl rfl ?_
      refine er_goto rfl ?_
      refine er_ret _ rfl rfl ?_
      exact PI_of (bI_eq1 (by simp [sIn, *]))
set_option maxRecDepth 100000 in
set_option maxHeartbeats 4000000 in
theorem l_held (d : Nat) (v a b : Int32) (w : ab_W) : EC (d + 1) 141 [.int v, .int a, .int b] w (PI (sHeld v a b) w) := by
  refine er_enter (L := [(0, _), (1, _), (2, _)]) rfl rfl rfl ?_
  refine er_loc (pc' := 1) rfl rfl rfl ?_
  refine er_loc (pc' := 2) rfl rfl rfl ?_
  refine er_cm_ge (pc' := 5) rfl rfl (fun h2 => ?_) (fun h2 => ?_)
  · refine er_loc (pc' := 10) rfl rfl rfl ?_
    refine er_loc (pc' := 11) rfl rfl rfl ?_
    refine er_cm_le (pc' := 14) rfl rfl (fun h11 => ?_) (fun h11 => ?_)
    · refine er_loc (pc' := 19) rfl rfl rfl ?_
      refine er_iret rfl rfl ?_
      exact PI_of (by first | rfl | (simp [sHeld, *]; done) | (simp only [sHeld, Int32.lt_iff_toInt_lt, Int32.le_iff_toInt_le] at *; (repeat' split) <;> first | rfl | omega))
    · refine er_loc (pc' := 15) rfl rfl rfl ?_
      refine er_goto rfl ?_
      refine er_iret rfl rfl ?_
      exact PI_of (by first | rfl | (simp [sHeld, *]; done) | (simp only [sHeld, Int32.lt_iff_toInt_lt, Int32.le_iff_toInt_le] at *; (repeat' split) <;> first | rfl | omega))
  · refine er_loc (pc' := 6) rfl rfl rfl ?_
    refine er_goto rfl ?_
    refine er_iret rfl rfl ?_
    exact PI_of (by first | rfl | (simp [sHeld, *]; done) | (simp only [sHeld, Int32.lt_iff_toInt_lt, Int32.le_iff_toInt_le] at *; (repeat' split) <;> first | rfl | omega))
set_option maxRecDepth 100000 in
set_option maxHeartbeats 4000000 in
theorem l_xSheet (d : Nat) (v : Int32) (w : ab_W) : EC (d + 2) 106 [.int v] w (PI (bI (sIn v (nI 0) (nI 3))) w) := by
  refine er_enter (L := [(0, _)]) rfl rfl rfl ?_
  refine er_loc (pc' := 1) rfl rfl rfl ?_
  refine er_k (pc' := 2) (nI 0) rfl rfl rfl ?_
  refine er_k (pc' := 3) (nI 3) rfl rfl rfl ?_
  refine er_cSi (pc' := 6) (rest := []) rfl rfl rfl (l_within _ _ _ _ _) ?_
  refine er_zret rfl rfl ?_
  exact PI_of rfl
set_option maxRecDepth 100000 in
set_option maxHeartbeats 4000000 in
theorem l_mSheet (d : Nat) (v : Int32) (w : ab_W) : EC (d + 2) 196 [.int v] w (PI (bI (sIn v (nI 0) (nI 3))) w) := by
  refine er_enter (L := [(0, _)]) rfl rfl rfl ?_
  refine er_loc (pc' := 1) rfl rfl rfl ?_
  refine er_k (pc' := 2) (nI 0) rfl rfl rfl ?_
  refine er_k (pc' := 3) (nI 3) rfl rfl rfl ?_
  refine er_cSi (pc' := 6) (rest := []) rfl rfl rfl (l_in _ _ _ _ _) ?_
  refine er_zret rfl rfl ?_
  exact PI_of rfl
set_option maxRecDepth 100000 in
set_option maxHeartbeats 4000000 in
theorem l_isKm (d : Nat) (v : Int32) (w : ab_W) : EC (d + 2) 127 [.int v] w (PI (bI (sIn v (nI 0) (nI 69))) w) := by
  refine er_enter (L := [(0, _)]) rfl rfl rfl ?_
  refine er_loc (pc' := 1) rfl rfl rfl ?_
  refine er_k (pc' := 2) (nI 0) rfl rfl rfl ?_
  refine er_k (pc' := 4) (nI 69) rfl rfl rfl ?_
  refine er_cSi (pc' := 7) (rest := []) rfl rfl rfl (l_in _ _ _ _ _) ?_
  refine er_zret rfl rfl ?_
  exact PI_of rfl
def sBit (x s : Int32) : Bool := decide (((x.toUInt32 >>> (s.toUInt32 &&& Int32.toUInt32 31)).toInt32 &&& nI 1) = nI 1)
def sWith (x s : Int32) (b : Bool) : Int32 := cond b (x ||| (nI 1 <<< (s &&& 31))) (x &&& ((nI 1 <<< (s &&& 31)) ^^^ (-1)))
def sUse (u : Int32) : Bool := decide (u = 0) || decide (u = nI 1)
set_option maxRecDepth 100000 in
set_option maxHeartbeats 4000000 in
theorem l_isIn (d : Nat) (x s : Int32) (w : ab_W) : EC (d + 1) 79 [.int x, .int s] w (PI (bI (sBit x s)) w) := by
  refine er_enter (L := [(0, _), (1, _)]) rfl rfl rfl ?_
  refine er_loc (pc' := 1) rfl rfl rfl ?_
  refine er_loc (pc' := 2) rfl rfl rfl ?_
  refine er_iushr (pc' := 3) rfl rfl ?_
  refine er_k (pc' := 4) (nI 1) rfl rfl rfl ?_
  refine er_iand (pc' := 5) rfl rfl ?_
  refine er_k (pc' := 6) (nI 1) rfl rfl rfl ?_
  refine er_cm_ne (pc' := 9) rfl rfl (fun h6 => ?_) (fun h6 => ?_)
  · refine er_k (pc' := 14) (nI 0) rfl rfl rfl ?_
    refine er_ret _ rfl rfl ?_
    exact PI_of (bI_eq0 (by simp [sBit, *]))
  · refine er_k (pc' := 10) (nI 1) rfl rfl rfl ?_
    refine er_goto rfl ?_
    refine er_ret _ rfl rfl ?_
    exact PI_of (bI_eq1 (by simp [sBit, *]))
set_option maxRecDepth 100000 in
set_option maxHeartbeats 4000000 in
theorem l_with (d : Nat) (x s : Int32) (b : Bool) (w : ab_W) : EC (d + 1) 82 [.int x, .int s, .int (bI b)] w (PI (sWith x s b) w) := by
  refine er_enter (L := [(0, _), (1, _), (2, _)]) rfl rfl rfl ?_
  refine er_loc (pc' := 1) rfl rfl rfl ?_
  refine er_if_eqb (pc' := 4) rfl rfl (fun h1 => ?_) (fun h1 => ?_)
  · refine er_loc (pc' := 13) rfl rfl rfl ?_
    refine er_k (pc' := 14) (nI 1) rfl rfl rfl ?_
    refine er_loc (pc' := 15) rfl rfl rfl ?_
    refine er_ishl (pc' := 16) rfl rfl ?_
    refine er_k (pc' := 17) (-1) rfl rfl rfl ?_
    refine er_ixor (pc' := 18) rfl rfl ?_
    refine er_iand (pc' := 19) rfl rfl ?_
    refine er_iret rfl rfl ?_
    exact PI_of (by simp [sWith, *])
  · refine er_loc (pc' := 5) rfl rfl rfl ?_
    refine er_k (pc' := 6) (nI 1) rfl rfl rfl ?_
    refine er_loc (pc' := 7) rfl rfl rfl ?_
    refine er_ishl (pc' := 8) rfl rfl ?_
    refine er_ior (pc' := 9) rfl rfl ?_
    refine er_goto rfl ?_
    refine er_iret rfl rfl ?_
    exact PI_of (by simp [sWith, *])
set_option maxRecDepth 100000 in
set_option maxHeartbeats 4000000 in
theorem l_isUse (d : Nat) (u : Int32) (w : ab_W) : EC (d + 1) 89 [.int u] w (PI (bI (sUse u)) w) := by
  refine er_enter (L := [(0, _)]) rfl rfl rfl ?_
  refine er_loc (pc' := 1) rfl rfl rfl ?_
  refine er_if_eq (pc' := 4) rfl rfl (fun h1 => ?_) (fun h1 => ?_)
  · refine er_k (pc' := 10) (nI 1) rfl rfl rfl ?_
    refine er_goto rfl ?_
    refine er_ret _ rfl rfl ?_
    exact PI_of (bI_eq1 (by simp [sUse, *]))
  · refine er_loc (pc' := 5) rfl rfl rfl ?_
    refine er_k (pc' := 6) (nI 1) rfl rfl rfl ?_
    refine er_cm_ne (pc' := 9) rfl rfl (fun h6 => ?_) (fun h6 => ?_)
    · refine er_k (pc' := 14) (nI 0) rfl rfl rfl ?_
      refine er_ret _ rfl rfl ?_
      exact PI_of (bI_eq0 (by simp [sUse, *]))
    · refine er_k (pc' := 10) (nI 1) rfl rfl rfl ?_
      refine er_goto rfl ?_
      refine er_ret _ rfl rfl ?_
      exact PI_of (bI_eq1 (by simp [sUse, *]))
