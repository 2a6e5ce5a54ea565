/-! TEXTS of names: which of them a byte is -/
def nmI (u : Nat) (b : Nat) : Int32 := if u = 0 then (if b = 115 then nI 0 else if b = 109 then nI 1 else if b = 116 then nI 2 else -1) else (if b = 109 then nI 0 else if b = 116 then nI 1 else if b = 107 then nI 2 else -1)
theorem i8_eq {b c : Nat} (hb : b ≤ 255) (hc : c ≤ 127) : (nI b).toInt8.toInt32 = nI c ↔ b = c := by
  have h := fin_le (m := 255) (p := fun b => (nI b).toInt8.toInt32 = if b ≤ 127 then nI b else nI b - nI 256) hb (by decide +kernel)
  rw [h]
  split
  · exact nI_eq (by omega) (by omega)
  · constructor
    · intro e
      have e2 : (nI b - nI 256).toInt = (nI c).toInt := by rw [e]
      have e3 := fin_le (m := 255) (p := fun b => (nI b - nI 256).toInt < 0) hb (by decide +kernel)
      rw [e2, nI_toInt (by omega)] at e3
      omega
    · intro e; omega
theorem i2c_b {b : Nat} (hb : b ≤ 255) : ((nI b).toUInt32 % 65536).toInt32 = nI b := fin_le (m := 255) (p := fun b => ((nI b).toUInt32 % 65536).toInt32 = nI b) hb (by decide +kernel)
set_option maxRecDepth 100000 in
set_option maxHeartbeats 4000000 in
theorem l_canEncode (d : Nat) (b : Nat) (hb : b ≤ 255) (w : ab_W) : EC (d + 1) 233 [.int (nI b)] w (PI (bI true) w) := by
  refine er_enter (L := [(0, _)]) rfl rfl rfl ?_
  refine er_loc (pc' := 1) rfl rfl rfl ?_
  refine er_if_ltF (pc' := 4) rfl (nI_pos (by omega)) rfl ?_
  refine er_loc (pc' := 5) rfl rfl rfl ?_
  refine er_k (pc' := 8) (nI 255) rfl rfl rfl ?_
  refine er_cm_gtF (pc' := 11) rfl (nI_nlt (by omega) (by omega)) rfl ?_
  refine er_k (pc' := 12) (nI 1) rfl rfl rfl ?_
  refine er_goto rfl ?_
  refine er_ret _ rfl rfl ?_
  exact PI_of rfl
set_option maxRecDepth 100000 in
set_option maxHeartbeats 4000000 in
theorem l_isLatin_0 (d : Nat) (w : ab_W) : EC (d + 1) 229 [.ref 1000101] w (PI (bI true) w) := by
  refine er_enter (L := [(0, _)]) rfl rfl rfl ?_
  refine er_heap (pc' := 3) (st' := [.int (nI 1)]) rfl rfl rfl ?_
  refine er_if_eqF (pc' := 6) rfl (by decide +kernel) rfl ?_
  refine er_loc (pc' := 7) rfl rfl rfl ?_
  refine er_heap (pc' := 10) (st' := [.int (nI 0)]) rfl rfl rfl ?_
  refine er_if_neF (pc' := 13) rfl (by decide +kernel) rfl ?_
  refine er_k (pc' := 14) (nI 1) rfl rfl rfl ?_
  refine er_goto rfl ?_
  refine er_ret _ rfl rfl ?_
  exact PI_of rfl
set_option maxRecDepth 100000 in
set_option maxHeartbeats 4000000 in
theorem l_coder_0 (d : Nat) (w : ab_W) : EC (d + 1) 231 [.ref 1000101] w (PI (nI 0) w) := by
  refine er_enter (L := [(0, _)]) rfl rfl rfl ?_
  refine er_heap (pc' := 3) (st' := [.int (nI 1)]) rfl rfl rfl ?_
  refine er_if_eqF (pc' := 6) rfl (by decide +kernel) rfl ?_
  refine er_loc (pc' := 7) rfl rfl rfl ?_
  refine er_heap (pc' := 10) (st' := [.int (nI 0)]) rfl rfl rfl ?_
  refine er_goto rfl ?_
  refine er_ret _ rfl rfl ?_
  exact PI_of rfl
set_option maxRecDepth 100000 in
set_option maxHeartbeats 4000000 in
theorem l_length_0 (d : Nat) (w : ab_W) : EC (d + 2) 230 [.ref 1000101] w (PI (nI 3) w) := by
  refine er_enter (L := [(0, _)]) rfl rfl rfl ?_
  refine er_loc (pc' := 1) rfl rfl rfl ?_
  refine er_heap (pc' := 4) (st' := [.ref 1000201]) rfl rfl rfl ?_
  refine er_heap (pc' := 5) (st' := [.int (nI 3)]) rfl rfl rfl ?_
  refine er_loc (pc' := 6) rfl rfl rfl ?_
  refine er_cT (pc' := 9) rfl rfl rfl (l_coder_0 _ _) ?_
  refine er_ishr (pc' := 10) rfl rfl ?_
  refine er_iret rfl rfl ?_
  exact PI_of (by decide +kernel)
set_option maxRecDepth 100000 in
set_option maxHeartbeats 4000000 in
theorem l_idxChar_0 (d : Nat) (b : Nat) (hb : b ≤ 255) (w : ab_W) : EC (d + 1) 234 [.ref 1000201, .int (nI b), .int (nI 0), .int (nI 3)] w (PI (nmI 0 b) w) := by
  refine er_enter (L := [(0, _), (1, _), (2, _), (3, _)]) rfl rfl rfl ?_
  refine er_loc (pc' := 1) rfl rfl rfl ?_
  refine er_i2b (pc' := 2) rfl rfl ?_
  refine er_loc (L' := [(4, _), (0, _), (1, _), (2, _), (3, _)]) (pc' := 4) rfl rfl rfl ?_
  refine er_loc (pc' := 5) rfl rfl rfl ?_
  refine er_loc (L' := [(5, _), (4, _), (0, _), (1, _), (2, _), (3, _)]) (pc' := 7) rfl rfl rfl ?_
  refine er_loc (pc' := 9) rfl rfl rfl ?_
  refine er_loc (pc' := 10) rfl rfl rfl ?_
  refine er_cm_geF (pc' := 13) rfl (by decide +kernel) rfl ?_
  refine er_loc (pc' := 14) rfl rfl rfl ?_
  refine er_loc (pc' := 16) rfl rfl rfl ?_
  refine er_heap (pc' := 17) (st' := [.int (nI 115)]) rfl rfl rfl ?_
  refine er_loc (pc' := 19) rfl rfl rfl ?_
  refine er_cm_ne (pc' := 22) rfl rfl (fun h0 => ?_) (fun h0 => ?_)
  rotate_left
  · have e := (i8_eq hb (by omega)).mp h0.symm
    refine er_loc (pc' := 24) rfl rfl rfl ?_
    refine er_iret rfl rfl ?_
    subst e
    exact PI_of (by decide +kernel)
  have n0 : ¬ b = 115 := fun e => h0 ((i8_eq hb (by omega)).mpr e).symm
  refine er_loc (L' := [(5, .int (_ + nI 1)), (4, _), (0, _), (1, _), (2, _), (3, _)]) (pc' := 28) rfl rfl rfl ?_
  refine er_goto rfl ?_
  rw [nI_add]
  refine er_loc (pc' := 9) rfl rfl rfl ?_
  refine er_loc (pc' := 10) rfl rfl rfl ?_
  refine er_cm_geF (pc' := 13) rfl (by decide +kernel) rfl ?_
  refine er_loc (pc' := 14) rfl rfl rfl ?_
  refine er_loc (pc' := 16) rfl rfl rfl ?_
  refine er_heap (pc' := 17) (st' := [.int (nI 109)]) rfl rfl rfl ?_
  refine er_loc (pc' := 19) rfl rfl rfl ?_
  refine er_cm_ne (pc' := 22) rfl rfl (fun h1 => ?_) (fun h1 => ?_)
  rotate_left
  · have e := (i8_eq hb (by omega)).mp h1.symm
    refine er_loc (pc' := 24) rfl rfl rfl ?_
    refine er_iret rfl rfl ?_
    subst e
    exact PI_of (by decide +kernel)
  have n1 : ¬ b = 109 := fun e => h1 ((i8_eq hb (by omega)).mpr e).symm
  refine er_loc (L' := [(5, .int (_ + nI 1)), (4, _), (0, _), (1, _), (2, _), (3, _)]) (pc' := 28) rfl rfl rfl ?_
  refine er_goto rfl ?_
  rw [nI_add]
  refine er_loc (pc' := 9) rfl rfl rfl ?_
  refine er_loc (pc' := 10) rfl rfl rfl ?_
  refine er_cm_geF (pc' := 13) rfl (by decide +kernel) rfl ?_
  refine er_loc (pc' := 14) rfl rfl rfl ?_
  refine er_loc (pc' := 16) rfl rfl rfl ?_
  refine er_heap (pc' := 17) (st' := [.int (nI 116)]) rfl rfl rfl ?_
  refine er_loc (pc' := 19) rfl rfl rfl ?_
  refine er_cm_ne (pc' := 22) rfl rfl (fun h2 => ?_) (fun h2 => ?_)
  rotate_left
  · have e := (i8_eq hb (by omega)).mp h2.symm
    refine er_loc (pc' := 24) rfl rfl rfl ?_
    refine er_iret rfl rfl ?_
    subst e
    exact PI_of (by decide +kernel)
  have n2 : ¬ b = 116 := fun e => h2 ((i8_eq hb (by omega)).mpr e).symm
  refine er_loc (L' := [(5, .int (_ + nI 1)), (4, _), (0, _), (1, _), (2, _), (3, _)]) (pc' := 28) rfl rfl rfl ?_
  refine er_goto rfl ?_
  rw [nI_add]
  refine er_loc (pc' := 9) rfl rfl rfl ?_
  refine er_loc (pc' := 10) rfl rfl rfl ?_
  refine er_cm_geT rfl (by decide +kernel) ?_
  refine er_k (pc' := 32) (-1) rfl rfl rfl ?_
  refine er_iret rfl rfl ?_
  exact PI_of (by simp [nmI, n0, n1, n2])
set_option maxRecDepth 100000 in
set_option maxHeartbeats 4000000 in
theorem l_idxL_0 (d : Nat) (b : Nat) (hb : b ≤ 255) (w : ab_W) : EC (d + 2) 232 [.ref 1000201, .int (nI b), .int (nI 0), .int (nI 3)] w (PI (nmI 0 b) w) := by
  refine er_enter (L := [(0, _), (1, _), (2, _), (3, _)]) rfl rfl rfl ?_
  refine er_loc (pc' := 1) rfl rfl rfl ?_
  refine er_cSi (pc' := 4) (rest := []) rfl rfl rfl (l_canEncode _ b hb _) ?_
  refine er_if_neT rfl (by decide +kernel) ?_
  refine er_loc (pc' := 10) rfl rfl rfl ?_
  refine er_k (pc' := 11) (nI 0) rfl rfl rfl ?_
  refine er_max (pc' := 14) rfl rfl rfl rfl ?_
  rw [show (if nI 0 < nI 0 then nI 0 else nI 0) = nI 0 from by decide +kernel]
  refine er_loc (L' := [(2, _), (0, _), (1, _), (3, _)]) (pc' := 15) rfl rfl rfl ?_
  refine er_loc (pc' := 16) rfl rfl rfl ?_
  refine er_loc (pc' := 17) rfl rfl rfl ?_
  refine er_heap (pc' := 18) (st' := [.int (nI 3), .int (nI 3)]) rfl rfl rfl ?_
  refine er_min (pc' := 21) rfl rfl rfl rfl ?_
  rw [show (if nI 3 < nI 3 then nI 3 else nI 3) = nI 3 from by decide +kernel]
  refine er_loc (L' := [(3, _), (2, _), (0, _), (1, _)]) (pc' := 22) rfl rfl rfl ?_
  refine er_loc (pc' := 23) rfl rfl rfl ?_
  refine er_loc (pc' := 24) rfl rfl rfl ?_
  refine er_cm_ltT rfl (by decide +kernel) ?_
  refine er_loc (pc' := 30) rfl rfl rfl ?_
  refine er_loc (pc' := 31) rfl rfl rfl ?_
  refine er_loc (pc' := 32) rfl rfl rfl ?_
  refine er_loc (pc' := 33) rfl rfl rfl ?_
  refine er_cSi (pc' := 36) (rest := []) rfl rfl rfl (l_idxChar_0 _ b hb _) ?_
  refine er_iret rfl rfl ?_
  exact PI_of rfl
set_option maxRecDepth 100000 in
set_option maxHeartbeats 4000000 in
theorem l_idx2_0 (d : Nat) (b : Nat) (hb : b ≤ 255) (w : ab_W) : EC (d + 3) 228 [.ref 1000101, .int (nI b), .int (nI 0)] w (PI (nmI 0 b) w) := by
  refine er_enter (L := [(0, _), (1, _), (2, _)]) rfl rfl rfl ?_
  refine er_loc (pc' := 1) rfl rfl rfl ?_
  refine er_cT (pc' := 4) rfl rfl rfl (l_isLatin_0 _ _) ?_
  refine er_if_eqF (pc' := 7) rfl (by decide +kernel) rfl ?_
  refine er_loc (pc' := 8) rfl rfl rfl ?_
  refine er_heap (pc' := 11) (st' := [.ref 1000201]) rfl rfl rfl ?_
  refine er_loc (pc' := 12) rfl rfl rfl ?_
  refine er_loc (pc' := 13) rfl rfl rfl ?_
  refine er_loc (pc' := 14) rfl rfl rfl ?_
  refine er_cT (pc' := 17) rfl rfl rfl (l_length_0 _ _) ?_
  refine er_cSi (pc' := 20) (rest := []) rfl rfl rfl (l_idxL_0 _ b hb _) ?_
  refine er_goto rfl ?_
  refine er_iret rfl rfl ?_
  exact PI_of rfl
set_option maxRecDepth 100000 in
set_option maxHeartbeats 4000000 in
theorem l_idx_0 (d : Nat) (b : Nat) (hb : b ≤ 255) (w : ab_W) : EC (d + 4) 227 [.ref 1000101, .int (nI b)] w (PI (nmI 0 b) w) := by
  refine er_enter (L := [(0, _), (1, _)]) rfl rfl rfl ?_
  refine er_loc (pc' := 1) rfl rfl rfl ?_
  refine er_loc (pc' := 2) rfl rfl rfl ?_
  refine er_k (pc' := 3) (nI 0) rfl rfl rfl ?_
  refine er_cT (pc' := 6) rfl rfl rfl (l_idx2_0 _ b hb _) ?_
  refine er_iret rfl rfl ?_
  exact PI_of rfl
set_option maxRecDepth 100000 in
set_option maxHeartbeats 4000000 in
theorem l_isLatin_1 (d : Nat) (w : ab_W) : EC (d + 1) 229 [.ref 1000102] w (PI (bI true) w) := by
  refine er_enter (L := [(0, _)]) rfl rfl rfl ?_
  refine er_heap (pc' := 3) (st' := [.int (nI 1)]) rfl rfl rfl ?_
  refine er_if_eqF (pc' := 6) rfl (by decide +kernel) rfl ?_
  refine er_loc (pc' := 7) rfl rfl rfl ?_
  refine er_heap (pc' := 10) (st' := [.int (nI 0)]) rfl rfl rfl ?_
  refine er_if_neF (pc' := 13) rfl (by decide +kernel) rfl ?_
  refine er_k (pc' := 14) (nI 1) rfl rfl rfl ?_
  refine er_goto rfl ?_
  refine er_ret _ rfl rfl ?_
  exact PI_of rfl
set_option maxRecDepth 100000 in
set_option maxHeartbeats 4000000 in
theorem l_coder_1 (d : Nat) (w : ab_W) : EC (d + 1) 231 [.ref 1000102] w (PI (nI 0) w) := by
  refine er_enter (L := [(0, _)]) rfl rfl rfl ?_
  refine er_heap (pc' := 3) (st' := [.int (nI 1)]) rfl rfl rfl ?_
  refine er_if_eqF (pc' := 6) rfl (by decide +kernel) rfl ?_
  refine er_loc (pc' := 7) rfl rfl rfl ?_
  refine er_heap (pc' := 10) (st' := [.int (nI 0)]) rfl rfl rfl ?_
  refine er_goto rfl ?_
  refine er_ret _ rfl rfl ?_
  exact PI_of rfl
set_option maxRecDepth 100000 in
set_option maxHeartbeats 4000000 in
theorem l_length_1 (d : Nat) (w : ab_W) : EC (d + 2) 230 [.ref 1000102] w (PI (nI 3) w) := by
  refine er_enter (L := [(0, _)]) rfl rfl rfl ?_
  refine er_loc (pc' := 1) rfl rfl rfl ?_
  refine er_heap (pc' := 4) (st' := [.ref 1000202]) rfl rfl rfl ?_
  refine er_heap (pc' := 5) (st' := [.int (nI 3)]) rfl rfl rfl ?_
  refine er_loc (pc' := 6) rfl rfl rfl ?_
  refine er_cT (pc' := 9) rfl rfl rfl (l_coder_1 _ _) ?_
  refine er_ishr (pc' := 10) rfl rfl ?_
  refine er_iret rfl rfl ?_
  exact PI_of (by decide +kernel)
set_option maxRecDepth 100000 in
set_option maxHeartbeats 4000000 in
theorem l_idxChar_1 (d : Nat) (b : Nat) (hb : b ≤ 255) (w : ab_W) : EC (d + 1) 234 [.ref 1000202, .int (nI b), .int (nI 0), .int (nI 3)] w (PI (nmI 1 b) w) := by
  refine er_enter (L := [(0, _), (1, _), (2, _), (3, _)]) rfl rfl rfl ?_
  refine er_loc (pc' := 1) rfl rfl rfl ?_
  refine er_i2b (pc' := 2) rfl rfl ?_
  refine er_loc (L' := [(4, _), (0, _), (1, _), (2, _), (3, _)]) (pc' := 4) rfl rfl rfl ?_
  refine er_loc (pc' := 5) rfl rfl rfl ?_
  refine er_loc (L' := [(5, _), (4, _), (0, _), (1, _), (2, _), (3, _)]) (pc' := 7) rfl rfl rfl ?_
  refine er_loc (pc' := 9) rfl rfl rfl ?_
  refine er_loc (pc' := 10) rfl rfl rfl ?_
  refine er_cm_geF (pc' := 13) rfl (by decide +kernel) rfl ?_
  refine er_loc (pc' := 14) rfl rfl rfl ?_
  refine er_loc (pc' := 16) rfl rfl rfl ?_
  refine er_heap (pc' := 17) (st' := [.int (nI 109)]) rfl rfl rfl ?_
  refine er_loc (pc' := 19) rfl rfl rfl ?_
  refine er_cm_ne (pc' := 22) rfl rfl (fun h0 => ?_) (fun h0 => ?_)
  rotate_left
  · have e := (i8_eq hb (by omega)).mp h0.symm
    refine er_loc (pc' := 24) rfl rfl rfl ?_
    refine er_iret rfl rfl ?_
    subst e
    exact PI_of (by decide +kernel)
  have n0 : ¬ b = 109 := fun e => h0 ((i8_eq hb (by omega)).mpr e).symm
  refine er_loc (L' := [(5, .int (_ + nI 1)), (4, _), (0, _), (1, _), (2, _), (3, _)]) (pc' := 28) rfl rfl rfl ?_
  refine er_goto rfl ?_
  rw [nI_add]
  refine er_loc (pc' := 9) rfl rfl rfl ?_
  refine er_loc (pc' := 10) rfl rfl rfl ?_
  refine er_cm_geF (pc' := 13) rfl (by decide +kernel) rfl ?_
  refine er_loc (pc' := 14) rfl rfl rfl ?_
  refine er_loc (pc' := 16) rfl rfl rfl ?_
  refine er_heap (pc' := 17) (st' := [.int (nI 116)]) rfl rfl rfl ?_
  refine er_loc (pc' := 19) rfl rfl rfl ?_
  refine er_cm_ne (pc' := 22) rfl rfl (fun h1 => ?_) (fun h1 => ?_)
  rotate_left
  · have e := (i8_eq hb (by omega)).mp h1.symm
    refine er_loc (pc' := 24) rfl rfl rfl ?_
    refine er_iret rfl rfl ?_
    subst e
    exact PI_of (by decide +kernel)
  have n1 : ¬ b = 116 := fun e => h1 ((i8_eq hb (by omega)).mpr e).symm
  refine er_loc (L' := [(5, .int (_ + nI 1)), (4, _), (0, _), (1, _), (2, _), (3, _)]) (pc' := 28) rfl rfl rfl ?_
  refine er_goto rfl ?_
  rw [nI_add]
  refine er_loc (pc' := 9) rfl rfl rfl ?_
  refine er_loc (pc' := 10) rfl rfl rfl ?_
  refine er_cm_geF (pc' := 13) rfl (by decide +kernel) rfl ?_
  refine er_loc (pc' := 14) rfl rfl rfl ?_
  refine er_loc (pc' := 16) rfl rfl rfl ?_
  refine er_heap (pc' := 17) (st' := [.int (nI 107)]) rfl rfl rfl ?_
  refine er_loc (pc' := 19) rfl rfl rfl ?_
  refine er_cm_ne (pc' := 22) rfl rfl (fun h2 => ?_) (fun h2 => ?_)
  rotate_left
  · have e := (i8_eq hb (by omega)).mp h2.symm
    refine er_loc (pc' := 24) rfl rfl rfl ?_
    refine er_iret rfl rfl ?_
    subst e
    exact PI_of (by decide +kernel)
  have n2 : ¬ b = 107 := fun e => h2 ((i8_eq hb (by omega)).mpr e).symm
  refine er_loc (L' := [(5, .int (_ + nI 1)), (4, _), (0, _), (1, _), (2, _), (3, _)]) (pc' := 28) rfl rfl rfl ?_
  refine er_goto rfl ?_
  rw [nI_add]
  refine er_loc (pc' := 9) rfl rfl rfl ?_
  refine er_loc (pc' := 10) rfl rfl rfl ?_
  refine er_cm_geT rfl (by decide +kernel) ?_
  refine er_k (pc' := 32) (-1) rfl rfl rfl ?_
  refine er_iret rfl rfl ?_
  exact PI_of (by simp [nmI, n0, n1, n2])
set_option maxRecDepth 100000 in
set_option maxHeartbeats 4000000 in
theorem l_idxL_1 (d : Nat) (b : Nat) (hb : b ≤ 255) (w : ab_W) : EC (d + 2) 232 [.ref 1000202, .int (nI b), .int (nI 0), .int (nI 3)] w (PI (nmI 1 b) w) := by
  refine er_enter (L := [(0, _), (1, _), (2, _), (3, _)]) rfl rfl rfl ?_
  refine er_loc (pc' := 1) rfl rfl rfl ?_
  refine er_cSi (pc' := 4) (rest := []) rfl rfl rfl (l_canEncode _ b hb _) ?_
  refine er_if_neT rfl (by decide +kernel) ?_
  refine er_loc (pc' := 10) rfl rfl rfl ?_
  refine er_k (pc' := 11) (nI 0) rfl rfl rfl ?_
  refine er_max (pc' := 14) rfl rfl rfl rfl ?_
  rw [show (if nI 0 < nI 0 then nI 0 else nI 0) = nI 0 from by decide +kernel]
  refine er_loc (L' := [(2, _), (0, _), (1, _), (3, _)]) (pc' := 15) rfl rfl rfl ?_
  refine er_loc (pc' := 16) rfl rfl rfl ?_
  refine er_loc (pc' := 17) rfl rfl rfl ?_
  refine er_heap (pc' := 18) (st' := [.int (nI 3), .int (nI 3)]) rfl rfl rfl ?_
  refine er_min (pc' := 21) rfl rfl rfl rfl ?_
  rw [show (if nI 3 < nI 3 then nI 3 else nI 3) = nI 3 from by decide +kernel]
  refine er_loc (L' := [(3, _), (2, _), (0, _), (1, _)]) (pc' := 22) rfl rfl rfl ?_
  refine er_loc (pc' := 23) rfl rfl rfl ?_
  refine er_loc (pc' := 24) rfl rfl rfl ?_
  refine er_cm_ltT rfl (by decide +kernel) ?_
  refine er_loc (pc' := 30) rfl rfl rfl ?_
  refine er_loc (pc' := 31) rfl rfl rfl ?_
  refine er_loc (pc' := 32) rfl rfl rfl ?_
  refine er_loc (pc' := 33) rfl rfl rfl ?_
  refine er_cSi (pc' := 36) (rest := []) rfl rfl rfl (l_idxChar_1 _ b hb _) ?_
  refine er_iret rfl rfl ?_
  exact PI_of rfl
set_option maxRecDepth 100000 in
set_option maxHeartbeats 4000000 in
theorem l_idx2_1 (d : Nat) (b : Nat) (hb : b ≤ 255) (w : ab_W) : EC (d + 3) 228 [.ref 1000102, .int (nI b), .int (nI 0)] w (PI (nmI 1 b) w) := by
  refine er_enter (L := [(0, _), (1, _), (2, _)]) rfl rfl rfl ?_
  refine er_loc (pc' := 1) rfl rfl rfl ?_
  refine er_cT (pc' := 4) rfl rfl rfl (l_isLatin_1 _ _) ?_
  refine er_if_eqF (pc' := 7) rfl (by decide +kernel) rfl ?_
  refine er_loc (pc' := 8) rfl rfl rfl ?_
  refine er_heap (pc' := 11) (st' := [.ref 1000202]) rfl rfl rfl ?_
  refine er_loc (pc' := 12) rfl rfl rfl ?_
  refine er_loc (pc' := 13) rfl rfl rfl ?_
  refine er_loc (pc' := 14) rfl rfl rfl ?_
  refine er_cT (pc' := 17) rfl rfl rfl (l_length_1 _ _) ?_
  refine er_cSi (pc' := 20) (rest := []) rfl rfl rfl (l_idxL_1 _ b hb _) ?_
  refine er_goto rfl ?_
  refine er_iret rfl rfl ?_
  exact PI_of rfl
set_option maxRecDepth 100000 in
set_option maxHeartbeats 4000000 in
theorem l_idx_1 (d : Nat) (b : Nat) (hb : b ≤ 255) (w : ab_W) : EC (d + 4) 227 [.ref 1000102, .int (nI b)] w (PI (nmI 1 b) w) := by
  refine er_enter (L := [(0, _), (1, _)]) rfl rfl rfl ?_
  refine er_loc (pc' := 1) rfl rfl rfl ?_
  refine er_loc (pc' := 2) rfl rfl rfl ?_
  refine er_k (pc' := 3) (nI 0) rfl rfl rfl ?_
  refine er_cT (pc' := 6) rfl rfl rfl (l_idx2_1 _ b hb _) ?_
  refine er_iret rfl rfl ?_
  exact PI_of rfl
