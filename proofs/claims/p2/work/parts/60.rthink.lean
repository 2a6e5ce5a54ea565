/-! THE REFERENCE, its face: the tape; what is only thought -/
def rByte (w : Int64) (i : Nat) : Int32 := ((w >>> ((nI 8 * nI i).toInt64 &&& 63)) &&& 255).toInt32
theorem i64_bt {x y : Int32} (h : ∀ i, i < 32 → x.toBitVec.getLsbD i = y.toBitVec.getLsbD i) : x = y := bt_ext h
theorem rByte_eq {w : Int64} {i : Nat} (hi : i < 8) : rByte w i = sByte w i := by
  apply i64_bt
  intro j hj
  unfold rByte sByte
  rw [Int32.toBitVec_and, BitVec.getLsbD_and]
  rw [show ((w >>> ((nI 8 * nI i).toInt64 &&& 63)) &&& 255).toInt32.toBitVec = ((w >>> ((nI 8 * nI i).toInt64 &&& 63)) &&& 255).toBitVec.signExtend 32 from rfl]
  rw [show (w.toUInt64 >>> ((nI 8 * nI i).toInt64.toUInt64 &&& Int64.toUInt64 63)).toInt64.toInt32.toBitVec = (w.toUInt64 >>> ((nI 8 * nI i).toInt64.toUInt64 &&& Int64.toUInt64 63)).toBitVec.signExtend 32 from rfl]
  rw [BitVec.signExtend_eq_setWidth_of_le _ (by omega), BitVec.signExtend_eq_setWidth_of_le _ (by omega), BitVec.getLsbD_setWidth, BitVec.getLsbD_setWidth]
  rw [Int64.toBitVec_and, BitVec.getLsbD_and, Int64.toBitVec_shiftRight, UInt64.toBitVec_shiftRight]
  have h8 : ∀ i : Fin 8, ((nI 8 * nI i.val).toInt64 &&& 63).toBitVec.smod 64 = BitVec.ofNat 64 (8 * i.val) := by decide +kernel
  have h9 : ∀ i : Fin 8, ((nI 8 * nI i.val).toInt64.toUInt64 &&& Int64.toUInt64 63).toBitVec % 64 = BitVec.ofNat 64 (8 * i.val) := by decide +kernel
  rw [h8 ⟨i, hi⟩, h9 ⟨i, hi⟩]
  show (decide (j < 32) && ((w.toBitVec.sshiftRight (BitVec.ofNat 64 (8 * i)).toNat).getLsbD j && _)) = _
  rw [BitVec.ushiftRight_eq', BitVec.getLsbD_ushiftRight, BitVec.getLsbD_sshiftRight, BitVec.toNat_ofNat, Nat.mod_eq_of_lt (by omega)]
  rw [show w.toUInt64.toBitVec = w.toBitVec from rfl]
  have e1 : (255 : Int64).toBitVec.getLsbD j = (nI 255).toBitVec.getLsbD j := by
    have : ∀ j : Fin 32, (255 : Int64).toBitVec.getLsbD j.val = (nI 255).toBitVec.getLsbD j.val := by decide +kernel
    exact this ⟨j, hj⟩
  rw [e1]
  by_cases h : j < 8
  · rw [if_pos (by omega), decide_eq_true hj, decide_eq_false (show ¬ 64 ≤ j by omega)]
    simp
  · have e2 : (nI 255).toBitVec.getLsbD j = false := by
      have : ∀ j : Fin 32, ¬ j.val < 8 → (nI 255).toBitVec.getLsbD j.val = false := by decide +kernel
      exact this ⟨j, hj⟩ h
    rw [e2]
    simp
def yFeed (X : Nat → Nat → Int32) (w : Int64) (f : Nat) : Nat → Nat → Nat → Int32
  | 0 => X
  | i + 1 => ud (ud (yFeed X w f i) 64 (55 + (f + i)) (sByte w i)) 64 5 (nI (f + i + 1))
theorem yFeed_5 {X : Nat → Nat → Int32} {w : Int64} {f : Nat} (hf : X 64 5 = nI f) : ∀ i, yFeed X w f i 64 5 = nI (f + i)
  | 0 => hf
  | i + 1 => by
    show ud (ud (yFeed X w f i) 64 (55 + (f + i)) (sByte w i)) 64 5 (nI (f + i + 1)) 64 5 = _
    rw [ud_same, u1_same]
    rfl
theorem yFeed_WJ {X : Nat → Nat → Int32} {w : Int64} {f T : Nat} (hI : RK T (X 64)) : ∀ i, f + i ≤ 50 → WJ (jFeed (jm (X 64)) w f i) T X (yFeed X w f i)
  | 0, _ => WJ.rf hI
  | i + 1, h => by
    have h1 := yFeed_WJ (w := w) (f := f) hI i (by omega)
    have h2 := wTape (k := f + i) (v := sByte w i) h1.rk h1.j (show f + i < 50 by omega) (byte255 _) rfl
    have h3 := wFed (p := 5) h2.rk h2.j (isN.of (show f + i + 1 ≤ 50 by omega) (by omega)) rfl
    exact h1.trans (h2.trans h3)
set_option maxRecDepth 100000 in
set_option maxHeartbeats 4000000 in
theorem l_rFeed_loop (d : Nat) {X Z : Nat → Nat → Int32} {T f : Nat} (hI : RK T (X 64)) (hf : X 64 5 = nI f) (k : Nat) (h50 : f + k ≤ 50 ∧ k ≤ 8) (w : Int64) : ∀ (m i : Nat) (x : Int32), i + m = k → x = nI i → ER (d + 2) tb_m151 40 [(0, .ref 63), (1, .long w), (3, .int (nI k)), (4, .int x)] [] (Wd (yFeed X w f i) Z) (RNJ (nI (f + k)) (jFeed (jm (X 64)) w f k) T X)
  | 0, i, x, hi, h0 => by
    have hi0 : i = k := by omega
    have hfi := yFeed_5 (w := w) hf i
    subst h0
    subst hi0
    refine er_loc (pc' := 42) rfl rfl rfl ?_
    refine er_loc (pc' := 43) rfl rfl rfl ?_
    refine er_cm_geT rfl (nI_nlt (by omega) (by omega)) ?_
    refine er_loc (pc' := 89) rfl rfl rfl ?_
    refine er_gf (pc' := 92) (_) rfl rfl rfl rfl rfl ?_
    refine er_k (pc' := 93) (nI 5) rfl rfl rfl ?_
    refine er_ia (pc' := 94) (5) rfl rfl rfl rfl (by omega) rfl rfl ?_
    rw [hfi]
    refine er_iret rfl rfl ?_
    exact RNJ_of rfl (yFeed_WJ hI i h50.1)
  | m + 1, i, x, hi, h0 => by
    have hfi := yFeed_5 (w := w) hf i
    subst h0
    refine er_loc (pc' := 42) rfl rfl rfl ?_
    refine er_loc (pc' := 43) rfl rfl rfl ?_
    refine er_cm_geF (pc' := 46) rfl (nI_lt (by omega) (by omega)) rfl ?_
    refine er_loc (pc' := 47) rfl rfl rfl ?_
    refine er_gf (pc' := 50) (_) rfl rfl rfl rfl rfl ?_
    refine er_k (pc' := 52) (nI 55) rfl rfl rfl ?_
    refine er_loc (pc' := 53) rfl rfl rfl ?_
    refine er_gf (pc' := 56) (_) rfl rfl rfl rfl rfl ?_
    refine er_k (pc' := 57) (nI 5) rfl rfl rfl ?_
    refine er_ia (pc' := 58) (5) rfl rfl rfl rfl (by omega) rfl rfl ?_
    rw [hfi]
    refine er_iadd (pc' := 59) rfl rfl ?_
    refine er_loc (pc' := 60) rfl rfl rfl ?_
    refine er_k (pc' := 62) (nI 8) rfl rfl rfl ?_
    refine er_loc (pc' := 64) rfl rfl rfl ?_
    refine er_imul (pc' := 65) rfl rfl ?_
    refine er_pure (pc' := 66) rfl rfl rfl ?_
    refine er_ldc2 (pc' := 69) (255) rfl rfl rfl rfl ?_
    refine er_pure (pc' := 70) rfl rfl rfl ?_
    refine er_pure (pc' := 71) rfl rfl rfl ?_
    have eB : rByte w i = sByte w i := rByte_eq (by omega)
    refine er_isX (55 + (f + i)) rfl rfl (fun _ => rfl) (nI_add 55 (f + i)) (by omega) rfl rfl ?_
    change ER _ _ _ _ _ (Wd (ud (yFeed X w f i) 64 (55 + (f + i)) (rByte w i)) Z) _
    rw [eB]
    refine er_loc (pc' := 73) rfl rfl rfl ?_
    refine er_gf (pc' := 76) (_) rfl rfl rfl rfl rfl ?_
    refine er_k (pc' := 77) (nI 5) rfl rfl rfl ?_
    refine er_pure (pc' := 78) rfl rfl rfl ?_
    refine er_ia (pc' := 79) (5) rfl rfl rfl rfl (by omega) rfl rfl ?_
    rw [show ud (yFeed X w f i) 64 (55 + (f + i)) (sByte w i) 64 5 = nI (f + i) from by rw [ud_same, u1_ne (by omega), hfi]]
    refine er_k (pc' := 80) (nI 1) rfl rfl rfl ?_
    refine er_iadd (pc' := 81) rfl rfl ?_
    rw [nI_add (f + i) 1]
    refine er_isX 5 rfl rfl (fun _ => rfl) rfl (by omega) rfl rfl ?_
    refine er_loc (pc' := 85) (L' := [(4, .int (_ + nI 1)), (0, _), (1, _), (3, _)]) rfl rfl rfl ?_
    refine er_goto rfl ?_
    refine ER_loc [(0, _), (1, _), (3, _), (4, _)] rfl (List.forall_mem_cons.mpr ⟨rfl, List.forall_mem_cons.mpr ⟨rfl, List.forall_mem_cons.mpr ⟨rfl, List.forall_mem_cons.mpr ⟨rfl, fun _ h => absurd h List.not_mem_nil⟩⟩⟩⟩) rfl rfl ?_
    have ih := l_rFeed_loop d (Z := Z) hI hf k h50 w m (i + 1) _ (by omega) (nI_add i 1)
    rw [show yFeed X w f (i + 1) = ud (ud (yFeed X w f i) 64 (55 + (f + i)) (sByte w i)) 64 5 (nI (f + i + 1)) from rfl] at ih
    exact ih
set_option maxRecDepth 100000 in
set_option maxHeartbeats 4000000 in
theorem l_rFeed (d : Nat) (X Z : Nat → Nat → Int32) {T : Nat} (hI : RK T (X 64)) {f : Nat} (hf : X 64 5 = nI f) (hf50 : f ≤ 50) (w : Int64) (n : Int32) : EC (d + 3) 151 [.ref 63, .long w, .int n] (Wd X Z) (fun r => if sIn n (nI 1) (nI 8) = true then (if f + nN n ≤ 50 then RNJ (nI (f + nN n)) (jFeed (jm (X 64)) w f (nN n)) T X r else RI (sErr 4) (yErr X 4) r) else RI (sErr 1) (yErr X 1) r) := by
  refine er_enter (L := [(0, _), (1, _), (3, _)]) rfl rfl rfl ?_
  refine er_loc (pc' := 1) rfl rfl rfl ?_
  refine er_k (pc' := 2) (nI 1) rfl rfl rfl ?_
  refine er_k (pc' := 4) (nI 8) rfl rfl rfl ?_
  refine er_cSi (pc' := 7) (rest := []) rfl rfl rfl (l_in _ _ _ _ _) ?_
  refine er_if_neb (pc' := 10) rfl rfl (fun h7 => ?_) (fun h7 => ?_)
  · obtain ⟨k, h1k, h8k, hk⟩ := sIn_ex (by omega) (by omega) h7
    have hk2 : nN n = k := by rw [hk]; exact nN_nI (by omega)
    subst hk
    refine er_loc (pc' := 18) rfl rfl rfl ?_
    refine er_gf (pc' := 21) (_) rfl rfl rfl rfl rfl ?_
    refine er_k (pc' := 22) (nI 5) rfl rfl rfl ?_
    refine er_ia (pc' := 23) (5) rfl rfl rfl rfl (by omega) rfl rfl ?_
    refine er_loc (pc' := 24) rfl rfl rfl ?_
    refine er_iadd rfl rfl ?_
    rw [hf, nI_add]
    refine er_k (pc' := 27) (nI 50) rfl rfl rfl ?_
    refine er_cm_le (pc' := 30) rfl rfl (fun h27 => ?_) (fun h27 => ?_)
    · have h50 : f + k ≤ 50 := by
        rcases Nat.lt_or_ge 50 (f + k) with h | h
        · exact absurd (nI_lt h (by omega)) h27
        · exact h
      refine er_k (pc' := 38) (nI 0) rfl rfl rfl ?_
      refine er_loc (pc' := 40) (L' := [(4, _), (0, _), (1, _), (3, _)]) rfl rfl rfl ?_
      refine ER_loc [(0, _), (1, _), (3, _), (4, _)] rfl (List.forall_mem_cons.mpr ⟨rfl, List.forall_mem_cons.mpr ⟨rfl, List.forall_mem_cons.mpr ⟨rfl, List.forall_mem_cons.mpr ⟨rfl, fun _ h => absurd h List.not_mem_nil⟩⟩⟩⟩) rfl rfl ?_
      refine ER.mono (l_rFeed_loop d (Z := Z) hI hf k ⟨h50, h8k⟩ w k 0 _ (by omega) rfl) (fun r hr => ?_)
      rw [if_pos h7, hk2, if_pos h50]
      exact hr
    · have h50 : ¬ f + k ≤ 50 := fun h => absurd h27 (nI_nlt h (by omega))
      refine er_loc (pc' := 31) rfl rfl rfl ?_
      refine er_ldc (pc' := 33) (-1000000004) rfl rfl rfl rfl rfl ?_
      refine er_cIz (pc' := 36) (rest := []) 12 rfl rfl rfl rfl rfl rfl (l_rError4 _ _ _) ?_
      intro Z9
      refine er_iret rfl rfl ?_
      rw [if_pos h7, hk2, if_neg h50]
      exact RI_of rfl rfl
  · refine er_loc (pc' := 11) rfl rfl rfl ?_
    refine er_ldc (pc' := 13) (-1000000001) rfl rfl rfl rfl rfl ?_
    refine er_cIz (pc' := 16) (rest := []) 12 rfl rfl rfl rfl rfl rfl (l_rError1 _ _ _) ?_
    intro Z9
    refine er_iret rfl rfl ?_
    rw [if_neg (by rw [h7]; decide)]
    exact RI_of rfl rfl
def DN (X : Nat → Nat → Int32) (T : Nat) (q : Option Nat) : ab_R → Prop := fun r => match q with
  | none => RI (nI 0) X r
  | some k => RNJ (nI 1) (jFin (jm (X 64)) k) (T + 300) X r
set_option maxRecDepth 100000 in
set_option maxHeartbeats 4000000 in
theorem l_rDn_loop (d : Nat) (X Z : Nat → Nat → Int32) {T : Nat} (hI : RK T (X 64)) (hT : T < 2000000000) : ∀ (m i : Nat) (x : Int32), i + m = jn (jm (X 64)) → x = nI i → ER (d + 6) tb_m178 2 [(0, .ref 63), (1, .int x)] [] (Wd X Z) (DN X T (sFirst (jm (X 64)) m i))
  | 0, i, x, hi, h0 => by
    have hi0 : i = jn (jm (X 64)) := by omega
    subst h0
    have h8 := jn8 hI.ij
    subst hi0
    refine er_loc (pc' := 3) rfl rfl rfl ?_
    refine er_loc (pc' := 4) rfl rfl rfl ?_
    refine er_gf (pc' := 7) (_) rfl rfl rfl rfl rfl ?_
    refine er_k (pc' := 8) (nI 2) rfl rfl rfl ?_
    refine er_ia (pc' := 9) (2) rfl rfl rfl rfl (by omega) rfl rfl ?_
    rw [hI.n]
    refine er_cm_geT rfl (nI_nlt (by omega) (by omega)) ?_
    refine er_k (pc' := 34) (nI 0) rfl rfl rfl ?_
    refine er_ret _ rfl rfl ?_
    exact RI_of rfl rfl
  | m + 1, i, x, hi, h0 => by
    subst h0
    have h8 := jn8 hI.ij
    refine er_loc (pc' := 3) rfl rfl rfl ?_
    refine er_loc (pc' := 4) rfl rfl rfl ?_
    refine er_gf (pc' := 7) (_) rfl rfl rfl rfl rfl ?_
    refine er_k (pc' := 8) (nI 2) rfl rfl rfl ?_
    refine er_ia (pc' := 9) (2) rfl rfl rfl rfl (by omega) rfl rfl ?_
    rw [hI.n]
    refine er_cm_geF (pc' := 12) rfl (nI_lt (by omega) (by omega)) rfl ?_
    refine er_loc (pc' := 13) rfl rfl rfl ?_
    refine er_loc (pc' := 14) rfl rfl rfl ?_
    refine er_cIi (pc' := 17) (rest := []) 12 rfl rfl rfl rfl rfl rfl (l_rMayDo _ X _ hI (by omega)) ?_
    refine er_if_eqb (pc' := 20) rfl rfl (fun h17 => ?_) (fun h17 => ?_)
    · refine er_loc (pc' := 30) (L' := [(1, .int (_ + nI 1)), (0, _)]) rfl rfl rfl ?_
      refine er_goto rfl ?_
      refine ER_loc [(0, _), (1, _)] rfl (List.forall_mem_cons.mpr ⟨rfl, List.forall_mem_cons.mpr ⟨rfl, fun _ h => absurd h List.not_mem_nil⟩⟩) rfl rfl ?_
      have e : sFirst (jm (X 64)) (m + 1) i = sFirst (jm (X 64)) m (i + 1) := if_neg (by rw [h17]; decide)
      rw [e]
      exact l_rDn_loop d X Z hI hT m (i + 1) _ (by omega) (nI_add i 1)
    · refine er_loc (pc' := 21) rfl rfl rfl ?_
      refine er_loc (pc' := 22) rfl rfl rfl ?_
      refine er_cIw (pc' := 25) (rest := []) 12 rfl rfl rfl rfl rfl rfl (l_rIsDone _ _ _ hI hT h17) ?_
      intro X1 Z1 w1
      refine er_k (pc' := 26) (nI 1) rfl rfl rfl ?_
      refine er_ret _ rfl rfl ?_
      rw [show sFirst (jm (X 64)) (m + 1) i = some i from if_pos h17]
      exact RNJ_of rfl w1
set_option maxRecDepth 100000 in
set_option maxHeartbeats 4000000 in
theorem l_rDoesNext (d : Nat) (X Z : Nat → Nat → Int32) {T : Nat} (hI : RK T (X 64)) (hT : T < 2000000000) : EC (d + 7) 178 [.ref 63] (Wd X Z) (DN X T (sFirst (jm (X 64)) (jn (jm (X 64))) 0)) := by
  refine er_enter (L := [(0, _)]) rfl rfl rfl ?_
  refine er_k (pc' := 1) (nI 0) rfl rfl rfl ?_
  refine er_loc (pc' := 2) (L' := [(1, _), (0, _)]) rfl rfl rfl ?_
  refine ER_loc [(0, _), (1, _)] rfl (List.forall_mem_cons.mpr ⟨rfl, List.forall_mem_cons.mpr ⟨rfl, fun _ h => absurd h List.not_mem_nil⟩⟩) rfl rfl ?_
  exact l_rDn_loop d X Z hI hT (jn (jm (X 64))) 0 _ (by omega) rfl
theorem l_dn0 (d : Nat) (X Z : Nat → Nat → Int32) {T : Nat} (hI : RK T (X 64)) (hT : T < 2000000000) (hs : sFirst (jm (X 64)) (jn (jm (X 64))) 0 = none) : EC (d + 7) 178 [.ref 63] (Wd X Z) (RI (nI 0) X) := by
  have h := l_rDoesNext d X Z hI hT
  rw [hs] at h
  exact h
theorem l_dn1 (d : Nat) (X Z : Nat → Nat → Int32) {T : Nat} (hI : RK T (X 64)) (hT : T < 2000000000) {k : Nat} (hs : sFirst (jm (X 64)) (jn (jm (X 64))) 0 = some k) : EC (d + 7) 178 [.ref 63] (Wd X Z) (RNJ (nI 1) (jFin (jm (X 64)) k) (T + 300) X) := by
  have h := l_rDoesNext d X Z hI hT
  rw [hs] at h
  exact h
