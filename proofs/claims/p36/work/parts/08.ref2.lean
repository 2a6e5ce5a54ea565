section
/-! THE REFERENCE, its face: the tape; what is only thought -/
def rByte (w : Int64) (i : Nat) : Int32 := ((w >>> ((nI 8 * nI i).toInt64 &&& 63)) &&& 255).toInt32
theorem i64_bt {x y : Int32} (h : ∀ i, i < 32 → x.toBitVec.getLsbD i = y.toBitVec.getLsbD i) : x = y := bt_ext h
theorem rByte_eq {w : Int64} {i : Nat} (hi : i < 8) : rByte w i = sByte w i := by
  apply i64_bt
  intro j hj
  unfold rByte sByte
  rw [Int32.toBitVec_and, BitVec.getLsbD_and]
  rw [show ((w >>> ((nI 8 * nI i).toInt64 &&& 63)) &&& 255).toInt32.toBitVec = ((w >>> ((nI 8 * nI i).toInt64 &&& 63)) &&& 255).toBitVec.signExtend 32 from rfl]
  rw [show (w.toUInt64 >>> ((nI 8 * nI i).toInt64.toUInt64 &&& Int64.toUInt64 63)).toInt64.toInt32.toBitVec = (w.toUInt64 >>> ((nI 8 * nI i).toInt64.toUInt64 &&& Int64.toUInt64 63)).toBitVec.signExtend 32 from rfl]
  rw [BitVec.signExtend_eq_setWidth_of_le _ (by omega), BitVec.signExtend_eq_setWidth_of_le _ (by omega), BitVec.getLsbD_setWidth, BitVec.getLsbD_setWidth]
  rw [Int64.toBitVec_and, BitVec.getLsbD_and, Int64.toBitVec_shiftRight, UInt64.toBitVec_shiftRight]
  have h8 : ∀ i : Fin 8, ((nI 8 * nI i.val).toInt64 &&& 63).toBitVec.smod 64 = BitVec.ofNat 64 (8 * i.val) := by decide +kernel
  have h9 : ∀ i : Fin 8, ((nI 8 * nI i.val).toInt64.toUInt64 &&& Int64.toUInt64 63).toBitVec % 64 = BitVec.ofNat 64 (8 * i.val) := by decide +kernel
  rw [h8 ⟨i, hi⟩, h9 ⟨i, hi⟩]
  show (decide (j < 32) && ((w.toBitVec.sshiftRight (BitVec.ofNat 64 (8 * i)).toNat).getLsbD j && _)) = _
  rw [BitVec.ushiftRight_eq', BitVec.getLsbD_ushiftRight, BitVec.getLsbD_sshiftRight, BitVec.toNat_ofNat, Nat.mod_eq_of_lt (by omega)]
  rw [show w.toUInt64.toBitVec = w.toBitVec from rfl]
  have e1 : (255 : Int64).toBitVec.getLsbD j = (nI 255).toBitVec.getLsbD j := by
    have : ∀ j : Fin 32, (255 : Int64).toBitVec.getLsbD j.val = (nI 255).toBitVec.getLsbD j.val := by decide +kernel
    exact this ⟨j, hj⟩
  rw [e1]
  by_cases h : j < 8
  · rw [if_pos (by omega), decide_eq_true hj, decide_eq_false (show ¬ 64 ≤ j by omega)]
    simp
  · have e2 : (nI 255).toBitVec.getLsbD j = false := by
      have : ∀ j : Fin 32, ¬ j.val < 8 → (nI 255).toBitVec.getLsbD j.val = false := by decide +kernel
      exact this ⟨j, hj⟩ h
    rw [e2]
    simp
def yFeed (X : Nat → Nat → Int32) (w : Int64) (f : Nat) : Nat → Nat → Nat → Int32
  | 0 => X
  | i + 1 => ud (ud (yFeed X w f i) 64 (55 + (f + i)) (sByte w i)) 64 5 (nI (f + i + 1))
theorem yFeed_5 {X : Nat → Nat → Int32} {w : Int64} {f : Nat} (hf : X 64 5 = nI f) : ∀ i, yFeed X w f i 64 5 = nI (f + i)
  | 0 => hf
  | i + 1 => by
    show ud (ud (yFeed X w f i) 64 (55 + (f + i)) (sByte w i)) 64 5 (nI (f + i + 1)) 64 5 = _
    rw [ud_same, u1_same]
    rfl
theorem yFeed_WJ {X : Nat → Nat → Int32} {w : Int64} {f T : Nat} (hI : RK T (X 64)) : ∀ i, f + i ≤ 50 → WJ (jFeed (jm (X 64)) w f i) T X (yFeed X w f i)
  | 0, _ => WJ.rf hI
  | i + 1, h => by
    have h1 := yFeed_WJ (w := w) (f := f) hI i (by omega)
    have h2 := wTape (k := f + i) (v := sByte w i) h1.rk h1.j (show f + i < 50 by omega) (byte255 _) rfl
    have h3 := wFed (p := 5) h2.rk h2.j (isN.of (show f + i + 1 ≤ 50 by omega) (by omega)) rfl
    exact h1.trans (h2.trans h3)
set_option maxRecDepth 100000 in
set_option maxHeartbeats 4000000 in
theorem l_rFeed_loop (d : Nat) {X Z : Nat → Nat → Int32} {T f : Nat} (hI : RK T (X 64)) (hf : X 64 5 = nI f) (k : Nat) (h50 : f + k ≤ 50 ∧ k ≤ 8) (w : Int64) : ∀ (m i : Nat) (x : Int32), i + m = k → x = nI i → ER (d + 2) tb_m151 40 [(0, .ref 63), (1, .long w), (3, .int (nI k)), (4, .int x)] [] (Wd (yFeed X w f i) Z) (RNJ (nI (f + k)) (jFeed (jm (X 64)) w f k) T X)
  | 0, i, x, hi, h0 => by
    have hi0 : i = k := by omega
    have hfi := yFeed_5 (w := w) hf i
    subst h0
    subst hi0
    refine er_loc (pc' := 42) rfl rfl rfl ?_
    refine er_loc (pc' := 43) rfl rfl rfl ?_
    refine er_cm_geT rfl (nI_nlt (by omega) (by omega)) ?_
    refine er_loc (pc' := 89) rfl rfl rfl ?_
    refine er_gf (pc' := 92) (_) rfl rfl rfl rfl rfl ?_
    refine er_k (pc' := 93) (nI 5) rfl rfl rfl ?_
    refine er_ia (pc' := 94) (5) rfl rfl rfl rfl (by omega) rfl rfl ?_
    rw [hfi]
    refine er_iret rfl rfl ?_
    exact RNJ_of rfl (yFeed_WJ hI i h50.1)
  | m + 1, i, x, hi, h0 => by
    have hfi := yFeed_5 (w := w) hf i
    subst h0
    refine er_loc (pc' := 42) rfl rfl rfl ?_
    refine er_loc (pc' := 43) rfl rfl rfl ?_
    refine er_cm_geF (pc' := 46) rfl (nI_lt (by omega) (by omega)) rfl ?_
    refine er_loc (pc' := 47) rfl rfl rfl ?_
    refine er_gf (pc' := 50) (_) rfl rfl rfl rfl rfl ?_
    refine er_k (pc' := 52) (nI 55) rfl rfl rfl ?_
    refine er_loc (pc' := 53) rfl rfl rfl ?_
    refine er_gf (pc' := 56) (_) rfl rfl rfl rfl rfl ?_
    refine er_k (pc' := 57) (nI 5) rfl rfl rfl ?_
    refine er_ia (pc' := 58) (5) rfl rfl rfl rfl (by omega) rfl rfl ?_
    rw [hfi]
    refine er_iadd (pc' := 59) rfl rfl ?_
    refine er_loc (pc' := 60) rfl rfl rfl ?_
    refine er_k (pc' := 62) (nI 8) rfl rfl rfl ?_
    refine er_loc (pc' := 64) rfl rfl rfl ?_
    refine er_imul (pc' := 65) rfl rfl ?_
    refine er_pure (pc' := 66) rfl rfl rfl ?_
    refine er_ldc2 (pc' := 69) (255) rfl rfl rfl rfl ?_
    refine er_pure (pc' := 70) rfl rfl rfl ?_
    refine er_pure (pc' := 71) rfl rfl rfl ?_
    have eB : rByte w i = sByte w i := rByte_eq (by omega)
    refine er_isX (55 + (f + i)) rfl rfl (fun _ => rfl) (nI_add 55 (f + i)) (by omega) rfl rfl ?_
    change ER _ _ _ _ _ (Wd (ud (yFeed X w f i) 64 (55 + (f + i)) (rByte w i)) Z) _
    rw [eB]
    refine er_loc (pc' := 73) rfl rfl rfl ?_
    refine er_gf (pc' := 76) (_) rfl rfl rfl rfl rfl ?_
    refine er_k (pc' := 77) (nI 5) rfl rfl rfl ?_
    refine er_pure (pc' := 78) rfl rfl rfl ?_
    refine er_ia (pc' := 79) (5) rfl rfl rfl rfl (by omega) rfl rfl ?_
    rw [show ud (yFeed X w f i) 64 (55 + (f + i)) (sByte w i) 64 5 = nI (f + i) from by rw [ud_same, u1_ne (by omega), hfi]]
    refine er_k (pc' := 80) (nI 1) rfl rfl rfl ?_
    refine er_iadd (pc' := 81) rfl rfl ?_
    rw [nI_add (f + i) 1]
    refine er_isX 5 rfl rfl (fun _ => rfl) rfl (by omega) rfl rfl ?_
    refine er_loc (pc' := 85) (L' := [(4, .int (_ + nI 1)), (0, _), (1, _), (3, _)]) rfl rfl rfl ?_
    refine er_goto rfl ?_
    refine ER_loc [(0, _), (1, _), (3, _), (4, _)] rfl (List.forall_mem_cons.mpr ⟨rfl, List.forall_mem_cons.mpr ⟨rfl, List.forall_mem_cons.mpr ⟨rfl, List.forall_mem_cons.mpr ⟨rfl, fun _ h => absurd h List.not_mem_nil⟩⟩⟩⟩) rfl rfl ?_
    have ih := l_rFeed_loop d (Z := Z) hI hf k h50 w m (i + 1) _ (by omega) (nI_add i 1)
    rw [show yFeed X w f (i + 1) = ud (ud (yFeed X w f i) 64 (55 + (f + i)) (sByte w i)) 64 5 (nI (f + i + 1)) from rfl] at ih
    exact ih
set_option maxRecDepth 100000 in
set_option maxHeartbeats 4000000 in
theorem l_rFeed (d : Nat) (X Z : Nat → Nat → Int32) {T : Nat} (hI : RK T (X 64)) {f : Nat} (hf : X 64 5 = nI f) (hf50 : f ≤ 50) (w : Int64) (n : Int32) : EC (d + 3) 151 [.ref 63, .long w, .int n] (Wd X Z) (fun r => if sIn n (nI 1) (nI 8) = true then (if f + nN n ≤ 50 then RNJ (nI (f + nN n)) (jFeed (jm (X 64)) w f (nN n)) T X r else RI (sErr 4) (yErr X 4) r) else RI (sErr 1) (yErr X 1) r) := by
  refine er_enter (L := [(0, _), (1, _), (3, _)]) rfl rfl rfl ?_
  refine er_loc (pc' := 1) rfl rfl rfl ?_
  refine er_k (pc' := 2) (nI 1) rfl rfl rfl ?_
  refine er_k (pc' := 4) (nI 8) rfl rfl rfl ?_
  refine er_cSi (pc' := 7) (rest := []) rfl rfl rfl (l_in _ _ _ _ _) ?_
  refine er_if_neb (pc' := 10) rfl rfl (fun h7 => ?_) (fun h7 => ?_)
  · obtain ⟨k, h1k, h8k, hk⟩ := sIn_ex (by omega) (by omega) h7
    have hk2 : nN n = k := by rw [hk]; exact nN_nI (by omega)
    subst hk
    refine er_loc (pc' := 18) rfl rfl rfl ?_
    refine er_gf (pc' := 21) (_) rfl rfl rfl rfl rfl ?_
    refine er_k (pc' := 22) (nI 5) rfl rfl rfl ?_
    refine er_ia (pc' := 23) (5) rfl rfl rfl rfl (by omega) rfl rfl ?_
    refine er_loc (pc' := 24) rfl rfl rfl ?_
    refine er_iadd rfl rfl ?_
    rw [hf, nI_add]
    refine er_k (pc' := 27) (nI 50) rfl rfl rfl ?_
    refine er_cm_le (pc' := 30) rfl rfl (fun h27 => ?_) (fun h27 => ?_)
    · have h50 : f + k ≤ 50 := by
        rcases Nat.lt_or_ge 50 (f + k) with h | h
        · exact absurd (nI_lt h (by omega)) h27
        · exact h
      refine er_k (pc' := 38) (nI 0) rfl rfl rfl ?_
      refine er_loc (pc' := 40) (L' := [(4, _), (0, _), (1, _), (3, _)]) rfl rfl rfl ?_
      refine ER_loc [(0, _), (1, _), (3, _), (4, _)] rfl (List.forall_mem_cons.mpr ⟨rfl, List.forall_mem_cons.mpr ⟨rfl, List.forall_mem_cons.mpr ⟨rfl, List.forall_mem_cons.mpr ⟨rfl, fun _ h => absurd h List.not_mem_nil⟩⟩⟩⟩) rfl rfl ?_
      refine ER.mono (l_rFeed_loop d (Z := Z) hI hf k ⟨h50, h8k⟩ w k 0 _ (by omega) rfl) (fun r hr => ?_)
      rw [if_pos h7, hk2, if_pos h50]
      exact hr
    · have h50 : ¬ f + k ≤ 50 := fun h => absurd h27 (nI_nlt h (by omega))
      refine er_loc (pc' := 31) rfl rfl rfl ?_
      refine er_ldc (pc' := 33) (-1000000004) rfl rfl rfl rfl rfl ?_
      refine er_cIz (pc' := 36) (rest := []) 12 rfl rfl rfl rfl rfl rfl (l_rError4 _ _ _) ?_
      intro Z9
      refine er_iret rfl rfl ?_
      rw [if_pos h7, hk2, if_neg h50]
      exact RI_of rfl rfl
  · refine er_loc (pc' := 11) rfl rfl rfl ?_
    refine er_ldc (pc' := 13) (-1000000001) rfl rfl rfl rfl rfl ?_
    refine er_cIz (pc' := 16) (rest := []) 12 rfl rfl rfl rfl rfl rfl (l_rError1 _ _ _) ?_
    intro Z9
    refine er_iret rfl rfl ?_
    rw [if_neg (by rw [h7]; decide)]
    exact RI_of rfl rfl
def DN (X : Nat → Nat → Int32) (T : Nat) (q : Option Nat) : ab_R → Prop := fun r => match q with
  | none => RI (nI 0) X r
  | some k => RNJ (nI 1) (jFin (jm (X 64)) k) (T + 300) X r
set_option maxRecDepth 100000 in
set_option maxHeartbeats 4000000 in
theorem l_rDn_loop (d : Nat) (X Z : Nat → Nat → Int32) {T : Nat} (hI : RK T (X 64)) (hT : T < 2000000000) : ∀ (m i : Nat) (x : Int32), i + m = jn (jm (X 64)) → x = nI i → ER (d + 6) tb_m178 2 [(0, .ref 63), (1, .int x)] [] (Wd X Z) (DN X T (sFirst (jm (X 64)) m i))
  | 0, i, x, hi, h0 => by
    have hi0 : i = jn (jm (X 64)) := by omega
    subst h0
    have h8 := jn8 hI.ij
    subst hi0
    refine er_loc (pc' := 3) rfl rfl rfl ?_
    refine er_loc (pc' := 4) rfl rfl rfl ?_
    refine er_gf (pc' := 7) (_) rfl rfl rfl rfl rfl ?_
    refine er_k (pc' := 8) (nI 2) rfl rfl rfl ?_
    refine er_ia (pc' := 9) (2) rfl rfl rfl rfl (by omega) rfl rfl ?_
    rw [hI.n]
    refine er_cm_geT rfl (nI_nlt (by omega) (by omega)) ?_
    refine er_k (pc' := 34) (nI 0) rfl rfl rfl ?_
    refine er_ret _ rfl rfl ?_
    exact RI_of rfl rfl
  | m + 1, i, x, hi, h0 => by
    subst h0
    have h8 := jn8 hI.ij
    refine er_loc (pc' := 3) rfl rfl rfl ?_
    refine er_loc (pc' := 4) rfl rfl rfl ?_
    refine er_gf (pc' := 7) (_) rfl rfl rfl rfl rfl ?_
    refine er_k (pc' := 8) (nI 2) rfl rfl rfl ?_
    refine er_ia (pc' := 9) (2) rfl rfl rfl rfl (by omega) rfl rfl ?_
    rw [hI.n]
    refine er_cm_geF (pc' := 12) rfl (nI_lt (by omega) (by omega)) rfl ?_
    refine er_loc (pc' := 13) rfl rfl rfl ?_
    refine er_loc (pc' := 14) rfl rfl rfl ?_
    refine er_cIi (pc' := 17) (rest := []) 12 rfl rfl rfl rfl rfl rfl (l_rMayDo _ X _ hI (by omega)) ?_
    refine er_if_eqb (pc' := 20) rfl rfl (fun h17 => ?_) (fun h17 => ?_)
    · refine er_loc (pc' := 30) (L' := [(1, .int (_ + nI 1)), (0, _)]) rfl rfl rfl ?_
      refine er_goto rfl ?_
      refine ER_loc [(0, _), (1, _)] rfl (List.forall_mem_cons.mpr ⟨rfl, List.forall_mem_cons.mpr ⟨rfl, fun _ h => absurd h List.not_mem_nil⟩⟩) rfl rfl ?_
      have e : sFirst (jm (X 64)) (m + 1) i = sFirst (jm (X 64)) m (i + 1) := if_neg (by rw [h17]; decide)
      rw [e]
      exact l_rDn_loop d X Z hI hT m (i + 1) _ (by omega) (nI_add i 1)
    · refine er_loc (pc' := 21) rfl rfl rfl ?_
      refine er_loc (pc' := 22) rfl rfl rfl ?_
      refine er_cIw (pc' := 25) (rest := []) 12 rfl rfl rfl rfl rfl rfl (l_rIsDone _ _ _ hI hT h17) ?_
      intro X1 Z1 w1
      refine er_k (pc' := 26) (nI 1) rfl rfl rfl ?_
      refine er_ret _ rfl rfl ?_
      rw [show sFirst (jm (X 64)) (m + 1) i = some i from if_pos h17]
      exact RNJ_of rfl w1
set_option maxRecDepth 100000 in
set_option maxHeartbeats 4000000 in
theorem l_rDoesNext (d : Nat) (X Z : Nat → Nat → Int32) {T : Nat} (hI : RK T (X 64)) (hT : T < 2000000000) : EC (d + 7) 178 [.ref 63] (Wd X Z) (DN X T (sFirst (jm (X 64)) (jn (jm (X 64))) 0)) := by
  refine er_enter (L := [(0, _)]) rfl rfl rfl ?_
  refine er_k (pc' := 1) (nI 0) rfl rfl rfl ?_
  refine er_loc (pc' := 2) (L' := [(1, _), (0, _)]) rfl rfl rfl ?_
  refine ER_loc [(0, _), (1, _)] rfl (List.forall_mem_cons.mpr ⟨rfl, List.forall_mem_cons.mpr ⟨rfl, fun _ h => absurd h List.not_mem_nil⟩⟩) rfl rfl ?_
  exact l_rDn_loop d X Z hI hT (jn (jm (X 64))) 0 _ (by omega) rfl
theorem l_dn0 (d : Nat) (X Z : Nat → Nat → Int32) {T : Nat} (hI : RK T (X 64)) (hT : T < 2000000000) (hs : sFirst (jm (X 64)) (jn (jm (X 64))) 0 = none) : EC (d + 7) 178 [.ref 63] (Wd X Z) (RI (nI 0) X) := by
  have h := l_rDoesNext d X Z hI hT
  rw [hs] at h
  exact h
theorem l_dn1 (d : Nat) (X Z : Nat → Nat → Int32) {T : Nat} (hI : RK T (X 64)) (hT : T < 2000000000) {k : Nat} (hs : sFirst (jm (X 64)) (jn (jm (X 64))) 0 = some k) : EC (d + 7) 178 [.ref 63] (Wd X Z) (RNJ (nI 1) (jFin (jm (X 64)) k) (T + 300) X) := by
  have h := l_rDoesNext d X Z hI hT
  rw [hs] at h
  exact h
end
section
/-! THE REFERENCE, its face: all, check -/
def unN (J : Nat → Nat → Int32) : Nat → Nat
  | 0 => 0
  | i + 1 => unN J i + (if sDone J i = true then 0 else 1)
theorem unN_le (J : Nat → Nat → Int32) : ∀ n, unN J n ≤ n
  | 0 => Nat.le_refl _
  | n + 1 => by
    have := unN_le J n
    unfold unN
    split <;> omega
theorem done_pass {J : Nat → Nat → Int32} {k i : Nat} (hk : k < 32) (hi : i < 32) : sDone (jPass J k) i = if i = k then true else sDone J i := by
  unfold sDone
  rw [show jPass J k 0 6 = sWith (J 0 6) (nI k) true from rfl, sBit_bt hi, bt_with hk, sBit_bt hi]
theorem done_fin {J : Nat → Nat → Int32} {k i : Nat} (hk : k < 32) (hi : i < 32) : sDone (jFin J k) i = if i = k then true else sDone J i := done_pass hk hi
theorem unN_fin {J : Nat → Nat → Int32} {k : Nat} (hk : k < 32) (hd : sDone J k = false) : ∀ {n : Nat}, n ≤ 32 → unN (jFin J k) n + (if k < n then 1 else 0) = unN J n
  | 0, _ => by rw [if_neg (by omega)]; rfl
  | n + 1, h => by
    have ih := unN_fin hk hd (n := n) (by omega)
    show unN (jFin J k) n + (if sDone (jFin J k) n = true then 0 else 1) + _ = unN J n + (if sDone J n = true then 0 else 1)
    rw [done_fin hk (by omega)]
    by_cases hn : n = k
    · subst hn
      rw [if_pos rfl, if_pos rfl, if_pos (by omega), hd, if_neg (by decide)]
      rw [if_neg (by omega)] at ih
      omega
    · rw [if_neg hn]
      by_cases h1 : k < n
      · rw [if_pos (show k < n + 1 by omega)]
        rw [if_pos h1] at ih
        omega
      · rw [if_neg (show ¬ k < n + 1 by omega)]
        rw [if_neg h1] at ih
        omega
theorem unN_0 {J : Nat → Nat → Int32} : ∀ {n : Nat}, unN J n = 0 → ∀ i, i < n → sDone J i = true
  | 0, _, i, hi => by omega
  | n + 1, h, i, hi => by
    unfold unN at h
    cases hd : sDone J n with
    | false => rw [hd, if_neg (by decide)] at h; omega
    | true =>
      rw [hd, if_pos rfl] at h
      by_cases he : i = n
      · subst he; exact hd
      · exact unN_0 (n := n) (by omega) i (by omega)
theorem sFirst_lt {J : Nat → Nat → Int32} : ∀ {m i k : Nat}, sFirst J m i = some k → sMayDo J k = true
  | 0, i, k, h => by cases h
  | m + 1, i, k, h => by
    unfold sFirst at h
    split at h
    · rename_i h1
      cases h
      exact h1
    · exact sFirst_lt h
theorem jIt_stay {J : Nat → Nat → Int32} {i : Nat} (h : sFirst (jIt J i) (jn (jIt J i)) 0 = none) : ∀ t, jIt J (i + t) = jIt J i
  | 0 => rfl
  | t + 1 => by
    show jS (jIt J (i + t)) = _
    rw [jIt_stay h t, jS_none h]
theorem jIt_8 {J : Nat → Nat → Int32} {i : Nat} (hi : i ≤ 8) (h : sFirst (jIt J i) (jn (jIt J i)) 0 = none) : jIt J 8 = jIt J i := by
  have := jIt_stay h (8 - i)
  rwa [show i + (8 - i) = 8 by omega] at this
def O64 (X X' : Nat → Nat → Int32) : Prop := ∀ c, c ≠ 64 → X' c = X c
theorem O64.rf (X : Nat → Nat → Int32) : O64 X X := fun _ _ => rfl
theorem O64.trans {X Y V : Nat → Nat → Int32} (h : O64 X Y) (h2 : O64 Y V) : O64 X V := fun c hc => (h2 c hc).trans (h c hc)
theorem jS_j {J K : Nat → Nat → Int32} {i k : Nat} (hs : sFirst K (jn K) 0 = some k) (hj : K = jIt J i) : jFin K k = jIt J (i + 1) := by
  show _ = jS (jIt J i)
  rw [← hj, jS_some hs]
set_option maxRecDepth 100000 in
set_option maxHeartbeats 4000000 in
theorem l_rAll_loop (d : Nat) {X : Nat → Nat → Int32} {T : Nat} (hI : RK T (X 64)) (w : Int32) (P : ab_R → Prop) : ∀ (m i T1 : Nat) (X1 Z : Nat → Nat → Int32) (x : Int32), i + m = 8 → x = nI 1 → O64 X X1 → jm (X1 64) = jIt (jm (X 64)) i → RK T1 (X1 64) → T1 + 300 * m < 1000000000 → unN (jm (X1 64)) (jn (jm (X1 64))) ≤ m → (∀ X2 Z2 x2, O64 X X2 → jm (X2 64) = jIt (jm (X 64)) 8 → RK (T1 + 300 * m) (X2 64) → ER (d + 8) tb_m175 34 [(0, .ref 63), (1, .int w), (2, .int x2)] [] (Wd X2 Z2) P) → ER (d + 8) tb_m175 22 [(0, .ref 63), (1, .int w), (2, .int x)] [] (Wd X1 Z) P
  | 0, i, T1, X1, Z, x, hi, hx, ho, hj, hI1, hT1, hu, hP => by
    subst hx
    refine er_loc (pc' := 23) rfl rfl rfl ?_
    refine er_if_eqF (pc' := 26) rfl (by decide +kernel) rfl ?_
    refine er_loc (pc' := 27) rfl rfl rfl ?_
    cases hs : sFirst (jm (X1 64)) (jn (jm (X1 64))) 0 with
    | some k =>
      obtain ⟨hk, hd, _⟩ := mayDo_k (sFirst_lt hs)
      rw [unN_0 (show unN (jm (X1 64)) (jn (jm (X1 64))) = 0 by omega) k hk] at hd
      cases hd
    | none =>
      refine er_cIz (pc' := 30) (rest := []) 12 rfl rfl rfl rfl rfl rfl (l_dn0 _ X1 _ hI1 (by omega) hs) ?_
      intro Z2
      refine er_loc (pc' := 31) (L' := [(2, _), (0, _), (1, _)]) rfl rfl rfl ?_
      refine er_goto rfl ?_
      refine er_loc (pc' := 23) rfl rfl rfl ?_
      refine er_if_eqT rfl (by decide +kernel) ?_
      refine ER_loc [(0, _), (1, _), (2, _)] rfl (List.forall_mem_cons.mpr ⟨rfl, List.forall_mem_cons.mpr ⟨rfl, List.forall_mem_cons.mpr ⟨rfl, fun _ h => absurd h List.not_mem_nil⟩⟩⟩) rfl rfl ?_
      refine hP X1 _ _ ho ?_ (hI1.mono (by omega))
      rw [hj]
      exact (jIt_8 (by omega) (by rw [← hj]; exact hs)).symm
  | m + 1, i, T1, X1, Z, x, hi, hx, ho, hj, hI1, hT1, hu, hP => by
    subst hx
    replace hP : ∀ X2 Z2 x2, O64 X X2 → jm (X2 64) = jIt (jm (X 64)) 8 → RK (T1 + 300 + 300 * m) (X2 64) → ER (d + 8) tb_m175 34 [(0, .ref 63), (1, .int w), (2, .int x2)] [] (Wd X2 Z2) P := fun X2 Z2 x2 a b c => hP X2 Z2 x2 a b (c.mono (by omega))
    refine er_loc (pc' := 23) rfl rfl rfl ?_
    refine er_if_eqF (pc' := 26) rfl (by decide +kernel) rfl ?_
    refine er_loc (pc' := 27) rfl rfl rfl ?_
    cases hs : sFirst (jm (X1 64)) (jn (jm (X1 64))) 0 with
    | none =>
      refine er_cIz (pc' := 30) (rest := []) 12 rfl rfl rfl rfl rfl rfl (l_dn0 _ X1 _ hI1 (by omega) hs) ?_
      intro Z2
      refine er_loc (pc' := 31) (L' := [(2, _), (0, _), (1, _)]) rfl rfl rfl ?_
      refine er_goto rfl ?_
      refine er_loc (pc' := 23) rfl rfl rfl ?_
      refine er_if_eqT rfl (by decide +kernel) ?_
      refine ER_loc [(0, _), (1, _), (2, _)] rfl (List.forall_mem_cons.mpr ⟨rfl, List.forall_mem_cons.mpr ⟨rfl, List.forall_mem_cons.mpr ⟨rfl, fun _ h => absurd h List.not_mem_nil⟩⟩⟩) rfl rfl ?_
      refine hP X1 _ _ ho ?_ (hI1.mono (by omega))
      rw [hj]
      exact (jIt_8 (by omega) (by rw [← hj]; exact hs)).symm
    | some k =>
      obtain ⟨hk, hd, _⟩ := mayDo_k (sFirst_lt hs)
      refine er_cIj (pc' := 30) (rest := []) 12 rfl rfl rfl rfl rfl rfl (l_dn1 _ X1 _ hI1 (by omega) hs) ?_
      intro X2 Z2 w2
      refine er_loc (pc' := 31) (L' := [(2, _), (0, _), (1, _)]) rfl rfl rfl ?_
      refine er_goto rfl ?_
      refine ER_loc [(0, _), (1, _), (2, _)] rfl (List.forall_mem_cons.mpr ⟨rfl, List.forall_mem_cons.mpr ⟨rfl, List.forall_mem_cons.mpr ⟨rfl, fun _ h => absurd h List.not_mem_nil⟩⟩⟩) rfl rfl ?_
      have h8 := jn8 hI1.ij
      have hu := unN_fin (J := jm (X1 64)) (show k < 32 by omega) hd (show jn (jm (X1 64)) ≤ 32 by omega)
      rw [if_pos hk] at hu
      refine l_rAll_loop d hI w P m (i + 1) (T1 + 300) X2 Z2 _ (by omega) rfl (ho.trans (fun c hc => w2.off hc)) (by rw [w2.j, jS_j hs hj]) w2.rk (by omega) ?_ hP
      rw [w2.j, jn_fin]; omega
def R6 (v : Int32) (X : Nat → Nat → Int32) : ab_R → Prop := fun r => ∃ X' Z', r = (some (.int v), Wd X' Z') ∧ ∀ c, c ≠ 66 → X' c = X c
theorem R6_of {v x : Int32} {X X' Z : Nat → Nat → Int32} (hx : x = v) (h : ∀ c, c ≠ 66 → X' c = X c) : R6 v X (some (.int x), Wd X' Z) := ⟨X', Z, by rw [hx], h⟩
set_option maxRecDepth 100000 in
set_option maxHeartbeats 4000000 in
theorem l_rAll (d : Nat) (X Z : Nat → Nat → Int32) {T : Nat} (hI : RK T (X 64)) (hT9 : T < 1000000) (w : Int32) : EC (d + 9) 175 [.ref 63, .int w] (Wd X Z) (fun r => if sIn w (nI 0) (nI 2) = true then R6 (sAll (jm (X 64)) w) X r else RI (sErr 1) (yErr X 1) r) := by
  refine er_enter (L := [(0, _), (1, _)]) rfl rfl rfl ?_
  refine er_loc (pc' := 1) rfl rfl rfl ?_
  refine er_k (pc' := 2) (nI 0) rfl rfl rfl ?_
  refine er_k (pc' := 3) (nI 2) rfl rfl rfl ?_
  refine er_cSi (pc' := 6) (rest := []) rfl rfl rfl (l_in _ _ _ _ _) ?_
  refine er_if_neb (pc' := 9) rfl rfl (fun h6 => ?_) (fun h6 => ?_)
  · refine er_loc (pc' := 17) rfl rfl rfl ?_
    refine er_cIv (pc' := 20) (rest := []) 12 rfl rfl rfl rfl rfl rfl (l_rThinks _ _ _) ?_
    intro Z7
    refine er_k (pc' := 21) (nI 1) rfl rfl rfl ?_
    refine er_loc (pc' := 22) (L' := [(2, _), (0, _), (1, _)]) rfl rfl rfl ?_
    refine ER_loc [(0, _), (1, _), (2, _)] rfl (List.forall_mem_cons.mpr ⟨rfl, List.forall_mem_cons.mpr ⟨rfl, List.forall_mem_cons.mpr ⟨rfl, fun _ h => absurd h List.not_mem_nil⟩⟩⟩) rfl rfl ?_
    refine l_rAll_loop d (X := uc X 66 (X 64)) (T := T) hI w _ 8 0 T _ _ _ (by omega) rfl (O64.rf _) rfl hI (by omega) (Nat.le_trans (unN_le _ _) (jn8 hI.ij)) ?_
    intro X2 Z2 x2 ho2 hj2 hI2
    replace hj2 : jm (X2 64) = jIt (jm (X 64)) 8 := hj2
    refine er_loc (pc' := 35) rfl rfl rfl ?_
    refine er_if_ne (pc' := 38) rfl rfl (fun h35 => ?_) (fun h35 => ?_)
    · refine er_loc (pc' := 55) rfl rfl rfl ?_
      refine er_k (pc' := 56) (nI 1) rfl rfl rfl ?_
      refine er_cm_ne (pc' := 59) rfl rfl (fun h56 => ?_) (fun h56 => ?_)
      · refine er_loc rfl rfl rfl ?_
        refine er_cIi (pc' := 80) (rest := []) 12 rfl rfl rfl rfl rfl rfl (l_rWrongsJ _ X2 _ hI2) ?_
        refine er_loc (pc' := 81) (L' := [(3, _), (0, _), (1, _), (2, _)]) rfl rfl rfl ?_
        refine er_loc (pc' := 82) rfl rfl rfl ?_
        refine er_cIv (pc' := 85) (rest := []) 12 rfl rfl rfl rfl rfl rfl (l_rPutsBack _ _ _) ?_
        intro Z7
        refine er_loc (pc' := 86) rfl rfl rfl ?_
        refine er_iret rfl rfl ?_
        rw [if_pos h6]
        have hv : sAll (jm (X 64)) w = sPop (jIt (jm (X 64)) 8 0 7) := by unfold sAll; rw [if_neg h35, if_neg h56]
        refine R6_of ?_ ?_
        · rw [hv, ← hj2]
        · intro c hc
          by_cases h64 : c = 64
          · subst h64
            rw [uc_same, ho2 66 (by omega)]
            rfl
          · rw [uc_ne h64, ho2 c h64]
            exact uc_ne hc
      · refine er_loc rfl rfl rfl ?_
        refine er_gf (pc' := 63) (_) rfl rfl rfl rfl rfl ?_
        refine er_k (pc' := 64) (nI 2) rfl rfl rfl ?_
        refine er_ia (pc' := 65) (2) rfl rfl rfl rfl (by omega) rfl rfl ?_
        refine er_loc (pc' := 66) rfl rfl rfl ?_
        refine er_cIi (pc' := 69) (rest := [_]) 12 rfl rfl rfl rfl rfl rfl (l_rDone _ X2 _ (n := jn (jm (X2 64))) hI2.n hI2.n8) ?_
        rw [show rB (X2 64) 11 (jn (jm (X2 64))) = jm (X2 64) 0 6 from rfl]
        refine er_cSi (pc' := 72) (rest := [_]) rfl rfl rfl (l_rBitsD _ _ hI2.ij) ?_
        refine er_isub (pc' := 73) rfl rfl ?_
        refine er_goto rfl ?_
        refine er_loc (pc' := 81) (L' := [(3, _), (0, _), (1, _), (2, _)]) rfl rfl rfl ?_
        refine er_loc (pc' := 82) rfl rfl rfl ?_
        refine er_cIv (pc' := 85) (rest := []) 12 rfl rfl rfl rfl rfl rfl (l_rPutsBack _ _ _) ?_
        intro Z7
        refine er_loc (pc' := 86) rfl rfl rfl ?_
        refine er_iret rfl rfl ?_
        rw [if_pos h6]
        have hv : sAll (jm (X 64)) w = sOpen (jIt (jm (X 64)) 8) := by unfold sAll; rw [if_neg h35, if_pos h56]
        refine R6_of ?_ ?_
        · rw [hv, ← hj2]; rfl
        · intro c hc
          by_cases h64 : c = 64
          · subst h64
            rw [uc_same, ho2 66 (by omega)]
            rfl
          · rw [uc_ne h64, ho2 c h64]
            exact uc_ne hc
    · refine er_loc rfl rfl rfl ?_
      refine er_gf (pc' := 42) (_) rfl rfl rfl rfl rfl ?_
      refine er_k (pc' := 43) (nI 0) rfl rfl rfl ?_
      refine er_ia (pc' := 44) (0) rfl rfl rfl rfl (by omega) rfl rfl ?_
      refine er_loc (pc' := 45) rfl rfl rfl ?_
      refine er_gf (pc' := 48) (_) rfl rfl rfl rfl rfl ?_
      refine er_k (pc' := 49) (nI 0) rfl rfl rfl ?_
      refine er_ia (pc' := 50) (0) rfl rfl rfl rfl (by omega) rfl rfl ?_
      rw [show X2 66 0 = X 64 0 from by rw [ho2 66 (by omega)]; rfl]
      refine er_isub (pc' := 51) rfl rfl ?_
      refine er_goto rfl ?_
      refine er_loc (pc' := 81) (L' := [(3, _), (0, _), (1, _), (2, _)]) rfl rfl rfl ?_
      refine er_loc (pc' := 82) rfl rfl rfl ?_
      refine er_cIv (pc' := 85) (rest := []) 12 rfl rfl rfl rfl rfl rfl (l_rPutsBack _ _ _) ?_
      intro Z7
      refine er_loc (pc' := 86) rfl rfl rfl ?_
      refine er_iret rfl rfl ?_
      rw [if_pos h6]
      have hv : sAll (jm (X 64)) w = jIt (jm (X 64)) 8 0 10 - jm (X 64) 0 10 := by unfold sAll; rw [if_pos h35]
      refine R6_of ?_ ?_
      · rw [hv, ← hj2]; rfl
      · intro c hc
        by_cases h64 : c = 64
        · subst h64
          rw [uc_same, ho2 66 (by omega)]
          rfl
        · rw [uc_ne h64, ho2 c h64]
          exact uc_ne hc
  · refine er_loc (pc' := 10) rfl rfl rfl ?_
    refine er_ldc (pc' := 12) (-1000000001) rfl rfl rfl rfl rfl ?_
    refine er_cIz (pc' := 15) (rest := []) 12 rfl rfl rfl rfl rfl rfl (l_rError1 _ _ _) ?_
    intro Z9
    refine er_iret rfl rfl ?_
    rw [if_neg (by rw [h6]; decide)]
    exact RI_of rfl rfl
end
section
/-! THE REFERENCE, its face: check -/
def Sim (K K' : Nat → Nat → Int32) : Prop := ∀ i j, ¬ (i = 0 ∧ (j = 7 ∨ j = 16)) → K' i j = K i j
section SIM
variable {K K' : Nat → Nat → Int32} {k : Nat}
theorem Sim.rf (K : Nat → Nat → Int32) : Sim K K := fun _ _ _ => rfl
theorem Sim.row (h : Sim K K') {i : Nat} (hi : i ≠ 0) : K' i = K i := funext (fun j => h i j (fun e => hi e.1))
theorem Sim.fld (h : Sim K K') {j : Nat} (h7 : j ≠ 7) (h16 : j ≠ 16) : K' 0 j = K 0 j := h 0 j (fun e => by rcases e.2 with e | e; exact h7 e; exact h16 e)
theorem Sim.jn (h : Sim K K') : jn K' = jn K := by
  show nN (K' 0 1) = nN (K 0 1)
  rw [h.fld (by omega) (by omega)]
theorem Sim.lasts (h : Sim K K') : sLasts K' k = sLasts K k := by
  unfold sLasts sKind sLastsBy sTired jl
  rw [h.row (show 1 ≠ 0 by omega), h.row (show 2 ≠ 0 by omega), h.row (show 3 ≠ 0 by omega), h.row (show 5 ≠ 0 by omega), h.row (show 6 ≠ 0 by omega), h.fld (show 10 ≠ 7 by omega) (by omega), h.fld (show 8 ≠ 7 by omega) (by omega)]
theorem Sim.may (h : Sim K K') : sMayDo K' k = sMayDo K k := by
  unfold sMayDo sReady sDone sKind
  rw [h.jn, h.row (show 1 ≠ 0 by omega), h.row (show 3 ≠ 0 by omega), h.row (show 4 ≠ 0 by omega), h.fld (show 6 ≠ 7 by omega) (by omega), h.fld (show 9 ≠ 7 by omega) (by omega), h.fld (show 8 ≠ 7 by omega) (by omega)]
theorem Sim.first (h : Sim K K') : ∀ m i, sFirst K' m i = sFirst K m i
  | 0, _ => rfl
  | m + 1, i => by
    show (if _ then _ else _) = (if _ then _ else _)
    rw [h.may, h.first m (i + 1)]
theorem Sim.pass (h : Sim K K') : Sim (jPass K k) (jFin K' k) := by
  have hl : sLasts (ud K' 0 7 (sWith (K' 0 7) (nI k) (!decide (sErrs K' k = 0)))) k = sLasts K k := h.lasts
  intro i j hij
  unfold jFin jPass
  rw [hl]
  simp only [ud_at]
  by_cases h0 : i = 0
  · subst h0
    have h7 : j ≠ 7 := fun e => hij ⟨rfl, Or.inl e⟩
    have h16 : j ≠ 16 := fun e => hij ⟨rfl, Or.inr e⟩
    simp only [if_pos, if_neg h7]
    rw [h.fld h7 h16, h.fld (show 6 ≠ 7 by omega) (by omega), h.fld (show 9 ≠ 7 by omega) (by omega), h.fld (show 10 ≠ 7 by omega) (by omega), h.row (show 3 ≠ 0 by omega)]
    simp
  · simp only [if_neg h0]
    exact h i j hij
end SIM
def CB (X X1 : Nat → Nat → Int32) : Prop := X1 66 = u1 (X 64) 6 (nI 0) ∧ ∀ c, c ≠ 64 → c ≠ 66 → X1 c = X c
def RCm (v : Int32) (X : Nat → Nat → Int32) : ab_R → Prop := fun r => ∃ X' Z', r = (some (.int v), Wd X' Z') ∧ X' 64 = u1 (X 64) 6 (nI 0) ∧ ∀ c, c ≠ 64 → c ≠ 66 → X' c = X c
theorem RCm_of {v : Int32} {X X1 Z : Nat → Nat → Int32} (h : CB X X1) : RCm v X (some (.int v), Wd (uc X1 64 (X1 66)) Z) := ⟨_, Z, rfl, by rw [uc_same]; exact h.1, fun c h1 h2 => by rw [uc_ne h1]; exact h.2 c h1 h2⟩
set_option maxRecDepth 100000 in
set_option maxHeartbeats 4000000 in
theorem l_rCk_end (d : Nat) {X X1 Z : Nat → Nat → Int32} (hb : CB X X1) (n v x : Int32) : ER (d + 4) tb_m223 84 [(0, .ref 63), (1, .int n), (2, .int v), (3, .int x)] [] (Wd X1 Z) (RCm v X) := by
  refine er_loc (pc' := 85) rfl rfl rfl ?_
  refine er_cIv (pc' := 88) (rest := []) 12 rfl rfl rfl rfl rfl rfl (l_rPutsBack _ _ _) ?_
  intro Z7
  refine er_loc (pc' := 89) rfl rfl rfl ?_
  refine er_iret rfl rfl ?_
  exact RCm_of hb
set_option maxRecDepth 100000 in
set_option maxHeartbeats 4000000 in
theorem l_rCk_out (d : Nat) {X X1 Z : Nat → Nat → Int32} (hb : CB X X1) (n v x : Int32) (hv : ¬ v = 0) : ER (d + 4) tb_m223 24 [(0, .ref 63), (1, .int n), (2, .int v), (3, .int x)] [] (Wd X1 Z) (RCm v X) := by
  refine er_loc (pc' := 25) rfl rfl rfl ?_
  refine er_loc (pc' := 26) rfl rfl rfl ?_
  refine er_cm_ge (pc' := 29) rfl rfl (fun h26 => ?_) (fun h26 => ?_)
  · refine ER_loc [(0, _), (1, _), (2, _), (3, _)] rfl (List.forall_mem_cons.mpr ⟨rfl, List.forall_mem_cons.mpr ⟨rfl, List.forall_mem_cons.mpr ⟨rfl, List.forall_mem_cons.mpr ⟨rfl, fun _ h => absurd h List.not_mem_nil⟩⟩⟩⟩) rfl rfl ?_
    exact l_rCk_end d hb n v x
  · refine er_loc (pc' := 30) rfl rfl rfl ?_
    refine er_if_neT rfl (hv) ?_
    refine ER_loc [(0, _), (1, _), (2, _), (3, _)] rfl (List.forall_mem_cons.mpr ⟨rfl, List.forall_mem_cons.mpr ⟨rfl, List.forall_mem_cons.mpr ⟨rfl, List.forall_mem_cons.mpr ⟨rfl, fun _ h => absurd h List.not_mem_nil⟩⟩⟩⟩) rfl rfl ?_
    exact l_rCk_end d hb n v x
theorem ck_nz {i : Nat} (h : i < 30) : ¬ nI 1 + nI i = 0 := fun e => by
  rw [nI_add] at e
  exact absurd (nIj (by omega) (by omega) (show nI (1 + i) = nI 0 from e)) (by omega)
set_option maxRecDepth 100000 in
set_option maxHeartbeats 4000000 in
theorem l_rCk_loop (d : Nat) {X : Nat → Nat → Int32} (n : Nat) (hn : n ≤ 20) : ∀ (m i T1 : Nat) (X1 Z K : Nat → Nat → Int32) (x : Int32), i + m = n → x = nI i → CB X X1 → Sim K (jm (X1 64)) → K 10 = jm (X 64) 10 → RK T1 (X1 64) → T1 + 300 * m < 1000000000 → ER (d + 8) tb_m223 24 [(0, .ref 63), (1, .int (nI n)), (2, .int (nI 0)), (3, .int x)] [] (Wd X1 Z) (RCm (ck (jm (X 64)) m i K) X)
  | 0, i, T1, X1, Z, K, x, hi, hx, hb, hsim, hK, hI1, hT1 => by
    have hi0 : i = n := by omega
    subst hx
    subst hi0
    refine er_loc (pc' := 25) rfl rfl rfl ?_
    refine er_loc (pc' := 26) rfl rfl rfl ?_
    refine er_cm_geT rfl (nI_nlt (by omega) (by omega)) ?_
    refine ER_loc [(0, _), (1, _), (2, _), (3, _)] rfl (List.forall_mem_cons.mpr ⟨rfl, List.forall_mem_cons.mpr ⟨rfl, List.forall_mem_cons.mpr ⟨rfl, List.forall_mem_cons.mpr ⟨rfl, fun _ h => absurd h List.not_mem_nil⟩⟩⟩⟩) rfl rfl ?_
    exact l_rCk_end (d + 4) hb _ _ _
  | m + 1, i, T1, X1, Z, K, x, hi, hx, hb, hsim, hK, hI1, hT1 => by
    subst hx
    refine er_loc (pc' := 25) rfl rfl rfl ?_
    refine er_loc (pc' := 26) rfl rfl rfl ?_
    refine er_cm_geF (pc' := 29) rfl (nI_lt (by omega) (by omega)) rfl ?_
    refine er_loc (pc' := 30) rfl rfl rfl ?_
    refine er_if_neF (pc' := 33) rfl (by decide +kernel) rfl ?_
    refine er_loc (pc' := 34) rfl rfl rfl ?_
    cases hs : sFirst (jm (X1 64)) (jn (jm (X1 64))) 0 with
    | none =>
      have hs2 : sFirst K (jn K) 0 = none := by rw [← hsim.first, ← hsim.jn]; exact hs
      refine er_cIz (pc' := 37) (rest := []) 12 rfl rfl rfl rfl rfl rfl (l_dn0 _ X1 _ hI1 (by omega) hs) ?_
      intro Z2
      refine er_if_eqT rfl (by decide +kernel) ?_
      refine er_k (nI 0) rfl rfl rfl ?_
      refine er_loc (pc' := 65) (L' := [(4, _), (0, _), (1, _), (2, _), (3, _)]) rfl rfl rfl ?_
      refine er_loc (pc' := 67) rfl rfl rfl ?_
      refine er_if_eqT rfl (by decide +kernel) ?_
      refine er_k (pc' := 75) (nI 1) rfl rfl rfl ?_
      refine er_loc (pc' := 76) rfl rfl rfl ?_
      refine er_iadd (pc' := 77) rfl rfl ?_
      refine er_loc (pc' := 78) (L' := [(2, _), (4, _), (0, _), (1, _), (3, _)]) rfl rfl rfl ?_
      refine er_loc (pc' := 81) (L' := [(3, .int (_ + nI 1)), (2, _), (4, _), (0, _), (1, _)]) rfl rfl rfl ?_
      refine er_goto rfl ?_
      refine ER_loc [(0, _), (1, _), (2, _), (3, _)] rfl (List.forall_mem_cons.mpr ⟨rfl, List.forall_mem_cons.mpr ⟨rfl, List.forall_mem_cons.mpr ⟨rfl, List.forall_mem_cons.mpr ⟨rfl, fun _ h => absurd h List.not_mem_nil⟩⟩⟩⟩) rfl rfl ?_
      rw [show ck (jm (X 64)) (m + 1) i K = nI 1 + nI i from ck_none hs2]
      exact l_rCk_out (d + 4) hb _ _ _ (ck_nz (by omega))
    | some k =>
      have hs2 : sFirst K (jn K) 0 = some k := by rw [← hsim.first, ← hsim.jn]; exact hs
      refine er_cIj (pc' := 37) (rest := []) 12 rfl rfl rfl rfl rfl rfl (l_dn1 _ X1 _ hI1 (by omega) hs) ?_
      intro X2 Z2 w2
      refine er_if_eqF (pc' := 40) rfl (by decide +kernel) rfl ?_
      refine er_loc (pc' := 41) rfl rfl rfl ?_
      refine er_gf (pc' := 44) (_) rfl rfl rfl rfl rfl ?_
      refine er_k (pc' := 46) (nI 105) rfl rfl rfl ?_
      refine er_loc (pc' := 47) rfl rfl rfl ?_
      refine er_iadd (pc' := 48) rfl rfl ?_
      refine er_ia (pc' := 49) (105 + i) rfl rfl rfl (nI_add 105 i) (by omega) rfl rfl ?_
      rw [show X2 64 (105 + i) = jm (X 64) 10 i from by rw [← hK, ← show jFin (jm (X1 64)) k 10 = K 10 from hsim.pass.row (show 10 ≠ 0 by omega), ← w2.j, jm10 (by omega)]]
      refine er_loc (pc' := 50) rfl rfl rfl ?_
      refine er_gf (pc' := 53) (_) rfl rfl rfl rfl rfl ?_
      refine er_k (pc' := 54) (nI 0) rfl rfl rfl ?_
      refine er_ia (pc' := 55) (0) rfl rfl rfl rfl (by omega) rfl rfl ?_
      refine er_cm_ne (pc' := 58) rfl rfl (fun h55 => ?_) (fun h55 => ?_)
      · refine er_k (nI 0) rfl rfl rfl ?_
        refine er_loc (pc' := 65) (L' := [(4, _), (0, _), (1, _), (2, _), (3, _)]) rfl rfl rfl ?_
        refine er_loc (pc' := 67) rfl rfl rfl ?_
        refine er_if_eqT rfl (by decide +kernel) ?_
        refine er_k (pc' := 75) (nI 1) rfl rfl rfl ?_
        refine er_loc (pc' := 76) rfl rfl rfl ?_
        refine er_iadd (pc' := 77) rfl rfl ?_
        refine er_loc (pc' := 78) (L' := [(2, _), (4, _), (0, _), (1, _), (3, _)]) rfl rfl rfl ?_
        refine er_loc (pc' := 81) (L' := [(3, .int (_ + nI 1)), (2, _), (4, _), (0, _), (1, _)]) rfl rfl rfl ?_
        refine er_goto rfl ?_
        refine ER_loc [(0, _), (1, _), (2, _), (3, _)] rfl (List.forall_mem_cons.mpr ⟨rfl, List.forall_mem_cons.mpr ⟨rfl, List.forall_mem_cons.mpr ⟨rfl, List.forall_mem_cons.mpr ⟨rfl, fun _ h => absurd h List.not_mem_nil⟩⟩⟩⟩) rfl rfl ?_
        have w10 : jPass K k 0 10 = X2 64 0 := by rw [← jm010 (R := X2 64), w2.j]; exact (hsim.pass.fld (by omega) (by omega)).symm
        have hb2 : CB X X2 := ⟨by rw [w2.off (by omega)]; exact hb.1, fun c h1 h2 => by rw [w2.off h1]; exact hb.2 c h1 h2⟩
        rw [show ck (jm (X 64)) (m + 1) i K = nI 1 + nI i from (ck_some hs2).trans (if_neg (fun e => h55 (by rw [← e, w10])))]
        exact l_rCk_out (d + 4) hb2 _ _ _ (ck_nz (by omega))
      · refine er_k (nI 1) rfl rfl rfl ?_
        refine er_goto rfl ?_
        refine er_loc (pc' := 65) (L' := [(4, _), (0, _), (1, _), (2, _), (3, _)]) rfl rfl rfl ?_
        refine er_loc (pc' := 67) rfl rfl rfl ?_
        refine er_if_eqF (pc' := 70) rfl (by decide +kernel) rfl ?_
        refine er_k (pc' := 71) (nI 0) rfl rfl rfl ?_
        refine er_goto rfl ?_
        refine er_loc (pc' := 78) (L' := [(2, _), (4, _), (0, _), (1, _), (3, _)]) rfl rfl rfl ?_
        refine er_loc (pc' := 81) (L' := [(3, .int (_ + nI 1)), (2, _), (4, _), (0, _), (1, _)]) rfl rfl rfl ?_
        refine er_goto rfl ?_
        refine ER_loc [(0, _), (1, _), (2, _), (3, _)] rfl (List.forall_mem_cons.mpr ⟨rfl, List.forall_mem_cons.mpr ⟨rfl, List.forall_mem_cons.mpr ⟨rfl, List.forall_mem_cons.mpr ⟨rfl, fun _ h => absurd h List.not_mem_nil⟩⟩⟩⟩) rfl rfl ?_
        have w10 : jPass K k 0 10 = X2 64 0 := by rw [← jm010 (R := X2 64), w2.j]; exact (hsim.pass.fld (by omega) (by omega)).symm
        have hb2 : CB X X2 := ⟨by rw [w2.off (by omega)]; exact hb.1, fun c h1 h2 => by rw [w2.off h1]; exact hb.2 c h1 h2⟩
        rw [show ck (jm (X 64)) (m + 1) i K = ck (jm (X 64)) m (i + 1) (jPass K k) from (ck_some hs2).trans (if_pos (by rw [w10, ← h55]))]
        exact l_rCk_loop d n hn m (i + 1) (T1 + 300) X2 Z2 _ _ (by omega) (nI_add i 1) hb2 (by rw [w2.j]; exact hsim.pass) (by rw [← hK]; rfl) w2.rk (by omega)
set_option maxRecDepth 100000 in
set_option maxHeartbeats 4000000 in
theorem l_rCheck (d : Nat) (X Z : Nat → Nat → Int32) {T : Nat} (hI : RK T (X 64)) (hT9 : T < 1000000) : EC (d + 9) 223 [.ref 63] (Wd X Z) (RCm (sCheck (jm (X 64))) X) := by
  refine er_enter (L := [(0, _)]) rfl rfl rfl ?_
  obtain ⟨hw, h20⟩ : X 64 6 = nI (nN (X 64 6)) ∧ nN (X 64 6) ≤ 20 := hI.ij.waits
  refine er_loc (pc' := 1) rfl rfl rfl ?_
  refine er_gf (pc' := 4) (_) rfl rfl rfl rfl rfl ?_
  refine er_k (pc' := 6) (nI 6) rfl rfl rfl ?_
  refine er_ia (pc' := 7) (6) rfl rfl rfl rfl (by omega) rfl rfl ?_
  rw [hw]
  refine er_loc (pc' := 8) (L' := [(1, _), (0, _)]) rfl rfl rfl ?_
  refine er_loc (pc' := 9) rfl rfl rfl ?_
  refine er_gf (pc' := 12) (_) rfl rfl rfl rfl rfl ?_
  refine er_k (pc' := 14) (nI 6) rfl rfl rfl ?_
  refine er_k (pc' := 15) (nI 0) rfl rfl rfl ?_
  refine er_isX (pc' := 16) (6) rfl rfl (fun _ => rfl) rfl (by omega) rfl rfl ?_
  refine er_loc (pc' := 17) rfl rfl rfl ?_
  refine er_cIv (pc' := 20) (rest := []) 12 rfl rfl rfl rfl rfl rfl (l_rThinks _ _ _) ?_
  intro Z7
  refine er_k (pc' := 21) (nI 0) rfl rfl rfl ?_
  refine er_loc (pc' := 22) (L' := [(2, _), (1, _), (0, _)]) rfl rfl rfl ?_
  refine er_k (pc' := 23) (nI 0) rfl rfl rfl ?_
  refine er_loc (pc' := 24) (L' := [(3, _), (2, _), (1, _), (0, _)]) rfl rfl rfl ?_
  refine ER_loc [(0, _), (1, _), (2, _), (3, _)] rfl (List.forall_mem_cons.mpr ⟨rfl, List.forall_mem_cons.mpr ⟨rfl, List.forall_mem_cons.mpr ⟨rfl, List.forall_mem_cons.mpr ⟨rfl, fun _ h => absurd h List.not_mem_nil⟩⟩⟩⟩) rfl rfl ?_
  have w1 := wWaits (p := 6) hI rfl (isN.of (show 0 ≤ 20 by omega) (by omega)) rfl
  refine l_rCk_loop d (X := X) (nN (X 64 6)) h20 (nN (X 64 6)) 0 T _ _ (jm (X 64)) _ (by omega) rfl ⟨?_, ?_⟩ ?_ rfl w1.rk (by omega)
  · rw [uc_same, ud_same]
  · intro c h1 h2
    rw [uc_ne h2, ud_ne h1]
  · intro i j hij
    rw [show jm (uc (ud X 64 6 (nI 0)) 66 (ud X 64 6 (nI 0) 64) 64) = ud (jm (X 64)) 0 16 (nI 0) from w1.j]
    rw [ud_at]
    by_cases h0 : i = 0
    · rw [if_pos h0, if_neg (fun e => hij ⟨h0, Or.inr e⟩)]
    · rw [if_neg h0]
end
section
/-! THE REFERENCE, its face: what rests on a step -/
theorem rest_hi {J : Nat → Nat → Int32} {k i : Nat} : ∀ {m : Nat}, m ≤ 8 → m ≤ i → bt (sRest J k m) i = false
  | 0, _, _ => bt_0 i
  | m + 1, h8, h => by
    show bt (if k < m then _ else _) i = false
    split
    · rw [bt_with (by omega), if_neg (by omega), rest_hi (by omega) (by omega)]
    · exact rest_hi (by omega) (by omega)
theorem rest_at {J : Nat → Nat → Int32} {k i : Nat} : ∀ {m : Nat}, m ≤ 8 → i < m → bt (sRest J k m) i = (decide (k < i) && (!decide ((J 4 i &&& sWith (sRest J k i) (nI k) true) = 0) && sDone J i))
  | 0, _, h => by omega
  | m + 1, h8, h => by
    show bt (if k < m then _ else _) i = _
    by_cases hi : i = m
    · subst hi
      split
      · rename_i h1
        rw [bt_with (by omega), if_pos rfl, decide_eq_true h1, Bool.true_and]
      · rename_i h1
        rw [rest_hi (by omega) (Nat.le_refl _), decide_eq_false h1, Bool.false_and]
    · split
      · rw [bt_with (by omega), if_neg hi, rest_at (by omega) (by omega)]
      · exact rest_at (by omega) (by omega)
theorem rest_iff {T : Nat} {J : Nat → Nat → Int32} (hI : IJ T J) {k : Nat} (hk : k < jn J) (i : Nat) : bt (sRest J k (jn J)) i = true ↔ i < jn J ∧ k < i ∧ sDone J i = true ∧ ∃ j, bt (J 4 i) j = true ∧ (j = k ∨ bt (sRest J k (jn J)) j = true) := by
  have h8 := jn8 hI
  rcases Nat.lt_or_ge i (jn J) with hi | hi
  · rw [rest_at h8 hi]
    simp only [Bool.and_eq_true, decide_eq_true_eq, Bool.not_eq_true', decide_eq_false_iff_not]
    rw [and_ne0]
    have e : ∀ j, bt (J 4 i) j = true → (bt (sWith (sRest J k i) (nI k) true) j = true ↔ (j = k ∨ bt (sRest J k (jn J)) j = true)) := by
      intro j hj
      have hji := hI.needs i j hj
      rw [bt_with (by omega)]
      by_cases hjk : j = k
      · simp [hjk]
      · rw [if_neg hjk, rest_at (by omega) hji, rest_at h8 (show j < jn J by omega)]
        simp [hjk]
    constructor
    · rintro ⟨h1, ⟨j, h2, h3⟩, h4⟩
      exact ⟨hi, h1, h4, j, h2, (e j h2).mp h3⟩
    · rintro ⟨_, h1, h4, j, h2, h3⟩
      exact ⟨h1, ⟨j, h2, (e j h2).mpr h3⟩, h4⟩
  · rw [rest_hi h8 hi]
    constructor
    · intro h; cases h
    · rintro ⟨h, _⟩; omega
def yMore (J : Nat → Nat → Int32) (q : Int32) : Nat → Int32
  | 0 => q
  | i + 1 => yMore J q i ||| (if bt q i = true then yNd J i (jn J) else nI 0)
theorem bt_more {J : Nat → Nat → Int32} {q : Int32} {x : Nat} : ∀ {m : Nat}, bt (yMore J q m) x = true ↔ (bt q x = true ∨ ∃ i, i < m ∧ bt q i = true ∧ bt (yNd J i (jn J)) x = true)
  | 0 => ⟨fun h => Or.inl h, fun h => by rcases h with h | ⟨i, h, _⟩; exact h; omega⟩
  | m + 1 => by
    rw [show yMore J q (m + 1) = yMore J q m ||| (if bt q m = true then yNd J m (jn J) else nI 0) from rfl, bt_or, Bool.or_eq_true, bt_more (m := m)]
    constructor
    · rintro ((h | ⟨i, h1, h2⟩) | h)
      · exact Or.inl h
      · exact Or.inr ⟨i, by omega, h2⟩
      · by_cases hq : bt q m = true
        · rw [if_pos hq] at h
          exact Or.inr ⟨m, by omega, hq, h⟩
        · rw [if_neg hq, bt_0] at h
          cases h
    · rintro (h | ⟨i, h1, h2, h3⟩)
      · exact Or.inl (Or.inl h)
      · by_cases hi : i = m
        · subst hi
          rw [if_pos h2]
          exact Or.inr h3
        · exact Or.inl (Or.inr ⟨i, by omega, h2, h3⟩)
def UO (J : Nat → Nat → Int32) (k : Nat) (q : Int32) : Prop := (∀ i, bt (yNd J k (jn J)) i = true → bt q i = true) ∧ (∀ i, bt q i = true → bt (sRest J k (jn J)) i = true)
theorem nd_iff {T : Nat} {J : Nat → Nat → Int32} (hI : IJ T J) {s i : Nat} : bt (yNd J s (jn J)) i = true ↔ i < jn J ∧ sDone J i = true ∧ bt (J 4 i) s = true := by
  rw [bt_yNd (jn8 hI)]
  simp only [Bool.and_eq_true, decide_eq_true_eq, and_assoc]
theorem UO.start {T : Nat} {J : Nat → Nat → Int32} (hI : IJ T J) {k : Nat} (hk : k < jn J) : UO J k (yNd J k (jn J)) := by
  refine ⟨fun i h => h, fun i h => ?_⟩
  obtain ⟨h1, h2, h3⟩ := (nd_iff hI).mp h
  exact (rest_iff hI hk i).mpr ⟨h1, hI.needs i k h3, h2, k, h3, Or.inl rfl⟩
theorem UO.more {T : Nat} {J : Nat → Nat → Int32} (hI : IJ T J) {k : Nat} (hk : k < jn J) {q : Int32} (h : UO J k q) : UO J k (yMore J q (jn J)) := by
  refine ⟨fun i hi => bt_more.mpr (Or.inl (h.1 i hi)), fun i hi => ?_⟩
  rcases bt_more.mp hi with h1 | ⟨j, h1, h2, h3⟩
  · exact h.2 i h1
  · obtain ⟨g1, g2, g3⟩ := (nd_iff hI).mp h3
    have g4 := h.2 j h2
    have g5 := (rest_iff hI hk j).mp g4
    exact (rest_iff hI hk i).mpr ⟨g1, Nat.lt_trans g5.2.1 (hI.needs i j g3), g2, j, g3, Or.inr g4⟩
theorem UO.fix {T : Nat} {J : Nat → Nat → Int32} (hI : IJ T J) {k : Nat} (hk : k < jn J) {q : Int32} (h : UO J k q) (hf : yMore J q (jn J) = q) : q = sRest J k (jn J) := by
  have hs : ∀ m i, i < m → bt (sRest J k (jn J)) i = true → bt q i = true := by
    intro m
    induction m with
    | zero => intro i hi; omega
    | succ m ih =>
      intro i hi hb
      obtain ⟨g1, g2, g3, j, g4, g5⟩ := (rest_iff hI hk i).mp hb
      rcases g5 with g5 | g5
      · subst g5
        exact h.1 i ((nd_iff hI).mpr ⟨g1, g3, g4⟩)
      · have hji := hI.needs i j g4
        have hq := ih j (by omega) g5
        rw [← hf]
        exact bt_more.mpr (Or.inr ⟨j, by omega, hq, (nd_iff hI).mpr ⟨g1, g3, g4⟩⟩)
  apply bt_ext
  intro i _
  cases hb : bt q i with
  | true => exact (h.2 i hb).symm
  | false =>
    cases hr : bt (sRest J k (jn J)) i with
    | false => rfl
    | true => rw [hs (i + 1) i (by omega) hr] at hb; cases hb
def cN (x : Int32) : Nat → Nat
  | 0 => 0
  | i + 1 => cN x i + (if bt x i = true then 1 else 0)
theorem cN_le (x : Int32) : ∀ n, cN x n ≤ n
  | 0 => Nat.le_refl _
  | n + 1 => by
    have := cN_le x n
    unfold cN
    split <;> omega
theorem cN_mono {x y : Int32} (h : ∀ i, bt x i = true → bt y i = true) : ∀ n, cN x n ≤ cN y n
  | 0 => Nat.le_refl _
  | n + 1 => by
    have := cN_mono h n
    unfold cN
    by_cases hx : bt x n = true
    · rw [if_pos hx, if_pos (h n hx)]; omega
    · rw [if_neg hx]; omega
theorem cN_lt {x y : Int32} (h : ∀ i, bt x i = true → bt y i = true) {j : Nat} (hx : ¬ bt x j = true) (hy : bt y j = true) : ∀ n, j < n → cN x n < cN y n
  | 0, hj => by omega
  | n + 1, hj => by
    unfold cN
    by_cases he : j = n
    · subst he
      have := cN_mono h j
      rw [if_neg hx, if_pos hy]; omega
    · have := cN_lt h hx hy n (by omega)
      by_cases hxn : bt x n = true
      · rw [if_pos hxn, if_pos (h n hxn)]; omega
      · rw [if_neg hxn]; omega
theorem more_lt {T : Nat} {J : Nat → Nat → Int32} (hI : IJ T J) {q : Int32} (hne : ¬ yMore J q (jn J) = q) : cN q (jn J) < cN (yMore J q (jn J)) (jn J) := by
  have hsub : ∀ i, bt q i = true → bt (yMore J q (jn J)) i = true := fun i h => bt_more.mpr (Or.inl h)
  have hex : ∃ j, bt (yMore J q (jn J)) j = true ∧ ¬ bt q j = true := by
    apply Classical.byContradiction
    intro hn
    apply hne
    apply bt_ext
    intro i _
    cases hb : bt (yMore J q (jn J)) i with
    | true =>
      cases hq : bt q i with
      | true => rfl
      | false => exact absurd ⟨i, hb, by rw [hq]; decide⟩ hn
    | false =>
      cases hq : bt q i with
      | false => rfl
      | true => rw [hsub i hq] at hb; cases hb
  obtain ⟨j, h1, h2⟩ := hex
  rcases bt_more.mp h1 with h3 | ⟨i, _, _, h3⟩
  · exact absurd h3 h2
  · exact cN_lt hsub h2 h1 _ ((nd_iff hI).mp h3).1
set_option maxRecDepth 100000 in
set_option maxHeartbeats 4000000 in
theorem l_rUi_loop (d : Nat) (X Z : Nat → Nat → Int32) {T : Nat} (hI : RK T (X 64)) (s q g : Int32) (P : ab_R → Prop) : ∀ (m i : Nat) (x : Int32) (v : Int32), i + m = jn (jm (X 64)) → x = nI i → v = yMore (jm (X 64)) q i → (∀ x2, ER (d + 2) tb_m187 60 [(0, .ref 63), (1, .int s), (2, .int q), (3, .int g), (4, .int (yMore (jm (X 64)) q (jn (jm (X 64))))), (5, .int x2)] [] (Wd X Z) P) → ER (d + 2) tb_m187 18 [(0, .ref 63), (1, .int s), (2, .int q), (3, .int g), (4, .int v), (5, .int x)] [] (Wd X Z) (P)
  | 0, i, x, v, hi, h0, h1, h2 => by
    have hi0 : i = jn (jm (X 64)) := by omega
    subst h0
    subst h1
    have h8 := jn8 hI.ij
    subst hi0
    refine er_loc (pc' := 20) rfl rfl rfl ?_
    refine er_loc (pc' := 21) rfl rfl rfl ?_
    refine er_gf (pc' := 24) (_) rfl rfl rfl rfl rfl ?_
    refine er_k (pc' := 25) (nI 2) rfl rfl rfl ?_
    refine er_ia (pc' := 26) (2) rfl rfl rfl rfl (by omega) rfl rfl ?_
    rw [hI.n]
    refine er_cm_geT rfl (nI_nlt (by omega) (by omega)) ?_
    exact h2 _
  | m + 1, i, x, v, hi, h0, h1, h2 => by
    subst h0
    subst h1
    have h8 := jn8 hI.ij
    refine er_loc (pc' := 20) rfl rfl rfl ?_
    refine er_loc (pc' := 21) rfl rfl rfl ?_
    refine er_gf (pc' := 24) (_) rfl rfl rfl rfl rfl ?_
    refine er_k (pc' := 25) (nI 2) rfl rfl rfl ?_
    refine er_ia (pc' := 26) (2) rfl rfl rfl rfl (by omega) rfl rfl ?_
    rw [hI.n]
    refine er_cm_geF (pc' := 29) rfl (nI_lt (by omega) (by omega)) rfl ?_
    refine er_loc (pc' := 31) rfl rfl rfl ?_
    refine er_loc (pc' := 32) rfl rfl rfl ?_
    refine er_loc (pc' := 34) rfl rfl rfl ?_
    refine er_ishr (pc' := 35) rfl rfl ?_
    refine er_k (pc' := 36) (nI 1) rfl rfl rfl ?_
    refine er_iand (pc' := 37) rfl rfl ?_
    refine er_k (pc' := 38) (nI 1) rfl rfl rfl ?_
    refine er_cm_ne (pc' := 41) rfl rfl (fun h38 => ?_) (fun h38 => ?_)
    · refine er_k (nI 0) rfl rfl rfl ?_
      refine er_ior rfl rfl ?_
      refine er_loc (L' := [(4, _), (0, _), (1, _), (2, _), (3, _), (5, _)]) rfl rfl rfl ?_
      refine er_loc (L' := [(5, .int (_ + nI 1)), (4, _), (0, _), (1, _), (2, _), (3, _)]) rfl rfl rfl ?_
      refine er_goto rfl ?_
      refine ER_loc [(0, _), (1, _), (2, _), (3, _), (4, _), (5, _)] rfl (List.forall_mem_cons.mpr ⟨rfl, List.forall_mem_cons.mpr ⟨rfl, List.forall_mem_cons.mpr ⟨rfl, List.forall_mem_cons.mpr ⟨rfl, List.forall_mem_cons.mpr ⟨rfl, List.forall_mem_cons.mpr ⟨rfl, fun _ h => absurd h List.not_mem_nil⟩⟩⟩⟩⟩⟩) rfl rfl ?_
      refine l_rUi_loop d X Z hI s q g P m (i + 1) _ _ (by omega) (nI_add i 1) ?_ h2
      show _ = _ ||| (if _ then _ else _)
      rw [if_neg (fun hh => h38 ((sar_bt (by omega)).mpr hh))]
    · refine er_loc rfl rfl rfl ?_
      refine er_loc (pc' := 44) rfl rfl rfl ?_
      refine er_cIi (pc' := 47) (rest := [_]) 12 rfl rfl rfl rfl rfl rfl (l_rNeeding _ X _ hI (by omega)) ?_
      refine er_goto rfl ?_
      refine er_ior rfl rfl ?_
      refine er_loc (L' := [(4, _), (0, _), (1, _), (2, _), (3, _), (5, _)]) rfl rfl rfl ?_
      refine er_loc (L' := [(5, .int (_ + nI 1)), (4, _), (0, _), (1, _), (2, _), (3, _)]) rfl rfl rfl ?_
      refine er_goto rfl ?_
      refine ER_loc [(0, _), (1, _), (2, _), (3, _), (4, _), (5, _)] rfl (List.forall_mem_cons.mpr ⟨rfl, List.forall_mem_cons.mpr ⟨rfl, List.forall_mem_cons.mpr ⟨rfl, List.forall_mem_cons.mpr ⟨rfl, List.forall_mem_cons.mpr ⟨rfl, List.forall_mem_cons.mpr ⟨rfl, fun _ h => absurd h List.not_mem_nil⟩⟩⟩⟩⟩⟩) rfl rfl ?_
      refine l_rUi_loop d X Z hI s q g P m (i + 1) _ _ (by omega) (nI_add i 1) ?_ h2
      show _ = _ ||| (if _ then _ else _)
      rw [if_pos ((sar_bt (by omega)).mp h38)]
set_option maxRecDepth 100000 in
set_option maxHeartbeats 4000000 in
theorem l_rUo_loop (d : Nat) (X Z : Nat → Nat → Int32) {T : Nat} (hI : RK T (X 64)) {k : Nat} (hk : k < jn (jm (X 64))) : ∀ (m : Nat) (q : Int32), UO (jm (X 64)) k q → jn (jm (X 64)) ≤ cN q (jn (jm (X 64))) + m → ER (d + 3) tb_m187 8 [(0, .ref 63), (1, .int (nI k)), (2, .int q), (3, .int (nI 1))] [] (Wd X Z) (PI (sRest (jm (X 64)) k (jn (jm (X 64)))) (Wd X Z))
  | 0, q, huo, hm => by
    refine er_loc (pc' := 9) rfl rfl rfl ?_
    refine er_if_eqF (pc' := 12) rfl (by decide +kernel) rfl ?_
    refine er_loc (pc' := 13) rfl rfl rfl ?_
    refine er_loc (pc' := 15) (L' := [(4, _), (0, _), (1, _), (2, _), (3, _)]) rfl rfl rfl ?_
    refine er_k (pc' := 16) (nI 0) rfl rfl rfl ?_
    refine er_loc (pc' := 18) (L' := [(5, _), (4, _), (0, _), (1, _), (2, _), (3, _)]) rfl rfl rfl ?_
    refine ER_loc [(0, _), (1, _), (2, _), (3, _), (4, _), (5, _)] rfl (List.forall_mem_cons.mpr ⟨rfl, List.forall_mem_cons.mpr ⟨rfl, List.forall_mem_cons.mpr ⟨rfl, List.forall_mem_cons.mpr ⟨rfl, List.forall_mem_cons.mpr ⟨rfl, List.forall_mem_cons.mpr ⟨rfl, fun _ h => absurd h List.not_mem_nil⟩⟩⟩⟩⟩⟩) rfl rfl ?_
    refine l_rUi_loop (d + 1) X Z hI (nI k) q (nI 1) _ (jn (jm (X 64))) 0 _ _ (by omega) rfl rfl ?_
    intro x2
    refine er_loc (pc' := 62) rfl rfl rfl ?_
    refine er_loc (pc' := 63) rfl rfl rfl ?_
    refine er_cm_eq (pc' := 66) rfl rfl (fun h63 => ?_) (fun h63 => ?_)
    · refine er_k (nI 0) rfl rfl rfl ?_
      refine er_loc (pc' := 72) (L' := [(3, _), (0, _), (1, _), (2, _), (4, _), (5, _)]) rfl rfl rfl ?_
      refine er_loc (pc' := 74) rfl rfl rfl ?_
      refine er_loc (pc' := 75) (L' := [(2, _), (3, _), (0, _), (1, _), (4, _), (5, _)]) rfl rfl rfl ?_
      refine er_goto rfl ?_
      refine er_loc (pc' := 9) rfl rfl rfl ?_
      refine er_if_eqT rfl (rfl) ?_
      refine er_loc (pc' := 79) rfl rfl rfl ?_
      refine er_iret rfl rfl ?_
      exact PI_of (by rw [h63]; exact huo.fix hI.ij hk h63)
    · have hlt := more_lt hI.ij (q := q) h63
      have hle := cN_le (yMore (jm (X 64)) q (jn (jm (X 64)))) (jn (jm (X 64)))
      omega
  | m + 1, q, huo, hm => by
    refine er_loc (pc' := 9) rfl rfl rfl ?_
    refine er_if_eqF (pc' := 12) rfl (by decide +kernel) rfl ?_
    refine er_loc (pc' := 13) rfl rfl rfl ?_
    refine er_loc (pc' := 15) (L' := [(4, _), (0, _), (1, _), (2, _), (3, _)]) rfl rfl rfl ?_
    refine er_k (pc' := 16) (nI 0) rfl rfl rfl ?_
    refine er_loc (pc' := 18) (L' := [(5, _), (4, _), (0, _), (1, _), (2, _), (3, _)]) rfl rfl rfl ?_
    refine ER_loc [(0, _), (1, _), (2, _), (3, _), (4, _), (5, _)] rfl (List.forall_mem_cons.mpr ⟨rfl, List.forall_mem_cons.mpr ⟨rfl, List.forall_mem_cons.mpr ⟨rfl, List.forall_mem_cons.mpr ⟨rfl, List.forall_mem_cons.mpr ⟨rfl, List.forall_mem_cons.mpr ⟨rfl, fun _ h => absurd h List.not_mem_nil⟩⟩⟩⟩⟩⟩) rfl rfl ?_
    refine l_rUi_loop (d + 1) X Z hI (nI k) q (nI 1) _ (jn (jm (X 64))) 0 _ _ (by omega) rfl rfl ?_
    intro x2
    refine er_loc (pc' := 62) rfl rfl rfl ?_
    refine er_loc (pc' := 63) rfl rfl rfl ?_
    refine er_cm_eq (pc' := 66) rfl rfl (fun h63 => ?_) (fun h63 => ?_)
    · refine er_k (nI 0) rfl rfl rfl ?_
      refine er_loc (pc' := 72) (L' := [(3, _), (0, _), (1, _), (2, _), (4, _), (5, _)]) rfl rfl rfl ?_
      refine er_loc (pc' := 74) rfl rfl rfl ?_
      refine er_loc (pc' := 75) (L' := [(2, _), (3, _), (0, _), (1, _), (4, _), (5, _)]) rfl rfl rfl ?_
      refine er_goto rfl ?_
      refine er_loc (pc' := 9) rfl rfl rfl ?_
      refine er_if_eqT rfl (rfl) ?_
      refine er_loc (pc' := 79) rfl rfl rfl ?_
      refine er_iret rfl rfl ?_
      exact PI_of (by rw [h63]; exact huo.fix hI.ij hk h63)
    · refine er_k (nI 1) rfl rfl rfl ?_
      refine er_goto rfl ?_
      refine er_loc (pc' := 72) (L' := [(3, _), (0, _), (1, _), (2, _), (4, _), (5, _)]) rfl rfl rfl ?_
      refine er_loc (pc' := 74) rfl rfl rfl ?_
      refine er_loc (pc' := 75) (L' := [(2, _), (3, _), (0, _), (1, _), (4, _), (5, _)]) rfl rfl rfl ?_
      refine er_goto rfl ?_
      refine ER_loc [(0, _), (1, _), (2, _), (3, _)] rfl (List.forall_mem_cons.mpr ⟨rfl, List.forall_mem_cons.mpr ⟨rfl, List.forall_mem_cons.mpr ⟨rfl, List.forall_mem_cons.mpr ⟨rfl, fun _ h => absurd h List.not_mem_nil⟩⟩⟩⟩) rfl rfl ?_
      have hlt := more_lt hI.ij (q := q) h63
      exact l_rUo_loop d X Z hI hk m _ (huo.more hI.ij hk) (by omega)
set_option maxRecDepth 100000 in
set_option maxHeartbeats 4000000 in
theorem l_rUnderOf (d : Nat) (X Z : Nat → Nat → Int32) {T : Nat} (hI : RK T (X 64)) {k : Nat} (hk : k < jn (jm (X 64))) : EC (d + 4) 187 [.ref 63, .int (nI k)] (Wd X Z) (PI (sRest (jm (X 64)) k (jn (jm (X 64)))) (Wd X Z)) := by
  refine er_enter (L := [(0, _), (1, _)]) rfl rfl rfl ?_
  have h8 := jn8 hI.ij
  refine er_loc (pc' := 1) rfl rfl rfl ?_
  refine er_loc (pc' := 2) rfl rfl rfl ?_
  refine er_cIi (pc' := 5) (rest := []) 12 rfl rfl rfl rfl rfl rfl (l_rNeeding _ X _ hI (by omega)) ?_
  refine er_loc (pc' := 6) (L' := [(2, _), (0, _), (1, _)]) rfl rfl rfl ?_
  refine er_k (pc' := 7) (nI 1) rfl rfl rfl ?_
  refine er_loc (pc' := 8) (L' := [(3, _), (2, _), (0, _), (1, _)]) rfl rfl rfl ?_
  refine ER_loc [(0, _), (1, _), (2, _), (3, _)] rfl (List.forall_mem_cons.mpr ⟨rfl, List.forall_mem_cons.mpr ⟨rfl, List.forall_mem_cons.mpr ⟨rfl, List.forall_mem_cons.mpr ⟨rfl, fun _ h => absurd h List.not_mem_nil⟩⟩⟩⟩) rfl rfl ?_
  exact l_rUo_loop d X Z hI hk (jn (jm (X 64))) _ (UO.start hI.ij hk) (by omega)
set_option maxRecDepth 100000 in
set_option maxHeartbeats 4000000 in
theorem l_rUnder_no (d : Nat) (X Z : Nat → Nat → Int32) {T : Nat} (hI : RK T (X 64)) (s : Int32) (hs : jHas (jm (X 64)) s = false) : EC (d + 3) 186 [.ref 63, .int s] (Wd X Z) (RI (sErr 1) (yErr X 1)) := by
  refine er_enter (L := [(0, _), (1, _)]) rfl rfl rfl ?_
  refine er_loc (pc' := 1) rfl rfl rfl ?_
  refine er_loc (pc' := 2) rfl rfl rfl ?_
  refine er_cIi (pc' := 5) (rest := []) 12 rfl rfl rfl rfl rfl rfl (l_rHas_f _ X _ hI hs) ?_
  refine er_if_neF (pc' := 8) rfl (by decide +kernel) rfl ?_
  refine er_loc (pc' := 9) rfl rfl rfl ?_
  refine er_ldc (pc' := 11) (-1000000001) rfl rfl rfl rfl rfl ?_
  refine er_cIz (pc' := 14) (rest := []) 12 rfl rfl rfl rfl rfl rfl (l_rError1 _ _ _) ?_
  intro Z9
  refine er_iret rfl rfl ?_
  exact RI_of rfl rfl
set_option maxRecDepth 100000 in
set_option maxHeartbeats 4000000 in
theorem l_rUnder (d : Nat) (X Z : Nat → Nat → Int32) {T : Nat} (hI : RK T (X 64)) {k : Nat} (hk : k < jn (jm (X 64))) : EC (d + 5) 186 [.ref 63, .int (nI k)] (Wd X Z) (fun r => if sDone (jm (X 64)) k = true then RI (sRest (jm (X 64)) k (jn (jm (X 64)))) X r else RI (sErr 3) (yErr X 3) r) := by
  cases hdn : sDone (jm (X 64)) k with
  | false =>
    refine er_enter (L := [(0, _), (1, _)]) rfl rfl rfl ?_
    refine er_loc (pc' := 1) rfl rfl rfl ?_
    refine er_loc (pc' := 2) rfl rfl rfl ?_
    refine er_cIi (pc' := 5) (rest := []) 12 rfl rfl rfl rfl rfl rfl (l_rHas_t _ X _ hI hk) ?_
    refine er_if_neT rfl (by decide +kernel) ?_
    refine er_loc (pc' := 16) rfl rfl rfl ?_
    refine er_loc (pc' := 17) rfl rfl rfl ?_
    refine er_k (pc' := 18) (nI 4) rfl rfl rfl ?_
    refine er_cIi (pc' := 21) (rest := []) 12 rfl rfl rfl rfl rfl rfl (l_of4 _ X _ hI hk) ?_
    rw [hdn]
    refine er_k (pc' := 22) (nI 1) rfl rfl rfl ?_
    refine er_cm_neT rfl (by decide +kernel) ?_
    refine er_loc (pc' := 34) rfl rfl rfl ?_
    refine er_ldc (pc' := 36) (-1000000003) rfl rfl rfl rfl rfl ?_
    refine er_cIz (pc' := 39) (rest := []) 12 rfl rfl rfl rfl rfl rfl (l_rError3 _ _ _) ?_
    intro Z9
    refine er_iret rfl rfl ?_
    rw [if_neg (by decide)]
    exact RI_of rfl rfl
  | true =>
    refine er_enter (L := [(0, _), (1, _)]) rfl rfl rfl ?_
    refine er_loc (pc' := 1) rfl rfl rfl ?_
    refine er_loc (pc' := 2) rfl rfl rfl ?_
    refine er_cIi (pc' := 5) (rest := []) 12 rfl rfl rfl rfl rfl rfl (l_rHas_t _ X _ hI hk) ?_
    refine er_if_neT rfl (by decide +kernel) ?_
    refine er_loc (pc' := 16) rfl rfl rfl ?_
    refine er_loc (pc' := 17) rfl rfl rfl ?_
    refine er_k (pc' := 18) (nI 4) rfl rfl rfl ?_
    refine er_cIi (pc' := 21) (rest := []) 12 rfl rfl rfl rfl rfl rfl (l_of4 _ X _ hI hk) ?_
    rw [hdn]
    refine er_k (pc' := 22) (nI 1) rfl rfl rfl ?_
    refine er_cm_neF (pc' := 25) rfl (by decide +kernel) rfl ?_
    refine er_loc (pc' := 26) rfl rfl rfl ?_
    refine er_loc (pc' := 27) rfl rfl rfl ?_
    refine er_cIi (pc' := 30) (rest := []) 12 rfl rfl rfl rfl rfl rfl (l_rUnderOf _ X _ hI hk) ?_
    refine er_goto rfl ?_
    refine er_iret rfl rfl ?_
    rw [if_pos rfl]
    exact RI_of rfl rfl
end
section
/-! THE REFERENCE, its face: going back, whose screws -/
theorem goset_bt {J : Nat → Nat → Int32} {k i : Nat} {T : Nat} (hI : IJ T J) (hk : k < jn J) : bt (sGoSet J k) i = true ↔ (i = k ∨ bt (sRest J k (jn J)) i = true) := by
  have h8 := jn8 hI
  unfold sGoSet
  rw [bt_with (by omega)]
  by_cases h : i = k
  · simp [h]
  · simp [h]
theorem goset_ge {J : Nat → Nat → Int32} {k i : Nat} {T : Nat} (hI : IJ T J) (hk : k < jn J) (h : bt (sGoSet J k) i = true) : k ≤ i := by
  rcases (goset_bt hI hk).mp h with h | h
  · omega
  · exact Nat.le_of_lt ((rest_iff hI hk i).mp h).2.1
theorem sAny_from {p : Nat → Bool} {a : Nat} : ∀ {n : Nat}, n ≤ 8 → (∀ i, i < 8 → p i = true → a ≤ i) → sAny p 0 n = sAny p a n
  | 0, _, _ => rfl
  | n + 1, h8, h => by
    show (_ || _) = (_ || _)
    rw [sAny_from (by omega) h, decide_eq_true (Nat.zero_le n), Bool.true_and]
    cases hp : p n with
    | false => rw [Bool.and_false]
    | true => rw [decide_eq_true (h n (by omega) hp)]; rfl
theorem sAny_t {p : Nat → Bool} {i : Nat} (h : sAny p 0 i = true) : sAny p 0 (i + 1) = true := by
  show (_ || _) = true
  rw [h]; rfl
theorem sAny_p {p : Nat → Bool} {i : Nat} (h : p i = true) : sAny p 0 (i + 1) = true := by
  show (_ || _) = true
  rw [h]; simp
theorem sAny_f {p : Nat → Bool} {i : Nat} (h1 : sAny p 0 i = false) (h : p i = false) : sAny p 0 (i + 1) = false := by
  show (_ || _) = false
  rw [h1, h]; simp
set_option maxRecDepth 100000 in
set_option maxHeartbeats 4000000 in
theorem l_rBk_loop (d : Nat) (X Z : Nat → Nat → Int32) {T : Nat} (hI : RK T (X 64)) (s q : Int32) : ∀ (m i : Nat) (x : Int32) (v : Int32), i + m = jn (jm (X 64)) → x = nI i → v = bI (sAny (sBp (jm (X 64)) q) 0 i) → ER (d + 3) tb_m190 15 [(0, .ref 63), (1, .int s), (2, .int q), (3, .int v), (4, .int x)] [] (Wd X Z) (PI (bI (sAny (sBp (jm (X 64)) q) 0 (jn (jm (X 64))))) (Wd X Z))
  | 0, i, x, v, hi, h0, h1 => by
    have hi0 : i = jn (jm (X 64)) := by omega
    subst h0
    subst h1
    have h8 := jn8 hI.ij
    subst hi0
    refine er_loc (pc' := 17) rfl rfl rfl ?_
    refine er_loc (pc' := 18) rfl rfl rfl ?_
    refine er_gf (pc' := 21) (_) rfl rfl rfl rfl rfl ?_
    refine er_k (pc' := 22) (nI 2) rfl rfl rfl ?_
    refine er_ia (pc' := 23) (2) rfl rfl rfl rfl (by omega) rfl rfl ?_
    rw [hI.n]
    refine er_cm_geT rfl (nI_nlt (by omega) (by omega)) ?_
    refine er_loc (pc' := 62) rfl rfl rfl ?_
    refine er_zret rfl rfl ?_
    exact PI_of rfl
  | m + 1, i, x, v, hi, h0, h1 => by
    subst h0
    subst h1
    have h8 := jn8 hI.ij
    refine er_loc (pc' := 17) rfl rfl rfl ?_
    refine er_loc (pc' := 18) rfl rfl rfl ?_
    refine er_gf (pc' := 21) (_) rfl rfl rfl rfl rfl ?_
    refine er_k (pc' := 22) (nI 2) rfl rfl rfl ?_
    refine er_ia (pc' := 23) (2) rfl rfl rfl rfl (by omega) rfl rfl ?_
    rw [hI.n]
    refine er_cm_geF (pc' := 26) rfl (nI_lt (by omega) (by omega)) rfl ?_
    refine er_loc (pc' := 27) rfl rfl rfl ?_
    refine er_if_neb (pc' := 30) rfl rfl (fun h27 => ?_) (fun h27 => ?_)
    · refine er_k (nI 1) rfl rfl rfl ?_
      refine er_goto rfl ?_
      refine er_loc (L' := [(3, _), (0, _), (1, _), (2, _), (4, _)]) rfl rfl rfl ?_
      refine er_loc (L' := [(4, .int (_ + nI 1)), (3, _), (0, _), (1, _), (2, _)]) rfl rfl rfl ?_
      refine er_goto rfl ?_
      refine ER_loc [(0, _), (1, _), (2, _), (3, _), (4, _)] rfl (List.forall_mem_cons.mpr ⟨rfl, List.forall_mem_cons.mpr ⟨rfl, List.forall_mem_cons.mpr ⟨rfl, List.forall_mem_cons.mpr ⟨rfl, List.forall_mem_cons.mpr ⟨rfl, fun _ h => absurd h List.not_mem_nil⟩⟩⟩⟩⟩) rfl rfl ?_
      refine l_rBk_loop d X Z hI s q m (i + 1) _ _ (by omega) (nI_add i 1) ?_
      exact bI_eq1 (sAny_t h27)
    · refine er_loc rfl rfl rfl ?_
      refine er_loc (pc' := 33) rfl rfl rfl ?_
      refine er_ishr (pc' := 34) rfl rfl ?_
      refine er_k (pc' := 35) (nI 1) rfl rfl rfl ?_
      refine er_iand (pc' := 36) rfl rfl ?_
      refine er_k (pc' := 37) (nI 1) rfl rfl rfl ?_
      refine er_cm_ne (pc' := 40) rfl rfl (fun h37 => ?_) (fun h37 => ?_)
      · refine er_k (nI 0) rfl rfl rfl ?_
        refine er_loc (L' := [(3, _), (0, _), (1, _), (2, _), (4, _)]) rfl rfl rfl ?_
        refine er_loc (L' := [(4, .int (_ + nI 1)), (3, _), (0, _), (1, _), (2, _)]) rfl rfl rfl ?_
        refine er_goto rfl ?_
        refine ER_loc [(0, _), (1, _), (2, _), (3, _), (4, _)] rfl (List.forall_mem_cons.mpr ⟨rfl, List.forall_mem_cons.mpr ⟨rfl, List.forall_mem_cons.mpr ⟨rfl, List.forall_mem_cons.mpr ⟨rfl, List.forall_mem_cons.mpr ⟨rfl, fun _ h => absurd h List.not_mem_nil⟩⟩⟩⟩⟩) rfl rfl ?_
        refine l_rBk_loop d X Z hI s q m (i + 1) _ _ (by omega) (nI_add i 1) ?_
        exact bI_eq0 (sAny_f h27 (by unfold sBp; rw [sBit_bt (by omega)]; cases hb : bt q i with | true => exact absurd ((sar_bt (by omega)).mpr hb) h37 | false => rfl))
      · refine er_loc rfl rfl rfl ?_
        refine er_loc (pc' := 43) rfl rfl rfl ?_
        refine er_cIi (pc' := 46) (rest := []) 12 rfl rfl rfl rfl rfl rfl (l_rNeverJ _ X _ hI (by omega)) ?_
        refine er_if_eqb (pc' := 49) rfl rfl (fun h46 => ?_) (fun h46 => ?_)
        · refine er_k (nI 0) rfl rfl rfl ?_
          refine er_loc (L' := [(3, _), (0, _), (1, _), (2, _), (4, _)]) rfl rfl rfl ?_
          refine er_loc (L' := [(4, .int (_ + nI 1)), (3, _), (0, _), (1, _), (2, _)]) rfl rfl rfl ?_
          refine er_goto rfl ?_
          refine ER_loc [(0, _), (1, _), (2, _), (3, _), (4, _)] rfl (List.forall_mem_cons.mpr ⟨rfl, List.forall_mem_cons.mpr ⟨rfl, List.forall_mem_cons.mpr ⟨rfl, List.forall_mem_cons.mpr ⟨rfl, List.forall_mem_cons.mpr ⟨rfl, fun _ h => absurd h List.not_mem_nil⟩⟩⟩⟩⟩) rfl rfl ?_
          refine l_rBk_loop d X Z hI s q m (i + 1) _ _ (by omega) (nI_add i 1) ?_
          exact bI_eq0 (sAny_f h27 (by unfold sBp; rw [h46, Bool.and_false]))
        · refine er_k (nI 1) rfl rfl rfl ?_
          refine er_goto rfl ?_
          refine er_loc (L' := [(3, _), (0, _), (1, _), (2, _), (4, _)]) rfl rfl rfl ?_
          refine er_loc (L' := [(4, .int (_ + nI 1)), (3, _), (0, _), (1, _), (2, _)]) rfl rfl rfl ?_
          refine er_goto rfl ?_
          refine ER_loc [(0, _), (1, _), (2, _), (3, _), (4, _)] rfl (List.forall_mem_cons.mpr ⟨rfl, List.forall_mem_cons.mpr ⟨rfl, List.forall_mem_cons.mpr ⟨rfl, List.forall_mem_cons.mpr ⟨rfl, List.forall_mem_cons.mpr ⟨rfl, fun _ h => absurd h List.not_mem_nil⟩⟩⟩⟩⟩) rfl rfl ?_
          refine l_rBk_loop d X Z hI s q m (i + 1) _ _ (by omega) (nI_add i 1) ?_
          exact bI_eq1 (sAny_p (by unfold sBp; rw [sBit_bt (by omega), (sar_bt (by omega)).mp h37, h46]; rfl))
set_option maxRecDepth 100000 in
set_option maxHeartbeats 4000000 in
theorem l_rBlocked (d : Nat) (X Z : Nat → Nat → Int32) {T : Nat} (hI : RK T (X 64)) {k : Nat} (hk : k < jn (jm (X 64))) : EC (d + 5) 190 [.ref 63, .int (nI k)] (Wd X Z) (PI (bI (sBlocked (jm (X 64)) k)) (Wd X Z)) := by
  refine er_enter (L := [(0, _), (1, _)]) rfl rfl rfl ?_
  refine er_loc (pc' := 1) rfl rfl rfl ?_
  refine er_loc (pc' := 2) rfl rfl rfl ?_
  refine er_cIi (pc' := 5) (rest := []) 12 rfl rfl rfl rfl rfl rfl (l_rUnderOf _ X _ hI hk) ?_
  refine er_k (pc' := 6) (nI 1) rfl rfl rfl ?_
  refine er_loc (pc' := 7) rfl rfl rfl ?_
  refine er_ishl (pc' := 8) rfl rfl ?_
  refine er_ior (pc' := 9) rfl rfl ?_
  refine er_loc (pc' := 10) (L' := [(2, _), (0, _), (1, _)]) rfl rfl rfl ?_
  refine er_k (pc' := 11) (nI 0) rfl rfl rfl ?_
  refine er_loc (pc' := 12) (L' := [(3, _), (2, _), (0, _), (1, _)]) rfl rfl rfl ?_
  refine er_k (pc' := 13) (nI 0) rfl rfl rfl ?_
  refine er_loc (pc' := 15) (L' := [(4, _), (3, _), (2, _), (0, _), (1, _)]) rfl rfl rfl ?_
  refine ER_loc [(0, _), (1, _), (2, _), (3, _), (4, _)] rfl (List.forall_mem_cons.mpr ⟨rfl, List.forall_mem_cons.mpr ⟨rfl, List.forall_mem_cons.mpr ⟨rfl, List.forall_mem_cons.mpr ⟨rfl, List.forall_mem_cons.mpr ⟨rfl, fun _ h => absurd h List.not_mem_nil⟩⟩⟩⟩⟩) rfl rfl ?_
  have h8 := jn8 hI.ij
  have e : sBlocked (jm (X 64)) k = sAny (sBp (jm (X 64)) (sGoSet (jm (X 64)) k)) 0 (jn (jm (X 64))) := by
    unfold sBlocked
    refine (sAny_from h8 (fun i hi hp => ?_)).symm
    unfold sBp at hp
    rw [Bool.and_eq_true, sBit_bt (by omega)] at hp
    exact goset_ge hI.ij hk hp.1
  rw [e]
  exact l_rBk_loop (d + 1) X Z hI _ (sGoSet (jm (X 64)) k) (jn (jm (X 64))) 0 _ _ (by omega) rfl rfl
theorem gD_lo {J : Nat → Nat → Int32} {s : Int32} : ∀ {m : Nat} {t : Int32}, m ≤ 8 → (∀ i, i < m → ¬ bt s i = true) → gD J s 0 m t = t
  | 0, _, _, _ => rfl
  | m + 1, t, h8, h => by
    have hm := h m (by omega)
    show gD J s 0 m (if sBit s (nI (0 + m)) = true then _ else t) = t
    rw [Nat.zero_add, sBit_bt (by omega), if_neg hm]
    exact gD_lo (by omega) (fun i hi => h i (by omega))
theorem gD_split {J : Nat → Nat → Int32} {s : Int32} {k : Nat} : ∀ {m : Nat} {t : Int32}, k + m ≤ 8 → (∀ i, i < k → ¬ bt s i = true) → gD J s 0 (k + m) t = gD J s k m t
  | 0, t, h8, h => gD_lo (by omega) h
  | m + 1, t, h8, h => by
    show gD J s 0 (k + m) (if sBit s (nI (0 + (k + m))) = true then t + sBack (ud J 0 10 t) (0 + (k + m)) else t) = gD J s k m (if sBit s (nI (k + m)) = true then t + sBack (ud J 0 10 t) (k + m) else t)
    rw [Nat.zero_add, gD_split (by omega) h]
theorem gU_skip {J : Nat → Nat → Int32} {s : Int32} {n : Nat} : ∀ {k i : Nat} {t : Int32}, i + k ≤ 8 → (∀ j, i ≤ j → j < i + k → ¬ bt s j = true) → gU J s (k + n) i t = gU J s n (i + k) t
  | 0, i, t, _, _ => by rw [Nat.zero_add, Nat.add_zero]
  | k + 1, i, t, h8, h => by
    rw [show k + 1 + n = (k + n) + 1 by omega]
    show gU J s (k + n) (i + 1) (if sBit s (nI i) = true then _ else t) = _
    rw [sBit_bt (by omega), if_neg (h i (by omega) (by omega)), gU_skip (by omega) (fun j h1 h2 => h j (by omega) (by omega)), show i + 1 + k = i + (k + 1) by omega]
theorem goM_eq {T : Nat} {J : Nat → Nat → Int32} (hI : IJ T J) {k : Nat} (hk : k < jn J) : sGoM J k = gU J (sGoSet J k) (jn J) 0 (gD J (sGoSet J k) 0 (jn J) (J 0 10)) - J 0 10 := by
  have h8 := jn8 hI
  have hb : ∀ i, i < k → ¬ bt (sGoSet J k) i = true := fun i hi hh => by have := goset_ge hI hk hh; omega
  have e1 : gD J (sGoSet J k) 0 (jn J) (J 0 10) = gD J (sGoSet J k) k (jn J - k) (J 0 10) := by
    have := gD_split (J := J) (s := sGoSet J k) (k := k) (m := jn J - k) (t := J 0 10) (by omega) hb
    rwa [show k + (jn J - k) = jn J by omega] at this
  have e2 : ∀ t, gU J (sGoSet J k) (jn J) 0 t = gU J (sGoSet J k) (jn J - k) k t := by
    intro t
    have := gU_skip (J := J) (s := sGoSet J k) (n := jn J - k) (k := k) (i := 0) (t := t) (by omega) (fun j _ h2 => hb j (by omega))
    rwa [show k + (jn J - k) = jn J by omega, Nat.zero_add] at this
  unfold sGoM
  rw [e1, e2]
def GB (X X1 : Nat → Nat → Int32) (t : Int32) (T : Nat) : Prop := (∀ c, c ≠ 64 → X1 c = uc X 66 (X 64) c) ∧ jm (X1 64) = ud (jm (X 64)) 0 10 t ∧ RK T (X1 64) ∧ X1 64 0 = t
theorem GB.min {X X1 : Nat → Nat → Int32} {t t' : Int32} {T : Nat} (h : GB X X1 t T) (hv : isN t' (T + 300)) : GB X (ud X1 64 0 t') t' (T + 300) := by
  have w := wMin (p := 0) h.2.2.1 rfl hv rfl
  refine ⟨fun c hc => by rw [ud_ne hc]; exact h.1 c hc, ?_, w.rk, rfl⟩
  rw [w.j, h.2.1, ud_ud]
theorem GB.n {X X1 : Nat → Nat → Int32} {t : Int32} {T : Nat} (h : GB X X1 t T) : jn (jm (X1 64)) = jn (jm (X 64)) := by
  rw [h.2.1]
  rfl
theorem GB.mono {X X1 : Nat → Nat → Int32} {t : Int32} {T T' : Nat} (h : GB X X1 t T) (hT : T ≤ T') : GB X X1 t T' := ⟨h.1, h.2.1, h.2.2.1.mono hT, h.2.2.2⟩
theorem go_bit {T : Nat} {J : Nat → Nat → Int32} (hI : IJ T J) {k i : Nat} (hk : k < jn J) (hi : i < 32) : sBit (sGoSet J k) (nI i) = true ↔ (i = k ∨ ((sRest J k (jn J) >>> (nI i &&& 31)) &&& nI 1) = nI 1) := by
  rw [sBit_bt hi, goset_bt hI hk, sar_bt hi]
theorem nI_addm1s (m : Nat) : nI m + (-1) = nI m - nI 1 := (Int32.sub_eq_add_neg (a := nI m) (b := nI 1)).symm ▸ rfl
set_option maxRecDepth 100000 in
set_option maxHeartbeats 4000000 in
theorem l_rGd_loop (d : Nat) {X : Nat → Nat → Int32} {T : Nat} (hI : RK T (X 64)) {k : Nat} (hk : k < jn (jm (X 64))) (P : ab_R → Prop) : ∀ (m T1 : Nat) (X1 Z : Nat → Nat → Int32) (t x : Int32), x = nI m - nI 1 → m ≤ jn (jm (X 64)) → GB X X1 t T1 → T1 + 300 * m < 1000000000 → (∀ X2 Z2 x2, GB X X2 (gD (jm (X 64)) (sGoSet (jm (X 64)) k) 0 m t) (T1 + 300 * m) → ER (d + 6) tb_m189 57 [(0, .ref 63), (1, .int (nI k)), (2, .int (sRest (jm (X 64)) k (jn (jm (X 64))))), (3, .int x2)] [] (Wd X2 Z2) P) → ER (d + 6) tb_m189 19 [(0, .ref 63), (1, .int (nI k)), (2, .int (sRest (jm (X 64)) k (jn (jm (X 64))))), (3, .int x)] [] (Wd X1 Z) P
  | 0, T1, X1, Z, t, x, hx, hm, hg, hT1, hP => by
    subst hx
    refine er_loc (pc' := 20) rfl rfl rfl ?_
    refine er_if_ltT rfl (nIs_lt (s := 0)) ?_
    refine ER_loc [(0, _), (1, _), (2, _), (3, _)] rfl (List.forall_mem_cons.mpr ⟨rfl, List.forall_mem_cons.mpr ⟨rfl, List.forall_mem_cons.mpr ⟨rfl, List.forall_mem_cons.mpr ⟨rfl, fun _ h => absurd h List.not_mem_nil⟩⟩⟩⟩) rfl rfl ?_
    exact hP X1 Z _ (hg.mono (by omega))
  | m + 1, T1, X1, Z, t, x, hx, hm, hg, hT1, hP => by
    have h8 := jn8 hI.ij
    rw [nI_s1] at hx
    subst hx
    have hm1 : isN t T1 := by rw [← hg.2.2.2]; exact hg.2.2.1.ij.minute
    replace hP : (∀ X2 Z2 x2, GB X X2 (gD (jm (X 64)) (sGoSet (jm (X 64)) k) 0 (m + 1) t) (T1 + 300 + 300 * m) → ER (d + 6) tb_m189 57 [(0, .ref 63), (1, .int (nI k)), (2, .int (sRest (jm (X 64)) k (jn (jm (X 64))))), (3, .int x2)] [] (Wd X2 Z2) P) := fun X2 Z2 x2 hh => hP X2 Z2 x2 (hh.mono (by omega))
    refine er_loc (pc' := 20) rfl rfl rfl ?_
    refine er_if_ltF (pc' := 23) rfl (nI_pos (by omega)) rfl ?_
    refine er_loc (pc' := 24) rfl rfl rfl ?_
    refine er_loc (pc' := 25) rfl rfl rfl ?_
    refine er_cm_eq (pc' := 28) rfl rfl (fun h25 => ?_) (fun h25 => ?_)
    · refine er_loc rfl rfl rfl ?_
      refine er_gf (pc' := 41) (_) rfl rfl rfl rfl rfl ?_
      refine er_k (pc' := 42) (nI 0) rfl rfl rfl ?_
      refine er_pure (pc' := 43) rfl rfl rfl ?_
      refine er_ia (pc' := 44) (0) rfl rfl rfl rfl (by omega) rfl rfl ?_
      rw [hg.2.2.2]
      refine er_loc (pc' := 45) rfl rfl rfl ?_
      refine er_loc (pc' := 46) rfl rfl rfl ?_
      refine er_cIz (pc' := 49) (rest := [_, _, _]) 12 rfl rfl rfl rfl rfl rfl (l_rBackOf _ X1 _ hg.2.2.1 (by omega) (by rw [hg.n]; omega)) ?_
      intro Z2
      refine er_iadd (pc' := 50) rfl rfl ?_
      refine er_isX (pc' := 51) (0) rfl rfl (fun _ => rfl) rfl (by omega) rfl rfl ?_
      refine er_loc (L' := [(3, .int (_ + (-1))), (0, _), (1, _), (2, _)]) rfl rfl rfl ?_
      refine er_goto rfl ?_
      refine ER_loc [(0, _), (1, _), (2, _), (3, _)] rfl (List.forall_mem_cons.mpr ⟨rfl, List.forall_mem_cons.mpr ⟨rfl, List.forall_mem_cons.mpr ⟨rfl, List.forall_mem_cons.mpr ⟨rfl, fun _ h => absurd h List.not_mem_nil⟩⟩⟩⟩) rfl rfl ?_
      have e2 : gD (jm (X 64)) (sGoSet (jm (X 64)) k) 0 (m + 1) t = gD (jm (X 64)) (sGoSet (jm (X 64)) k) 0 m (t + sBack (jm (X1 64)) m) := by
        show gD (jm (X 64)) (sGoSet (jm (X 64)) k) 0 m (if sBit (sGoSet (jm (X 64)) k) (nI (0 + m)) = true then t + sBack (ud (jm (X 64)) 0 10 t) (0 + m) else t) = _
        rw [Nat.zero_add]
        rw [if_pos ((go_bit hI.ij hk (by omega)).mpr (Or.inl (nIj (by omega) (by omega) h25))), hg.2.1]
      have hg2 := hg.min (hm1.add (back300 hg.2.2.1.ij m) (by omega))
      refine l_rGd_loop d hI hk P m (T1 + 300) _ _ _ _ (nI_addm1s m) (by omega) hg2 (by omega) ?_
      rw [← e2]
      exact hP
    · refine er_loc (pc' := 29) rfl rfl rfl ?_
      refine er_loc (pc' := 30) rfl rfl rfl ?_
      refine er_ishr (pc' := 31) rfl rfl ?_
      refine er_k (pc' := 32) (nI 1) rfl rfl rfl ?_
      refine er_iand (pc' := 33) rfl rfl ?_
      refine er_k (pc' := 34) (nI 1) rfl rfl rfl ?_
      refine er_cm_ne (pc' := 37) rfl rfl (fun h34 => ?_) (fun h34 => ?_)
      · refine er_loc (L' := [(3, .int (_ + (-1))), (0, _), (1, _), (2, _)]) rfl rfl rfl ?_
        refine er_goto rfl ?_
        refine ER_loc [(0, _), (1, _), (2, _), (3, _)] rfl (List.forall_mem_cons.mpr ⟨rfl, List.forall_mem_cons.mpr ⟨rfl, List.forall_mem_cons.mpr ⟨rfl, List.forall_mem_cons.mpr ⟨rfl, fun _ h => absurd h List.not_mem_nil⟩⟩⟩⟩) rfl rfl ?_
        have e2 : gD (jm (X 64)) (sGoSet (jm (X 64)) k) 0 (m + 1) t = gD (jm (X 64)) (sGoSet (jm (X 64)) k) 0 m t := by
          show gD (jm (X 64)) (sGoSet (jm (X 64)) k) 0 m (if sBit (sGoSet (jm (X 64)) k) (nI (0 + m)) = true then t + sBack (ud (jm (X 64)) 0 10 t) (0 + m) else t) = _
          rw [Nat.zero_add]
          rw [if_neg (fun hh => by rcases (go_bit hI.ij hk (by omega)).mp hh with hh | hh; exact h25 (by rw [hh]); exact h34 hh)]
        refine l_rGd_loop d hI hk P m (T1 + 300) _ _ _ _ (nI_addm1s m) (by omega) (hg.mono (show T1 ≤ T1 + 300 by omega)) (by omega) ?_
        rw [← e2]
        exact hP
      · refine er_loc rfl rfl rfl ?_
        refine er_gf (pc' := 41) (_) rfl rfl rfl rfl rfl ?_
        refine er_k (pc' := 42) (nI 0) rfl rfl rfl ?_
        refine er_pure (pc' := 43) rfl rfl rfl ?_
        refine er_ia (pc' := 44) (0) rfl rfl rfl rfl (by omega) rfl rfl ?_
        rw [hg.2.2.2]
        refine er_loc (pc' := 45) rfl rfl rfl ?_
        refine er_loc (pc' := 46) rfl rfl rfl ?_
        refine er_cIz (pc' := 49) (rest := [_, _, _]) 12 rfl rfl rfl rfl rfl rfl (l_rBackOf _ X1 _ hg.2.2.1 (by omega) (by rw [hg.n]; omega)) ?_
        intro Z2
        refine er_iadd (pc' := 50) rfl rfl ?_
        refine er_isX (pc' := 51) (0) rfl rfl (fun _ => rfl) rfl (by omega) rfl rfl ?_
        refine er_loc (L' := [(3, .int (_ + (-1))), (0, _), (1, _), (2, _)]) rfl rfl rfl ?_
        refine er_goto rfl ?_
        refine ER_loc [(0, _), (1, _), (2, _), (3, _)] rfl (List.forall_mem_cons.mpr ⟨rfl, List.forall_mem_cons.mpr ⟨rfl, List.forall_mem_cons.mpr ⟨rfl, List.forall_mem_cons.mpr ⟨rfl, fun _ h => absurd h List.not_mem_nil⟩⟩⟩⟩) rfl rfl ?_
        have e2 : gD (jm (X 64)) (sGoSet (jm (X 64)) k) 0 (m + 1) t = gD (jm (X 64)) (sGoSet (jm (X 64)) k) 0 m (t + sBack (jm (X1 64)) m) := by
          show gD (jm (X 64)) (sGoSet (jm (X 64)) k) 0 m (if sBit (sGoSet (jm (X 64)) k) (nI (0 + m)) = true then t + sBack (ud (jm (X 64)) 0 10 t) (0 + m) else t) = _
          rw [Nat.zero_add]
          rw [if_pos ((go_bit hI.ij hk (by omega)).mpr (Or.inr h34)), hg.2.1]
        have hg2 := hg.min (hm1.add (back300 hg.2.2.1.ij m) (by omega))
        refine l_rGd_loop d hI hk P m (T1 + 300) _ _ _ _ (nI_addm1s m) (by omega) hg2 (by omega) ?_
        rw [← e2]
        exact hP
set_option maxRecDepth 100000 in
set_option maxHeartbeats 4000000 in
theorem l_rGu_loop (d : Nat) {X : Nat → Nat → Int32} {T : Nat} (hI : RK T (X 64)) {k : Nat} (hk : k < jn (jm (X 64))) (P : ab_R → Prop) : ∀ (m i T1 : Nat) (X1 Z : Nat → Nat → Int32) (t x : Int32), i + m = jn (jm (X 64)) → x = nI i → GB X X1 t T1 → T1 + 300 * m < 1000000000 → (∀ X2 Z2 x2, GB X X2 (gU (jm (X 64)) (sGoSet (jm (X 64)) k) m i t) (T1 + 300 * m) → ER (d + 6) tb_m189 103 [(0, .ref 63), (1, .int (nI k)), (2, .int (sRest (jm (X 64)) k (jn (jm (X 64))))), (3, .int x2)] [] (Wd X2 Z2) P) → ER (d + 6) tb_m189 59 [(0, .ref 63), (1, .int (nI k)), (2, .int (sRest (jm (X 64)) k (jn (jm (X 64))))), (3, .int x)] [] (Wd X1 Z) P
  | 0, i, T1, X1, Z, t, x, hi, hx, hg, hT1, hP => by
    have h8 := jn8 hI.ij
    have hn1 : X1 64 2 = nI (jn (jm (X 64))) := by rw [hg.2.2.1.n, hg.n]
    have hi0 : i = jn (jm (X 64)) := by omega
    subst hx
    subst hi0
    refine er_loc (pc' := 60) rfl rfl rfl ?_
    refine er_loc (pc' := 61) rfl rfl rfl ?_
    refine er_gf (pc' := 64) (_) rfl rfl rfl rfl rfl ?_
    refine er_k (pc' := 65) (nI 2) rfl rfl rfl ?_
    refine er_ia (pc' := 66) (2) rfl rfl rfl rfl (by omega) rfl rfl ?_
    rw [hn1]
    refine er_cm_geT rfl (nI_nlt (by omega) (by omega)) ?_
    refine ER_loc [(0, _), (1, _), (2, _), (3, _)] rfl (List.forall_mem_cons.mpr ⟨rfl, List.forall_mem_cons.mpr ⟨rfl, List.forall_mem_cons.mpr ⟨rfl, List.forall_mem_cons.mpr ⟨rfl, fun _ h => absurd h List.not_mem_nil⟩⟩⟩⟩) rfl rfl ?_
    exact hP X1 Z _ (hg.mono (by omega))
  | m + 1, i, T1, X1, Z, t, x, hi, hx, hg, hT1, hP => by
    have h8 := jn8 hI.ij
    have hn1 : X1 64 2 = nI (jn (jm (X 64))) := by rw [hg.2.2.1.n, hg.n]
    subst hx
    have hm1 : isN t T1 := by rw [← hg.2.2.2]; exact hg.2.2.1.ij.minute
    replace hP : (∀ X2 Z2 x2, GB X X2 (gU (jm (X 64)) (sGoSet (jm (X 64)) k) (m + 1) i t) (T1 + 300 + 300 * m) → ER (d + 6) tb_m189 103 [(0, .ref 63), (1, .int (nI k)), (2, .int (sRest (jm (X 64)) k (jn (jm (X 64))))), (3, .int x2)] [] (Wd X2 Z2) P) := fun X2 Z2 x2 hh => hP X2 Z2 x2 (hh.mono (by omega))
    refine er_loc (pc' := 60) rfl rfl rfl ?_
    refine er_loc (pc' := 61) rfl rfl rfl ?_
    refine er_gf (pc' := 64) (_) rfl rfl rfl rfl rfl ?_
    refine er_k (pc' := 65) (nI 2) rfl rfl rfl ?_
    refine er_ia (pc' := 66) (2) rfl rfl rfl rfl (by omega) rfl rfl ?_
    rw [hn1]
    refine er_cm_geF (pc' := 69) rfl (nI_lt (by omega) (by omega)) rfl ?_
    refine er_loc (pc' := 70) rfl rfl rfl ?_
    refine er_loc (pc' := 71) rfl rfl rfl ?_
    refine er_cm_eq (pc' := 74) rfl rfl (fun h70 => ?_) (fun h70 => ?_)
    · refine er_loc rfl rfl rfl ?_
      refine er_gf (pc' := 87) (_) rfl rfl rfl rfl rfl ?_
      refine er_k (pc' := 88) (nI 0) rfl rfl rfl ?_
      refine er_pure (pc' := 89) rfl rfl rfl ?_
      refine er_ia (pc' := 90) (0) rfl rfl rfl rfl (by omega) rfl rfl ?_
      rw [hg.2.2.2]
      refine er_loc (pc' := 91) rfl rfl rfl ?_
      refine er_loc (pc' := 92) rfl rfl rfl ?_
      refine er_cIz (pc' := 95) (rest := [_, _, _]) 12 rfl rfl rfl rfl rfl rfl (l_rLastsOf _ X1 _ hg.2.2.1 (by omega) (by rw [hg.n]; omega)) ?_
      intro Z2
      refine er_iadd (pc' := 96) rfl rfl ?_
      refine er_isX (pc' := 97) (0) rfl rfl (fun _ => rfl) rfl (by omega) rfl rfl ?_
      refine er_loc (L' := [(3, .int (_ + nI 1)), (0, _), (1, _), (2, _)]) rfl rfl rfl ?_
      refine er_goto rfl ?_
      refine ER_loc [(0, _), (1, _), (2, _), (3, _)] rfl (List.forall_mem_cons.mpr ⟨rfl, List.forall_mem_cons.mpr ⟨rfl, List.forall_mem_cons.mpr ⟨rfl, List.forall_mem_cons.mpr ⟨rfl, fun _ h => absurd h List.not_mem_nil⟩⟩⟩⟩) rfl rfl ?_
      have e2 : gU (jm (X 64)) (sGoSet (jm (X 64)) k) (m + 1) i t = gU (jm (X 64)) (sGoSet (jm (X 64)) k) m (i + 1) (t + sLasts (jm (X1 64)) i) := by
        show gU (jm (X 64)) (sGoSet (jm (X 64)) k) m (i + 1) (if sBit (sGoSet (jm (X 64)) k) (nI i) = true then t + sLasts (ud (jm (X 64)) 0 10 t) i else t) = _
        rw [if_pos ((go_bit hI.ij hk (by omega)).mpr (Or.inl (nIj (by omega) (by omega) h70))), hg.2.1]
      have hg2 := hg.min (hm1.add (lasts300 hg.2.2.1.ij i) (by omega))
      refine l_rGu_loop d hI hk P m (i + 1) (T1 + 300) _ _ _ _ (by omega) (nI_add i 1) hg2 (by omega) ?_
      rw [← e2]
      exact hP
    · refine er_loc (pc' := 75) rfl rfl rfl ?_
      refine er_loc (pc' := 76) rfl rfl rfl ?_
      refine er_ishr (pc' := 77) rfl rfl ?_
      refine er_k (pc' := 78) (nI 1) rfl rfl rfl ?_
      refine er_iand (pc' := 79) rfl rfl ?_
      refine er_k (pc' := 80) (nI 1) rfl rfl rfl ?_
      refine er_cm_ne (pc' := 83) rfl rfl (fun h80 => ?_) (fun h80 => ?_)
      · refine er_loc (L' := [(3, .int (_ + nI 1)), (0, _), (1, _), (2, _)]) rfl rfl rfl ?_
        refine er_goto rfl ?_
        refine ER_loc [(0, _), (1, _), (2, _), (3, _)] rfl (List.forall_mem_cons.mpr ⟨rfl, List.forall_mem_cons.mpr ⟨rfl, List.forall_mem_cons.mpr ⟨rfl, List.forall_mem_cons.mpr ⟨rfl, fun _ h => absurd h List.not_mem_nil⟩⟩⟩⟩) rfl rfl ?_
        have e2 : gU (jm (X 64)) (sGoSet (jm (X 64)) k) (m + 1) i t = gU (jm (X 64)) (sGoSet (jm (X 64)) k) m (i + 1) t := by
          show gU (jm (X 64)) (sGoSet (jm (X 64)) k) m (i + 1) (if sBit (sGoSet (jm (X 64)) k) (nI i) = true then t + sLasts (ud (jm (X 64)) 0 10 t) i else t) = _
          rw [if_neg (fun hh => by rcases (go_bit hI.ij hk (by omega)).mp hh with hh | hh; exact h70 (by rw [hh]); exact h80 hh)]
        refine l_rGu_loop d hI hk P m (i + 1) (T1 + 300) _ _ _ _ (by omega) (nI_add i 1) (hg.mono (show T1 ≤ T1 + 300 by omega)) (by omega) ?_
        rw [← e2]
        exact hP
      · refine er_loc rfl rfl rfl ?_
        refine er_gf (pc' := 87) (_) rfl rfl rfl rfl rfl ?_
        refine er_k (pc' := 88) (nI 0) rfl rfl rfl ?_
        refine er_pure (pc' := 89) rfl rfl rfl ?_
        refine er_ia (pc' := 90) (0) rfl rfl rfl rfl (by omega) rfl rfl ?_
        rw [hg.2.2.2]
        refine er_loc (pc' := 91) rfl rfl rfl ?_
        refine er_loc (pc' := 92) rfl rfl rfl ?_
        refine er_cIz (pc' := 95) (rest := [_, _, _]) 12 rfl rfl rfl rfl rfl rfl (l_rLastsOf _ X1 _ hg.2.2.1 (by omega) (by rw [hg.n]; omega)) ?_
        intro Z2
        refine er_iadd (pc' := 96) rfl rfl ?_
        refine er_isX (pc' := 97) (0) rfl rfl (fun _ => rfl) rfl (by omega) rfl rfl ?_
        refine er_loc (L' := [(3, .int (_ + nI 1)), (0, _), (1, _), (2, _)]) rfl rfl rfl ?_
        refine er_goto rfl ?_
        refine ER_loc [(0, _), (1, _), (2, _), (3, _)] rfl (List.forall_mem_cons.mpr ⟨rfl, List.forall_mem_cons.mpr ⟨rfl, List.forall_mem_cons.mpr ⟨rfl, List.forall_mem_cons.mpr ⟨rfl, fun _ h => absurd h List.not_mem_nil⟩⟩⟩⟩) rfl rfl ?_
        have e2 : gU (jm (X 64)) (sGoSet (jm (X 64)) k) (m + 1) i t = gU (jm (X 64)) (sGoSet (jm (X 64)) k) m (i + 1) (t + sLasts (jm (X1 64)) i) := by
          show gU (jm (X 64)) (sGoSet (jm (X 64)) k) m (i + 1) (if sBit (sGoSet (jm (X 64)) k) (nI i) = true then t + sLasts (ud (jm (X 64)) 0 10 t) i else t) = _
          rw [if_pos ((go_bit hI.ij hk (by omega)).mpr (Or.inr h80)), hg.2.1]
        have hg2 := hg.min (hm1.add (lasts300 hg.2.2.1.ij i) (by omega))
        refine l_rGu_loop d hI hk P m (i + 1) (T1 + 300) _ _ _ _ (by omega) (nI_add i 1) hg2 (by omega) ?_
        rw [← e2]
        exact hP
set_option maxRecDepth 100000 in
set_option maxHeartbeats 4000000 in
theorem l_rGoing (d : Nat) (X Z : Nat → Nat → Int32) {T : Nat} (hI : RK T (X 64)) {k : Nat} (hk : k < jn (jm (X 64))) (hT9 : T < 1000000) : EC (d + 7) 189 [.ref 63, .int (nI k)] (Wd X Z) (R6 (sGoM (jm (X 64)) k) X) := by
  refine er_enter (L := [(0, _), (1, _)]) rfl rfl rfl ?_
  have h8 := jn8 hI.ij
  refine er_loc (pc' := 1) rfl rfl rfl ?_
  refine er_loc (pc' := 2) rfl rfl rfl ?_
  refine er_cIi (pc' := 5) (rest := []) 12 rfl rfl rfl rfl rfl rfl (l_rUnderOf _ X _ hI hk) ?_
  refine er_loc (pc' := 6) (L' := [(2, _), (0, _), (1, _)]) rfl rfl rfl ?_
  refine er_loc (pc' := 7) rfl rfl rfl ?_
  refine er_cIv (pc' := 10) (rest := []) 12 rfl rfl rfl rfl rfl rfl (l_rThinks _ _ _) ?_
  intro Z7
  refine er_loc (pc' := 11) rfl rfl rfl ?_
  refine er_gf (pc' := 14) (_) rfl rfl rfl rfl rfl ?_
  refine er_k (pc' := 15) (nI 2) rfl rfl rfl ?_
  refine er_ia (pc' := 16) (2) rfl rfl rfl rfl (by omega) rfl rfl ?_
  rw [show uc X 66 (X 64) 64 2 = nI (jn (jm (X 64))) from hI.n]
  refine er_k (pc' := 17) (nI 1) rfl rfl rfl ?_
  refine er_isub (pc' := 18) rfl rfl ?_
  refine er_loc (pc' := 19) (L' := [(3, _), (2, _), (0, _), (1, _)]) rfl rfl rfl ?_
  refine ER_loc [(0, _), (1, _), (2, _), (3, _)] rfl (List.forall_mem_cons.mpr ⟨rfl, List.forall_mem_cons.mpr ⟨rfl, List.forall_mem_cons.mpr ⟨rfl, List.forall_mem_cons.mpr ⟨rfl, fun _ h => absurd h List.not_mem_nil⟩⟩⟩⟩) rfl rfl ?_
  refine l_rGd_loop d hI hk _ (jn (jm (X 64))) T (uc X 66 (X 64)) _ (jm (X 64) 0 10) _ rfl (Nat.le_refl _) ⟨fun _ _ => rfl, ?_, hI, rfl⟩ (by omega) ?_
  · funext i j
    rw [ud_at]
    by_cases hi : i = 0
    · rw [if_pos hi]
      by_cases hj : j = 10
      · rw [if_pos hj, hi, hj]; rfl
      · rw [if_neg hj]; rfl
    · rw [if_neg hi]; rfl
  intro X2 Z2 x2 hg2
  refine er_k (pc' := 58) (nI 0) rfl rfl rfl ?_
  refine er_loc (pc' := 59) (L' := [(3, _), (0, _), (1, _), (2, _)]) rfl rfl rfl ?_
  refine ER_loc [(0, _), (1, _), (2, _), (3, _)] rfl (List.forall_mem_cons.mpr ⟨rfl, List.forall_mem_cons.mpr ⟨rfl, List.forall_mem_cons.mpr ⟨rfl, List.forall_mem_cons.mpr ⟨rfl, fun _ h => absurd h List.not_mem_nil⟩⟩⟩⟩) rfl rfl ?_
  refine l_rGu_loop d hI hk _ (jn (jm (X 64))) 0 _ X2 Z2 _ _ (by omega) rfl hg2 (by omega) ?_
  intro X3 Z3 x3 hg3
  refine er_loc (pc' := 104) rfl rfl rfl ?_
  refine er_gf (pc' := 107) (_) rfl rfl rfl rfl rfl ?_
  refine er_k (pc' := 108) (nI 0) rfl rfl rfl ?_
  refine er_ia (pc' := 109) (0) rfl rfl rfl rfl (by omega) rfl rfl ?_
  rw [hg3.2.2.2]
  refine er_loc (pc' := 110) rfl rfl rfl ?_
  refine er_gf (pc' := 113) (_) rfl rfl rfl rfl rfl ?_
  refine er_k (pc' := 114) (nI 0) rfl rfl rfl ?_
  refine er_ia (pc' := 115) (0) rfl rfl rfl rfl (by omega) rfl rfl ?_
  rw [show X3 66 0 = jm (X 64) 0 10 from by rw [hg3.1 66 (by omega)]; rfl]
  refine er_isub (pc' := 116) rfl rfl ?_
  refine er_loc (pc' := 117) (L' := [(3, _), (0, _), (1, _), (2, _)]) rfl rfl rfl ?_
  refine er_loc (pc' := 118) rfl rfl rfl ?_
  refine er_cIv (pc' := 121) (rest := []) 12 rfl rfl rfl rfl rfl rfl (l_rPutsBack _ _ _) ?_
  intro Z7
  refine er_loc (pc' := 122) rfl rfl rfl ?_
  refine er_iret rfl rfl ?_
  refine R6_of (goM_eq hI.ij hk).symm ?_
  intro c hc
  by_cases h64 : c = 64
  · subst h64
    rw [uc_same, hg3.1 66 (by omega)]
    rfl
  · rw [uc_ne h64, hg3.1 c h64]
    exact uc_ne hc
end
section
/-! THE REFERENCE, its face: goBack, lookAt, whose -/
set_option maxRecDepth 100000 in
set_option maxHeartbeats 4000000 in
theorem l_rGoBack_no (d : Nat) (X Z : Nat → Nat → Int32) {T : Nat} (hI : RK T (X 64)) (s w : Int32) (hs : jHas (jm (X 64)) s = false) : EC (d + 3) 188 [.ref 63, .int s, .int w] (Wd X Z) (RI (sErr 1) (yErr X 1)) := by
  refine er_enter (L := [(0, _), (1, _), (2, _)]) rfl rfl rfl ?_
  refine er_loc (pc' := 1) rfl rfl rfl ?_
  refine er_loc (pc' := 2) rfl rfl rfl ?_
  refine er_cIi (pc' := 5) (rest := []) 12 rfl rfl rfl rfl rfl rfl (l_rHas_f _ X _ hI hs) ?_
  refine er_if_eqT rfl (by decide +kernel) ?_
  refine er_loc (pc' := 18) rfl rfl rfl ?_
  refine er_ldc (pc' := 20) (-1000000001) rfl rfl rfl rfl rfl ?_
  refine er_cIz (pc' := 23) (rest := []) 12 rfl rfl rfl rfl rfl rfl (l_rError1 _ _ _) ?_
  intro Z9
  refine er_iret rfl rfl ?_
  exact RI_of rfl rfl
section ERL
variable {d pc pc' lk : Nat} {M : ab_M} {L L' : ab_Lo} {st : List Value} {w : ab_W} {P : ab_R → Prop} {X Z : Nat → Nat → Int32}
theorem er_cI6 (cls : Nat) {c j : Nat} {v : Int32} {ins : Instr} {fs As rest : List Value} (hf : ab_fetch M.2.2.2.2.2.2.2 pc = some (ins, lk)) (hi : isCI ins = true) (hq : qI lk cls st = some (c, j, As, rest)) (hc : Nat.blt c 79 = true) (ho : cO c (X c) (Z c) = .inl (cls, fs)) (hp : pc + 3 = pc') (h : EC d j As (Wd X Z) (R6 v X)) (k : ∀ X' Z', (∀ c, c ≠ 66 → X' c = X c) → ER d M pc' L (.int v :: rest) (Wd X' Z') P) : ER d M pc L st (Wd X Z) P :=
  er_cI cls hf hi hq hc ho hp h (fun r hr => by obtain ⟨X', Z', rfl, h1⟩ := hr; exact k X' Z' h1)
end ERL
set_option maxRecDepth 100000 in
set_option maxHeartbeats 4000000 in
theorem l_rGoBack (d : Nat) (X Z : Nat → Nat → Int32) {T : Nat} (hI : RK T (X 64)) {k : Nat} (hk : k < jn (jm (X 64))) (hT9 : T < 1000000) (w : Int32) : EC (d + 8) 188 [.ref 63, .int (nI k), .int w] (Wd X Z) (fun r => if sIn w (nI 0) (nI 1) = true then (if sDone (jm (X 64)) k = true then (if w = 0 then R6 (sGoM (jm (X 64)) k) X r else RI (bI (sBlocked (jm (X 64)) k)) X r) else RI (sErr 3) (yErr X 3) r) else RI (sErr 1) (yErr X 1) r) := by
  cases hdn : sDone (jm (X 64)) k with
  | false =>
    refine er_enter (L := [(0, _), (1, _), (2, _)]) rfl rfl rfl ?_
    refine er_loc (pc' := 1) rfl rfl rfl ?_
    refine er_loc (pc' := 2) rfl rfl rfl ?_
    refine er_cIi (pc' := 5) (rest := []) 12 rfl rfl rfl rfl rfl rfl (l_rHas_t _ X _ hI hk) ?_
    refine er_if_eqF (pc' := 8) rfl (by decide +kernel) rfl ?_
    refine er_loc (pc' := 9) rfl rfl rfl ?_
    refine er_k (pc' := 10) (nI 0) rfl rfl rfl ?_
    refine er_k (pc' := 11) (nI 1) rfl rfl rfl ?_
    refine er_cSi (pc' := 14) (rest := []) rfl rfl rfl (l_in _ _ _ _ _) ?_
    refine er_if_neb (pc' := 17) rfl rfl (fun h14 => ?_) (fun h14 => ?_)
    · refine er_loc (pc' := 25) rfl rfl rfl ?_
      refine er_loc (pc' := 26) rfl rfl rfl ?_
      refine er_k (pc' := 27) (nI 4) rfl rfl rfl ?_
      refine er_cIi (pc' := 30) (rest := []) 12 rfl rfl rfl rfl rfl rfl (l_of4 _ X _ hI hk) ?_
      rw [hdn]
      refine er_if_neF (pc' := 33) rfl (by decide +kernel) rfl ?_
      refine er_loc (pc' := 34) rfl rfl rfl ?_
      refine er_ldc (pc' := 36) (-1000000003) rfl rfl rfl rfl rfl ?_
      refine er_cIz (pc' := 39) (rest := []) 12 rfl rfl rfl rfl rfl rfl (l_rError3 _ _ _) ?_
      intro Z9
      refine er_iret rfl rfl ?_
      rw [if_pos h14, if_neg (by decide)]
      exact RI_of rfl rfl
    · refine er_loc (pc' := 18) rfl rfl rfl ?_
      refine er_ldc (pc' := 20) (-1000000001) rfl rfl rfl rfl rfl ?_
      refine er_cIz (pc' := 23) (rest := []) 12 rfl rfl rfl rfl rfl rfl (l_rError1 _ _ _) ?_
      intro Z9
      refine er_iret rfl rfl ?_
      rw [if_neg (by rw [h14]; decide)]
      exact RI_of rfl rfl
  | true =>
    refine er_enter (L := [(0, _), (1, _), (2, _)]) rfl rfl rfl ?_
    refine er_loc (pc' := 1) rfl rfl rfl ?_
    refine er_loc (pc' := 2) rfl rfl rfl ?_
    refine er_cIi (pc' := 5) (rest := []) 12 rfl rfl rfl rfl rfl rfl (l_rHas_t _ X _ hI hk) ?_
    refine er_if_eqF (pc' := 8) rfl (by decide +kernel) rfl ?_
    refine er_loc (pc' := 9) rfl rfl rfl ?_
    refine er_k (pc' := 10) (nI 0) rfl rfl rfl ?_
    refine er_k (pc' := 11) (nI 1) rfl rfl rfl ?_
    refine er_cSi (pc' := 14) (rest := []) rfl rfl rfl (l_in _ _ _ _ _) ?_
    refine er_if_neb (pc' := 17) rfl rfl (fun h14 => ?_) (fun h14 => ?_)
    · refine er_loc (pc' := 25) rfl rfl rfl ?_
      refine er_loc (pc' := 26) rfl rfl rfl ?_
      refine er_k (pc' := 27) (nI 4) rfl rfl rfl ?_
      refine er_cIi (pc' := 30) (rest := []) 12 rfl rfl rfl rfl rfl rfl (l_of4 _ X _ hI hk) ?_
      rw [hdn]
      refine er_if_neT rfl (by decide +kernel) ?_
      refine er_loc (pc' := 41) rfl rfl rfl ?_
      refine er_if_ne (pc' := 44) rfl rfl (fun h41 => ?_) (fun h41 => ?_)
      · refine er_loc (pc' := 53) rfl rfl rfl ?_
        refine er_loc (pc' := 54) rfl rfl rfl ?_
        refine er_cIi (pc' := 57) (rest := []) 12 rfl rfl rfl rfl rfl rfl (l_rBlocked _ X _ hI hk) ?_
        refine er_if_eqb (pc' := 60) rfl rfl (fun h57 => ?_) (fun h57 => ?_)
        · refine er_k (pc' := 65) (nI 0) rfl rfl rfl ?_
          refine er_iret rfl rfl ?_
          rw [if_pos h14, if_pos rfl, if_neg h41]
          exact RI_of (bI_eq0 h57) rfl
        · refine er_k (pc' := 61) (nI 1) rfl rfl rfl ?_
          refine er_goto rfl ?_
          refine er_iret rfl rfl ?_
          rw [if_pos h14, if_pos rfl, if_neg h41]
          exact RI_of (bI_eq1 h57) rfl
      · refine er_loc (pc' := 45) rfl rfl rfl ?_
        refine er_loc (pc' := 46) rfl rfl rfl ?_
        refine er_cI6 (rest := []) 12 rfl rfl rfl rfl rfl rfl (l_rGoing _ X _ hI hk hT9) ?_
        intro X1 Z1 w1
        refine er_goto rfl ?_
        refine er_iret rfl rfl ?_
        rw [if_pos h14, if_pos rfl, if_pos h41]
        exact R6_of rfl w1
    · refine er_loc (pc' := 18) rfl rfl rfl ?_
      refine er_ldc (pc' := 20) (-1000000001) rfl rfl rfl rfl rfl ?_
      refine er_cIz (pc' := 23) (rest := []) 12 rfl rfl rfl rfl rfl rfl (l_rError1 _ _ _) ?_
      intro Z9
      refine er_iret rfl rfl ?_
      rw [if_neg (by rw [h14]; decide)]
      exact RI_of rfl rfl
def LkM (X : Nat → Nat → Int32) (f : Int32) : ab_R → Prop := fun r => if f < 0 then (∃ X' Z', r = (some (.int (sErr 2)), Wd X' Z') ∧ ∀ c, c ≠ 66 → c ≠ 67 → X' c = X c) else R6 f X r
theorem LkM.tr {X Y : Nat → Nat → Int32} {f : Int32} {r : ab_R} (h : ∀ c, c ≠ 66 → Y c = X c) (h2 : LkM Y f r) : LkM X f r := by
  unfold LkM at h2 ⊢
  split
  · rename_i hf
    rw [if_pos hf] at h2
    obtain ⟨X', Z', e, h3⟩ := h2
    exact ⟨X', Z', e, fun c h6 h7 => (h3 c h6 h7).trans (h c h6)⟩
  · rename_i hf
    rw [if_neg hf] at h2
    obtain ⟨X', Z', e, h3⟩ := h2
    exact ⟨X', Z', e, fun c h6 => (h3 c h6).trans (h c h6)⟩
theorem lk_no {J : Nat → Nat → Int32} {m i : Nat} {f l : Int32} (h : (sBit (J 0 7) (nI i) && !sBlocked J i) = false) : lkF J (m + 1) i f l = lkF J m (i + 1) f l := by
  show (if _ then _ else _) = _
  rw [h, if_neg (by decide)]
theorem lk_in {J : Nat → Nat → Int32} {m i : Nat} {f l : Int32} (h : (sBit (J 0 7) (nI i) && !sBlocked J i) = true) (h2 : f < 0 ∨ sGoM J i < l) : lkF J (m + 1) i f l = lkF J m (i + 1) (nI i) (sGoM J i) := by
  show (if _ then _ else _) = _
  rw [if_pos h, if_pos h2]
theorem lk_out {J : Nat → Nat → Int32} {m i : Nat} {f l : Int32} (h : (sBit (J 0 7) (nI i) && !sBlocked J i) = true) (h2 : ¬ (f < 0 ∨ sGoM J i < l)) : lkF J (m + 1) i f l = lkF J m (i + 1) f l := by
  show (if _ then _ else _) = _
  rw [if_pos h, if_neg h2]
set_option maxRecDepth 100000 in
set_option maxHeartbeats 4000000 in
theorem l_rLook_loop (d : Nat) {T : Nat} (hT9 : T < 1000000) : ∀ (m i : Nat) (X Z : Nat → Nat → Int32) (f l x : Int32), RK T (X 64) → i + m = jn (jm (X 64)) → x = nI i → ER (d + 7) tb_m194 6 [(0, .ref 63), (1, .int f), (2, .int l), (3, .int x)] [] (Wd X Z) (LkM X (lkF (jm (X 64)) m i f l))
  | 0, i, X, Z, f, l, x, hI, hi, hx => by
    have h8 := jn8 hI.ij
    have hi0 : i = jn (jm (X 64)) := by omega
    subst hx
    subst hi0
    refine er_loc (pc' := 7) rfl rfl rfl ?_
    refine er_loc (pc' := 8) rfl rfl rfl ?_
    refine er_gf (pc' := 11) (_) rfl rfl rfl rfl rfl ?_
    refine er_k (pc' := 12) (nI 2) rfl rfl rfl ?_
    refine er_ia (pc' := 13) (2) rfl rfl rfl rfl (by omega) rfl rfl ?_
    rw [hI.n]
    refine er_cm_geT rfl (nI_nlt (by omega) (by omega)) ?_
    refine er_loc (pc' := 88) rfl rfl rfl ?_
    refine er_if_ge (pc' := 91) rfl rfl (fun h88 => ?_) (fun h88 => ?_)
    · refine er_loc (pc' := 101) rfl rfl rfl ?_
      refine er_iret rfl rfl ?_
      show LkM X f _
      unfold LkM
      rw [if_neg h88]
      exact R6_of rfl (fun _ _ => rfl)
    · refine er_loc (pc' := 92) rfl rfl rfl ?_
      refine er_ldc (pc' := 94) (-1000000002) rfl rfl rfl rfl rfl ?_
      refine er_cIz (pc' := 97) (rest := []) 12 rfl rfl rfl rfl rfl rfl (l_rError2 _ _ _) ?_
      intro Z9
      refine er_goto rfl ?_
      refine er_iret rfl rfl ?_
      show LkM X f _
      unfold LkM
      rw [if_pos h88]
      exact ⟨_, _, rfl, fun c h6 h7 => ud_ne h7⟩
  | m + 1, i, X, Z, f, l, x, hI, hi, hx => by
    have h8 := jn8 hI.ij
    subst hx
    cases hwr : sBit (jm (X 64) 0 7) (nI i) with
    | false =>
      refine er_loc (pc' := 7) rfl rfl rfl ?_
      refine er_loc (pc' := 8) rfl rfl rfl ?_
      refine er_gf (pc' := 11) (_) rfl rfl rfl rfl rfl ?_
      refine er_k (pc' := 12) (nI 2) rfl rfl rfl ?_
      refine er_ia (pc' := 13) (2) rfl rfl rfl rfl (by omega) rfl rfl ?_
      rw [hI.n]
      refine er_cm_geF (pc' := 16) rfl (nI_lt (by omega) (by omega)) rfl ?_
      refine er_loc (pc' := 17) rfl rfl rfl ?_
      refine er_loc (pc' := 18) rfl rfl rfl ?_
      refine er_k (pc' := 19) (nI 5) rfl rfl rfl ?_
      refine er_cIi (pc' := 22) (rest := []) 12 rfl rfl rfl rfl rfl rfl (l_of5 _ X _ hI (by omega)) ?_
      rw [hwr]
      refine er_k (pc' := 23) (nI 1) rfl rfl rfl ?_
      refine er_cm_neT rfl (by decide +kernel) ?_
      refine er_loc (L' := [(3, .int (_ + nI 1)), (0, _), (1, _), (2, _)]) rfl rfl rfl ?_
      refine er_goto rfl ?_
      refine ER_loc [(0, _), (1, _), (2, _), (3, _)] rfl (List.forall_mem_cons.mpr ⟨rfl, List.forall_mem_cons.mpr ⟨rfl, List.forall_mem_cons.mpr ⟨rfl, List.forall_mem_cons.mpr ⟨rfl, fun _ h => absurd h List.not_mem_nil⟩⟩⟩⟩) rfl rfl ?_
      rw [lk_no (by rw [hwr]; rfl)]
      exact l_rLook_loop d hT9 m (i + 1) X Z _ _ _ hI (by omega) (nI_add i 1)
    | true =>
      refine er_loc (pc' := 7) rfl rfl rfl ?_
      refine er_loc (pc' := 8) rfl rfl rfl ?_
      refine er_gf (pc' := 11) (_) rfl rfl rfl rfl rfl ?_
      refine er_k (pc' := 12) (nI 2) rfl rfl rfl ?_
      refine er_ia (pc' := 13) (2) rfl rfl rfl rfl (by omega) rfl rfl ?_
      rw [hI.n]
      refine er_cm_geF (pc' := 16) rfl (nI_lt (by omega) (by omega)) rfl ?_
      refine er_loc (pc' := 17) rfl rfl rfl ?_
      refine er_loc (pc' := 18) rfl rfl rfl ?_
      refine er_k (pc' := 19) (nI 5) rfl rfl rfl ?_
      refine er_cIi (pc' := 22) (rest := []) 12 rfl rfl rfl rfl rfl rfl (l_of5 _ X _ hI (by omega)) ?_
      rw [hwr]
      refine er_k (pc' := 23) (nI 1) rfl rfl rfl ?_
      refine er_cm_neF (pc' := 26) rfl (by decide +kernel) rfl ?_
      refine er_loc (pc' := 27) rfl rfl rfl ?_
      refine er_loc (pc' := 28) rfl rfl rfl ?_
      refine er_cIi (pc' := 31) (rest := []) 12 rfl rfl rfl rfl rfl rfl (l_rBlocked _ X _ hI (k := i) (by omega)) ?_
      refine er_if_neb (pc' := 34) rfl rfl (fun h31 => ?_) (fun h31 => ?_)
      · refine er_loc (L' := [(3, .int (_ + nI 1)), (0, _), (1, _), (2, _)]) rfl rfl rfl ?_
        refine er_goto rfl ?_
        refine ER_loc [(0, _), (1, _), (2, _), (3, _)] rfl (List.forall_mem_cons.mpr ⟨rfl, List.forall_mem_cons.mpr ⟨rfl, List.forall_mem_cons.mpr ⟨rfl, List.forall_mem_cons.mpr ⟨rfl, fun _ h => absurd h List.not_mem_nil⟩⟩⟩⟩) rfl rfl ?_
        rw [lk_no (by rw [hwr, h31]; rfl)]
        exact l_rLook_loop d hT9 m (i + 1) X Z _ _ _ hI (by omega) (nI_add i 1)
      · refine er_loc (pc' := 35) rfl rfl rfl ?_
        refine er_loc (pc' := 36) rfl rfl rfl ?_
        refine er_cI6 (rest := []) 12 rfl rfl rfl rfl rfl rfl (l_rGoing _ X _ hI (k := i) (by omega) hT9) ?_
        intro X1 Z1 w1
        refine er_loc (pc' := 41) (L' := [(4, _), (0, _), (1, _), (2, _), (3, _)]) rfl rfl rfl ?_
        refine er_loc (pc' := 42) rfl rfl rfl ?_
        refine er_if_lt (pc' := 45) rfl rfl (fun h42 => ?_) (fun h42 => ?_)
        · refine er_k (pc' := 52) (nI 1) rfl rfl rfl ?_
          refine er_goto rfl ?_
          refine er_loc (pc' := 58) (L' := [(5, _), (4, _), (0, _), (1, _), (2, _), (3, _)]) rfl rfl rfl ?_
          refine er_loc (pc' := 60) rfl rfl rfl ?_
          refine er_if_eqF (pc' := 63) rfl (by decide +kernel) rfl ?_
          refine er_loc (pc' := 64) rfl rfl rfl ?_
          refine er_goto rfl ?_
          refine er_loc (pc' := 69) (L' := [(1, _), (5, _), (4, _), (0, _), (2, _), (3, _)]) rfl rfl rfl ?_
          refine er_loc (pc' := 71) rfl rfl rfl ?_
          refine er_if_eqF (pc' := 74) rfl (by decide +kernel) rfl ?_
          refine er_loc (pc' := 76) rfl rfl rfl ?_
          refine er_goto rfl ?_
          refine er_loc (pc' := 81) (L' := [(2, _), (1, _), (5, _), (4, _), (0, _), (3, _)]) rfl rfl rfl ?_
          refine er_loc (L' := [(3, .int (_ + nI 1)), (2, _), (1, _), (5, _), (4, _), (0, _)]) rfl rfl rfl ?_
          refine er_goto rfl ?_
          refine ER_loc [(0, _), (1, _), (2, _), (3, _)] rfl (List.forall_mem_cons.mpr ⟨rfl, List.forall_mem_cons.mpr ⟨rfl, List.forall_mem_cons.mpr ⟨rfl, List.forall_mem_cons.mpr ⟨rfl, fun _ h => absurd h List.not_mem_nil⟩⟩⟩⟩) rfl rfl ?_
          rw [lk_in (by rw [hwr, h31]; rfl) (Or.inl h42)]
          have hj1 : jm (X1 64) = jm (X 64) := by rw [w1 64 (by omega)]
          have ih := l_rLook_loop d hT9 m (i + 1) X1 Z1 (nI i) (sGoM (jm (X 64)) i) _ (by rw [w1 64 (by omega)]; exact hI) (by rw [hj1]; omega) (nI_add i 1)
          rw [hj1] at ih
          exact ih.mono (fun r hr => LkM.tr w1 hr)
        · refine er_loc (pc' := 47) rfl rfl rfl ?_
          refine er_loc (pc' := 48) rfl rfl rfl ?_
          refine er_cm_ge (pc' := 51) rfl rfl (fun h48 => ?_) (fun h48 => ?_)
          · refine er_k (pc' := 56) (nI 0) rfl rfl rfl ?_
            refine er_loc (pc' := 58) (L' := [(5, _), (4, _), (0, _), (1, _), (2, _), (3, _)]) rfl rfl rfl ?_
            refine er_loc (pc' := 60) rfl rfl rfl ?_
            refine er_if_eqT rfl (by decide +kernel) ?_
            refine er_loc (pc' := 68) rfl rfl rfl ?_
            refine er_loc (pc' := 69) (L' := [(1, _), (5, _), (4, _), (0, _), (2, _), (3, _)]) rfl rfl rfl ?_
            refine er_loc (pc' := 71) rfl rfl rfl ?_
            refine er_if_eqT rfl (by decide +kernel) ?_
            refine er_loc (pc' := 80) rfl rfl rfl ?_
            refine er_loc (pc' := 81) (L' := [(2, _), (1, _), (5, _), (4, _), (0, _), (3, _)]) rfl rfl rfl ?_
            refine er_loc (L' := [(3, .int (_ + nI 1)), (2, _), (1, _), (5, _), (4, _), (0, _)]) rfl rfl rfl ?_
            refine er_goto rfl ?_
            refine ER_loc [(0, _), (1, _), (2, _), (3, _)] rfl (List.forall_mem_cons.mpr ⟨rfl, List.forall_mem_cons.mpr ⟨rfl, List.forall_mem_cons.mpr ⟨rfl, List.forall_mem_cons.mpr ⟨rfl, fun _ h => absurd h List.not_mem_nil⟩⟩⟩⟩) rfl rfl ?_
            rw [lk_out (by rw [hwr, h31]; rfl) (fun hh => by rcases hh with hh | hh; exact h42 hh; exact h48 hh)]
            have hj1 : jm (X1 64) = jm (X 64) := by rw [w1 64 (by omega)]
            have ih := l_rLook_loop d hT9 m (i + 1) X1 Z1 f l _ (by rw [w1 64 (by omega)]; exact hI) (by rw [hj1]; omega) (nI_add i 1)
            rw [hj1] at ih
            exact ih.mono (fun r hr => LkM.tr w1 hr)
          · refine er_k (pc' := 52) (nI 1) rfl rfl rfl ?_
            refine er_goto rfl ?_
            refine er_loc (pc' := 58) (L' := [(5, _), (4, _), (0, _), (1, _), (2, _), (3, _)]) rfl rfl rfl ?_
            refine er_loc (pc' := 60) rfl rfl rfl ?_
            refine er_if_eqF (pc' := 63) rfl (by decide +kernel) rfl ?_
            refine er_loc (pc' := 64) rfl rfl rfl ?_
            refine er_goto rfl ?_
            refine er_loc (pc' := 69) (L' := [(1, _), (5, _), (4, _), (0, _), (2, _), (3, _)]) rfl rfl rfl ?_
            refine er_loc (pc' := 71) rfl rfl rfl ?_
            refine er_if_eqF (pc' := 74) rfl (by decide +kernel) rfl ?_
            refine er_loc (pc' := 76) rfl rfl rfl ?_
            refine er_goto rfl ?_
            refine er_loc (pc' := 81) (L' := [(2, _), (1, _), (5, _), (4, _), (0, _), (3, _)]) rfl rfl rfl ?_
            refine er_loc (L' := [(3, .int (_ + nI 1)), (2, _), (1, _), (5, _), (4, _), (0, _)]) rfl rfl rfl ?_
            refine er_goto rfl ?_
            refine ER_loc [(0, _), (1, _), (2, _), (3, _)] rfl (List.forall_mem_cons.mpr ⟨rfl, List.forall_mem_cons.mpr ⟨rfl, List.forall_mem_cons.mpr ⟨rfl, List.forall_mem_cons.mpr ⟨rfl, fun _ h => absurd h List.not_mem_nil⟩⟩⟩⟩) rfl rfl ?_
            rw [lk_in (by rw [hwr, h31]; rfl) (Or.inr h48)]
            have hj1 : jm (X1 64) = jm (X 64) := by rw [w1 64 (by omega)]
            have ih := l_rLook_loop d hT9 m (i + 1) X1 Z1 (nI i) (sGoM (jm (X 64)) i) _ (by rw [w1 64 (by omega)]; exact hI) (by rw [hj1]; omega) (nI_add i 1)
            rw [hj1] at ih
            exact ih.mono (fun r hr => LkM.tr w1 hr)
set_option maxRecDepth 100000 in
set_option maxHeartbeats 4000000 in
theorem l_rLookAt (d : Nat) (X Z : Nat → Nat → Int32) {T : Nat} (hI : RK T (X 64)) (hT9 : T < 1000000) : EC (d + 8) 194 [.ref 63] (Wd X Z) (LkM X (lkF (jm (X 64)) (jn (jm (X 64))) 0 (-1) (nI 0))) := by
  refine er_enter (L := [(0, _)]) rfl rfl rfl ?_
  refine er_k (pc' := 1) (-1) rfl rfl rfl ?_
  refine er_loc (pc' := 2) (L' := [(1, _), (0, _)]) rfl rfl rfl ?_
  refine er_k (pc' := 3) (nI 0) rfl rfl rfl ?_
  refine er_loc (pc' := 4) (L' := [(2, _), (1, _), (0, _)]) rfl rfl rfl ?_
  refine er_k (pc' := 5) (nI 0) rfl rfl rfl ?_
  refine er_loc (pc' := 6) (L' := [(3, _), (2, _), (1, _), (0, _)]) rfl rfl rfl ?_
  refine ER_loc [(0, _), (1, _), (2, _), (3, _)] rfl (List.forall_mem_cons.mpr ⟨rfl, List.forall_mem_cons.mpr ⟨rfl, List.forall_mem_cons.mpr ⟨rfl, List.forall_mem_cons.mpr ⟨rfl, fun _ h => absurd h List.not_mem_nil⟩⟩⟩⟩) rfl rfl ?_
  exact l_rLook_loop d hT9 (jn (jm (X 64))) 0 X Z _ _ _ hI (by omega) rfl
set_option maxRecDepth 100000 in
set_option maxHeartbeats 4000000 in
theorem l_rSum_loop (d : Nat) (X Z : Nat → Nat → Int32) {T : Nat} (hI : RK T (X 64)) (q : Int32) : ∀ (m i : Nat) (x : Int32) (v : Int32), i + m = jn (jm (X 64)) → x = nI i → v = sSum (jm (X 64)) q i → ER (d + 1) tb_m193 4 [(0, .ref 63), (1, .int q), (2, .int v), (3, .int x)] [] (Wd X Z) (PI (sSum (jm (X 64)) q (jn (jm (X 64)))) (Wd X Z))
  | 0, i, x, v, hi, h0, h1 => by
    have hi0 : i = jn (jm (X 64)) := by omega
    subst h0
    subst h1
    have h8 := jn8 hI.ij
    subst hi0
    refine er_loc (pc' := 5) rfl rfl rfl ?_
    refine er_loc (pc' := 6) rfl rfl rfl ?_
    refine er_gf (pc' := 9) (_) rfl rfl rfl rfl rfl ?_
    refine er_k (pc' := 10) (nI 2) rfl rfl rfl ?_
    refine er_ia (pc' := 11) (2) rfl rfl rfl rfl (by omega) rfl rfl ?_
    rw [hI.n]
    refine er_cm_geT rfl (nI_nlt (by omega) (by omega)) ?_
    refine er_loc (pc' := 43) rfl rfl rfl ?_
    refine er_iret rfl rfl ?_
    exact PI_of rfl
  | m + 1, i, x, v, hi, h0, h1 => by
    subst h0
    subst h1
    have h8 := jn8 hI.ij
    refine er_loc (pc' := 5) rfl rfl rfl ?_
    refine er_loc (pc' := 6) rfl rfl rfl ?_
    refine er_gf (pc' := 9) (_) rfl rfl rfl rfl rfl ?_
    refine er_k (pc' := 10) (nI 2) rfl rfl rfl ?_
    refine er_ia (pc' := 11) (2) rfl rfl rfl rfl (by omega) rfl rfl ?_
    rw [hI.n]
    refine er_cm_geF (pc' := 14) rfl (nI_lt (by omega) (by omega)) rfl ?_
    refine er_loc (pc' := 15) rfl rfl rfl ?_
    refine er_loc (pc' := 16) rfl rfl rfl ?_
    refine er_loc (pc' := 17) rfl rfl rfl ?_
    refine er_ishr (pc' := 18) rfl rfl ?_
    refine er_k (pc' := 19) (nI 1) rfl rfl rfl ?_
    refine er_iand (pc' := 20) rfl rfl ?_
    refine er_k (pc' := 21) (nI 1) rfl rfl rfl ?_
    refine er_cm_ne (pc' := 24) rfl rfl (fun h21 => ?_) (fun h21 => ?_)
    · refine er_k (pc' := 34) (nI 0) rfl rfl rfl ?_
      refine er_iadd rfl rfl ?_
      refine er_loc (L' := [(2, _), (0, _), (1, _), (3, _)]) rfl rfl rfl ?_
      refine er_loc (L' := [(3, .int (_ + nI 1)), (2, _), (0, _), (1, _)]) rfl rfl rfl ?_
      refine er_goto rfl ?_
      refine ER_loc [(0, _), (1, _), (2, _), (3, _)] rfl (List.forall_mem_cons.mpr ⟨rfl, List.forall_mem_cons.mpr ⟨rfl, List.forall_mem_cons.mpr ⟨rfl, List.forall_mem_cons.mpr ⟨rfl, fun _ h => absurd h List.not_mem_nil⟩⟩⟩⟩) rfl rfl ?_
      refine l_rSum_loop d X Z hI q m (i + 1) _ _ (by omega) (nI_add i 1) ?_
      show _ = _ + (if _ then _ else _)
      rw [if_neg (fun hh => h21 ((sar_bt (by omega)).mpr (by rw [sBit_bt (by omega)] at hh; exact hh)))]
    · refine er_loc (pc' := 25) rfl rfl rfl ?_
      refine er_loc (pc' := 26) rfl rfl rfl ?_
      refine er_k (pc' := 27) (nI 2) rfl rfl rfl ?_
      refine er_cIi (pc' := 30) (rest := [_]) 12 rfl rfl rfl rfl rfl rfl (l_of2 _ X _ (by omega)) ?_
      refine er_goto rfl ?_
      refine er_iadd rfl rfl ?_
      refine er_loc (L' := [(2, _), (0, _), (1, _), (3, _)]) rfl rfl rfl ?_
      refine er_loc (L' := [(3, .int (_ + nI 1)), (2, _), (0, _), (1, _)]) rfl rfl rfl ?_
      refine er_goto rfl ?_
      refine ER_loc [(0, _), (1, _), (2, _), (3, _)] rfl (List.forall_mem_cons.mpr ⟨rfl, List.forall_mem_cons.mpr ⟨rfl, List.forall_mem_cons.mpr ⟨rfl, List.forall_mem_cons.mpr ⟨rfl, fun _ h => absurd h List.not_mem_nil⟩⟩⟩⟩) rfl rfl ?_
      refine l_rSum_loop d X Z hI q m (i + 1) _ _ (by omega) (nI_add i 1) ?_
      show _ = _ + (if _ then _ else _)
      rw [if_pos (by rw [sBit_bt (by omega)]; exact (sar_bt (by omega)).mp h21)]
set_option maxRecDepth 100000 in
set_option maxHeartbeats 4000000 in
theorem l_rScrewsOf (d : Nat) (X Z : Nat → Nat → Int32) {T : Nat} (hI : RK T (X 64)) (q : Int32) : EC (d + 2) 193 [.ref 63, .int q] (Wd X Z) (PI (sSum (jm (X 64)) q (jn (jm (X 64)))) (Wd X Z)) := by
  refine er_enter (L := [(0, _), (1, _)]) rfl rfl rfl ?_
  refine er_k (pc' := 1) (nI 0) rfl rfl rfl ?_
  refine er_loc (pc' := 2) (L' := [(2, _), (0, _), (1, _)]) rfl rfl rfl ?_
  refine er_k (pc' := 3) (nI 0) rfl rfl rfl ?_
  refine er_loc (pc' := 4) (L' := [(3, _), (2, _), (0, _), (1, _)]) rfl rfl rfl ?_
  refine ER_loc [(0, _), (1, _), (2, _), (3, _)] rfl (List.forall_mem_cons.mpr ⟨rfl, List.forall_mem_cons.mpr ⟨rfl, List.forall_mem_cons.mpr ⟨rfl, List.forall_mem_cons.mpr ⟨rfl, fun _ h => absurd h List.not_mem_nil⟩⟩⟩⟩) rfl rfl ?_
  exact l_rSum_loop d X Z hI q (jn (jm (X 64))) 0 _ _ (by omega) rfl rfl
def WhM (X : Nat → Nat → Int32) (w : Int32) (q : Int32 × Int32) : ab_R → Prop := fun r => if w = 0 then RI q.1 X r else if q.2 < 0 then RI (sErr 2) (yErr X 2) r else RI q.2 X r
theorem wh_y {J : Nat → Nat → Int32} {q f l : Int32} {s : Nat} (h : (nI s &&& (J 0 6 ^^^ (-1))) = 0 ∧ sSum J (nI s) (jn J) = q) : wh J q (s + 1) f l = wh J q s (f + nI 1) (nI s) := if_pos h
theorem wh_n {J : Nat → Nat → Int32} {q f l : Int32} {s : Nat} (h : ¬ ((nI s &&& (J 0 6 ^^^ (-1))) = 0 ∧ sSum J (nI s) (jn J) = q)) : wh J q (s + 1) f l = wh J q s f l := if_neg h
theorem sub_le {s d : Nat} (hs : s < 256) (h : (nI s &&& (nI d ^^^ (-1))) = 0) : s ≤ d := by
  have h1 := sub_iff.mp h
  have e : s &&& d = s := by
    apply Nat.eq_of_testBit_eq
    intro i
    rw [Nat.testBit_and]
    cases hb : s.testBit i with
    | false => rfl
    | true =>
      have hi : i < 32 := by
        rcases Nat.lt_or_ge i 32 with h2 | h2
        · exact h2
        · have h3 : s < 2 ^ i := Nat.lt_of_lt_of_le (show s < 2 ^ 32 by omega) (Nat.pow_le_pow_right (by omega) h2)
          rw [Nat.testBit_lt_two_pow h3] at hb
          cases hb
      have h4 := h1 i (by rw [bt_nI, decide_eq_true hi, hb]; rfl)
      rw [bt_nI, decide_eq_true hi, Bool.true_and] at h4
      rw [h4]; rfl
  have := @Nat.and_le_right s d
  omega
theorem wh_skip {J : Nat → Nat → Int32} {q f l : Int32} {d : Nat} (hd : J 0 6 = nI d) : ∀ t, d + 1 + t ≤ 256 → wh J q (d + 1 + t) f l = wh J q (d + 1) f l
  | 0, _ => rfl
  | t + 1, h => by
    rw [show d + 1 + (t + 1) = (d + 1 + t) + 1 by omega, wh_n (fun hh => by rw [hd] at hh; have := sub_le (by omega) hh.1; omega)]
    exact wh_skip hd t (by omega)
set_option maxRecDepth 100000 in
set_option maxHeartbeats 4000000 in
theorem l_rWhose_loop (d : Nat) (X Z : Nat → Nat → Int32) {T : Nat} (hI : RK T (X 64)) (q w : Int32) : ∀ (m : Nat) (f l x : Int32), x = nI m - nI 1 → m ≤ 256 → ER (d + 2) tb_m192 40 [(0, .ref 63), (1, .int q), (2, .int w), (3, .int (jm (X 64) 0 6)), (4, .int f), (5, .int l), (6, .int x)] [] (Wd X Z) (WhM X w (wh (jm (X 64)) q m f l))
  | 0, f, l, x, hx, hm => by
    subst hx
    refine er_loc (pc' := 42) rfl rfl rfl ?_
    refine er_if_ltT rfl (nIs_lt (s := 0)) ?_
    refine er_loc (pc' := 107) rfl rfl rfl ?_
    refine er_if_ne (pc' := 110) rfl rfl (fun h107 => ?_) (fun h107 => ?_)
    · refine er_loc (pc' := 117) rfl rfl rfl ?_
      refine er_if_ge (pc' := 120) rfl rfl (fun h117 => ?_) (fun h117 => ?_)
      · refine er_loc rfl rfl rfl ?_
        refine er_iret rfl rfl ?_
        show WhM X w (f, l) _
        unfold WhM
        rw [if_neg h107, if_neg h117]
        exact RI_of rfl rfl
      · refine er_loc (pc' := 121) rfl rfl rfl ?_
        refine er_ldc (pc' := 123) (-1000000002) rfl rfl rfl rfl rfl ?_
        refine er_cIz (pc' := 126) (rest := []) 12 rfl rfl rfl rfl rfl rfl (l_rError2 _ _ _) ?_
        intro Z9
        refine er_goto rfl ?_
        refine er_iret rfl rfl ?_
        show WhM X w (f, l) _
        unfold WhM
        rw [if_neg h107, if_pos h117]
        exact RI_of rfl rfl
    · refine er_loc rfl rfl rfl ?_
      refine er_goto rfl ?_
      refine er_iret rfl rfl ?_
      show WhM X w (f, l) _
      unfold WhM
      rw [if_pos h107]
      exact RI_of rfl rfl
  | m + 1, f, l, x, hx, hm => by
    rw [nI_s1] at hx
    subst hx
    refine er_loc (pc' := 42) rfl rfl rfl ?_
    refine er_if_ltF (pc' := 45) rfl (nI_pos (by omega)) rfl ?_
    refine er_loc (pc' := 47) rfl rfl rfl ?_
    refine er_loc (pc' := 48) rfl rfl rfl ?_
    refine er_k (pc' := 49) (-1) rfl rfl rfl ?_
    refine er_ixor (pc' := 50) rfl rfl ?_
    refine er_iand (pc' := 51) rfl rfl ?_
    refine er_if_ne (pc' := 54) rfl rfl (fun h51 => ?_) (fun h51 => ?_)
    · refine er_k (pc' := 69) (nI 0) rfl rfl rfl ?_
      refine er_loc (pc' := 71) (L' := [(7, _), (0, _), (1, _), (2, _), (3, _), (4, _), (5, _), (6, _)]) rfl rfl rfl ?_
      refine er_loc (pc' := 73) rfl rfl rfl ?_
      refine er_loc (pc' := 75) rfl rfl rfl ?_
      refine er_if_eqT rfl (by decide +kernel) ?_
      refine er_k (pc' := 83) (nI 0) rfl rfl rfl ?_
      refine er_iadd (pc' := 84) rfl rfl ?_
      refine er_loc (pc' := 86) (L' := [(4, _), (7, _), (0, _), (1, _), (2, _), (3, _), (5, _), (6, _)]) rfl rfl rfl ?_
      refine er_loc (pc' := 88) rfl rfl rfl ?_
      refine er_if_eqT rfl (by decide +kernel) ?_
      refine er_loc (pc' := 98) rfl rfl rfl ?_
      refine er_loc (pc' := 100) (L' := [(5, _), (4, _), (7, _), (0, _), (1, _), (2, _), (3, _), (6, _)]) rfl rfl rfl ?_
      refine er_loc (L' := [(6, .int (_ + (-1))), (5, _), (4, _), (7, _), (0, _), (1, _), (2, _), (3, _)]) rfl rfl rfl ?_
      refine er_goto rfl ?_
      refine ER_loc [(0, _), (1, _), (2, _), (3, _), (4, _), (5, _), (6, _)] rfl (List.forall_mem_cons.mpr ⟨rfl, List.forall_mem_cons.mpr ⟨rfl, List.forall_mem_cons.mpr ⟨rfl, List.forall_mem_cons.mpr ⟨rfl, List.forall_mem_cons.mpr ⟨rfl, List.forall_mem_cons.mpr ⟨rfl, List.forall_mem_cons.mpr ⟨rfl, fun _ h => absurd h List.not_mem_nil⟩⟩⟩⟩⟩⟩⟩) rfl rfl ?_
      rw [wh_n (fun hh => h51 hh.1)]
      rw [show f + nI 0 = f from Int32.add_zero f]
      exact l_rWhose_loop d X Z hI q w m _ _ _ (nI_addm1s m) (by omega)
    · refine er_loc (pc' := 55) rfl rfl rfl ?_
      refine er_loc (pc' := 57) rfl rfl rfl ?_
      refine er_cIi (pc' := 60) (rest := []) 12 rfl rfl rfl rfl rfl rfl (l_rScrewsOf _ X _ hI _) ?_
      refine er_loc (pc' := 61) rfl rfl rfl ?_
      refine er_cm_ne (pc' := 64) rfl rfl (fun h61 => ?_) (fun h61 => ?_)
      · refine er_k (pc' := 69) (nI 0) rfl rfl rfl ?_
        refine er_loc (pc' := 71) (L' := [(7, _), (0, _), (1, _), (2, _), (3, _), (4, _), (5, _), (6, _)]) rfl rfl rfl ?_
        refine er_loc (pc' := 73) rfl rfl rfl ?_
        refine er_loc (pc' := 75) rfl rfl rfl ?_
        refine er_if_eqT rfl (by decide +kernel) ?_
        refine er_k (pc' := 83) (nI 0) rfl rfl rfl ?_
        refine er_iadd (pc' := 84) rfl rfl ?_
        refine er_loc (pc' := 86) (L' := [(4, _), (7, _), (0, _), (1, _), (2, _), (3, _), (5, _), (6, _)]) rfl rfl rfl ?_
        refine er_loc (pc' := 88) rfl rfl rfl ?_
        refine er_if_eqT rfl (by decide +kernel) ?_
        refine er_loc (pc' := 98) rfl rfl rfl ?_
        refine er_loc (pc' := 100) (L' := [(5, _), (4, _), (7, _), (0, _), (1, _), (2, _), (3, _), (6, _)]) rfl rfl rfl ?_
        refine er_loc (L' := [(6, .int (_ + (-1))), (5, _), (4, _), (7, _), (0, _), (1, _), (2, _), (3, _)]) rfl rfl rfl ?_
        refine er_goto rfl ?_
        refine ER_loc [(0, _), (1, _), (2, _), (3, _), (4, _), (5, _), (6, _)] rfl (List.forall_mem_cons.mpr ⟨rfl, List.forall_mem_cons.mpr ⟨rfl, List.forall_mem_cons.mpr ⟨rfl, List.forall_mem_cons.mpr ⟨rfl, List.forall_mem_cons.mpr ⟨rfl, List.forall_mem_cons.mpr ⟨rfl, List.forall_mem_cons.mpr ⟨rfl, fun _ h => absurd h List.not_mem_nil⟩⟩⟩⟩⟩⟩⟩) rfl rfl ?_
        rw [wh_n (fun hh => h61 hh.2)]
        rw [show f + nI 0 = f from Int32.add_zero f]
        exact l_rWhose_loop d X Z hI q w m _ _ _ (nI_addm1s m) (by omega)
      · refine er_k (pc' := 65) (nI 1) rfl rfl rfl ?_
        refine er_goto rfl ?_
        refine er_loc (pc' := 71) (L' := [(7, _), (0, _), (1, _), (2, _), (3, _), (4, _), (5, _), (6, _)]) rfl rfl rfl ?_
        refine er_loc (pc' := 73) rfl rfl rfl ?_
        refine er_loc (pc' := 75) rfl rfl rfl ?_
        refine er_if_eqF (pc' := 78) rfl (by decide +kernel) rfl ?_
        refine er_k (pc' := 79) (nI 1) rfl rfl rfl ?_
        refine er_goto rfl ?_
        refine er_iadd (pc' := 84) rfl rfl ?_
        refine er_loc (pc' := 86) (L' := [(4, _), (7, _), (0, _), (1, _), (2, _), (3, _), (5, _), (6, _)]) rfl rfl rfl ?_
        refine er_loc (pc' := 88) rfl rfl rfl ?_
        refine er_if_eqF (pc' := 91) rfl (by decide +kernel) rfl ?_
        refine er_loc (pc' := 93) rfl rfl rfl ?_
        refine er_goto rfl ?_
        refine er_loc (pc' := 100) (L' := [(5, _), (4, _), (7, _), (0, _), (1, _), (2, _), (3, _), (6, _)]) rfl rfl rfl ?_
        refine er_loc (L' := [(6, .int (_ + (-1))), (5, _), (4, _), (7, _), (0, _), (1, _), (2, _), (3, _)]) rfl rfl rfl ?_
        refine er_goto rfl ?_
        refine ER_loc [(0, _), (1, _), (2, _), (3, _), (4, _), (5, _), (6, _)] rfl (List.forall_mem_cons.mpr ⟨rfl, List.forall_mem_cons.mpr ⟨rfl, List.forall_mem_cons.mpr ⟨rfl, List.forall_mem_cons.mpr ⟨rfl, List.forall_mem_cons.mpr ⟨rfl, List.forall_mem_cons.mpr ⟨rfl, List.forall_mem_cons.mpr ⟨rfl, fun _ h => absurd h List.not_mem_nil⟩⟩⟩⟩⟩⟩⟩) rfl rfl ?_
        rw [wh_y ⟨h51, h61⟩]
        exact l_rWhose_loop d X Z hI q w m _ _ _ (nI_addm1s m) (by omega)
set_option maxRecDepth 100000 in
set_option maxHeartbeats 4000000 in
theorem l_rWhose (d : Nat) (X Z : Nat → Nat → Int32) {T : Nat} (hI : RK T (X 64)) (q w : Int32) : EC (d + 3) 192 [.ref 63, .int q, .int w] (Wd X Z) (fun r => if (sIn q (nI 0) (nI 99) && sIn w (nI 0) (nI 1)) = true then WhM X w (sWh (jm (X 64)) q) r else RI (sErr 1) (yErr X 1) r) := by
  refine er_enter (L := [(0, _), (1, _), (2, _)]) rfl rfl rfl ?_
  refine er_loc (pc' := 1) rfl rfl rfl ?_
  refine er_k (pc' := 2) (nI 0) rfl rfl rfl ?_
  refine er_k (pc' := 4) (nI 99) rfl rfl rfl ?_
  refine er_cSi (pc' := 7) (rest := []) rfl rfl rfl (l_in _ _ _ _ _) ?_
  refine er_if_eqb (pc' := 10) rfl rfl (fun h7 => ?_) (fun h7 => ?_)
  · refine er_loc (pc' := 20) rfl rfl rfl ?_
    refine er_ldc (pc' := 22) (-1000000001) rfl rfl rfl rfl rfl ?_
    refine er_cIz (pc' := 25) (rest := []) 12 rfl rfl rfl rfl rfl rfl (l_rError1 _ _ _) ?_
    intro Z9
    refine er_iret rfl rfl ?_
    rw [if_neg (by rw [h7]; simp)]
    exact RI_of rfl rfl
  · refine er_loc (pc' := 11) rfl rfl rfl ?_
    refine er_k (pc' := 12) (nI 0) rfl rfl rfl ?_
    refine er_k (pc' := 13) (nI 1) rfl rfl rfl ?_
    refine er_cSi (pc' := 16) (rest := []) rfl rfl rfl (l_in _ _ _ _ _) ?_
    refine er_if_neb (pc' := 19) rfl rfl (fun h16 => ?_) (fun h16 => ?_)
    · refine er_loc (pc' := 27) rfl rfl rfl ?_
      refine er_cIi (pc' := 30) (rest := []) 12 rfl rfl rfl rfl rfl rfl (l_rDone _ X _ (n := jn (jm (X 64))) hI.n hI.n8) ?_
      rw [show rB (X 64) 11 (jn (jm (X 64))) = jm (X 64) 0 6 from rfl]
      refine er_loc (pc' := 31) (L' := [(3, _), (0, _), (1, _), (2, _)]) rfl rfl rfl ?_
      refine er_k (pc' := 32) (nI 0) rfl rfl rfl ?_
      refine er_loc (pc' := 34) (L' := [(4, _), (3, _), (0, _), (1, _), (2, _)]) rfl rfl rfl ?_
      refine er_k (pc' := 35) (-1) rfl rfl rfl ?_
      refine er_loc (pc' := 37) (L' := [(5, _), (4, _), (3, _), (0, _), (1, _), (2, _)]) rfl rfl rfl ?_
      refine er_loc (pc' := 38) rfl rfl rfl ?_
      refine er_loc (pc' := 40) (L' := [(6, _), (5, _), (4, _), (3, _), (0, _), (1, _), (2, _)]) rfl rfl rfl ?_
      refine ER_loc [(0, _), (1, _), (2, _), (3, _), (4, _), (5, _), (6, _)] rfl (List.forall_mem_cons.mpr ⟨rfl, List.forall_mem_cons.mpr ⟨rfl, List.forall_mem_cons.mpr ⟨rfl, List.forall_mem_cons.mpr ⟨rfl, List.forall_mem_cons.mpr ⟨rfl, List.forall_mem_cons.mpr ⟨rfl, List.forall_mem_cons.mpr ⟨rfl, fun _ h => absurd h List.not_mem_nil⟩⟩⟩⟩⟩⟩⟩) rfl rfl ?_
      have h8 := jn8 hI.ij
      obtain ⟨e, he, hd⟩ := set_n h8 hI.ij.done
      have hp := pow_le h8
      have h2 : wh (jm (X 64)) q (2 ^ jn (jm (X 64))) (nI 0) (-1) = wh (jm (X 64)) q (e + 1) (nI 0) (-1) := by
        have := wh_skip (q := q) (f := nI 0) (l := -1) hd (2 ^ jn (jm (X 64)) - (e + 1)) (by omega)
        rwa [show e + 1 + (2 ^ jn (jm (X 64)) - (e + 1)) = 2 ^ jn (jm (X 64)) by omega] at this
      refine ER.mono (l_rWhose_loop d X Z hI q w (e + 1) (nI 0) (-1) _ (by rw [nI_s1, hd]) (by omega)) (fun r hr => ?_)
      rw [if_pos (by rw [h7, h16]; rfl)]
      unfold sWh
      rw [h2]
      exact hr
    · refine er_loc (pc' := 20) rfl rfl rfl ?_
      refine er_ldc (pc' := 22) (-1000000001) rfl rfl rfl rfl rfl ?_
      refine er_cIz (pc' := 25) (rest := []) 12 rfl rfl rfl rfl rfl rfl (l_rError1 _ _ _) ?_
      intro Z9
      refine er_iret rfl rfl ?_
      rw [if_neg (by rw [h16]; simp)]
      exact RI_of rfl rfl
end
section
/-! THE REFERENCE, its face: the best order, one by one -/
theorem cpf_at {f g : Nat → Int32} {sp dp n i : Nat} : cpf f g sp dp n i = if dp ≤ i ∧ i < dp + n then f (i - dp + sp) else g i := rfl
theorem cpf_sD {f g : Nat → Int32} {q i : Nat} : u1 (cpf f g 0 q i) (q + i) (f i) = cpf f g 0 q (i + 1) := by
  funext j
  rw [u1_at, cpf_at, cpf_at]
  by_cases h : j = q + i
  · subst h
    rw [if_pos rfl, if_pos ⟨by omega, by omega⟩]
    congr 1
    omega
  · rw [if_neg h]
    by_cases h2 : q ≤ j ∧ j < q + i
    · rw [if_pos h2, if_pos ⟨h2.1, by omega⟩]
    · rw [if_neg h2, if_neg (fun hh => h2 ⟨hh.1, by omega⟩)]
theorem cpf_sS {f g : Nat → Int32} {q i : Nat} : u1 (cpf f g q 0 i) i (f (q + i)) = cpf f g q 0 (i + 1) := by
  funext j
  rw [u1_at, cpf_at, cpf_at]
  by_cases h : j = i
  · subst h
    rw [if_pos rfl, if_pos ⟨by omega, by omega⟩]
    congr 1
    omega
  · rw [if_neg h]
    by_cases h2 : 0 ≤ j ∧ j < 0 + i
    · rw [if_pos h2, if_pos ⟨h2.1, by omega⟩]
    · rw [if_neg h2, if_neg (fun hh => h2 ⟨hh.1, by omega⟩)]
theorem cpf_z {f g : Nat → Int32} {sp dp : Nat} : cpf f g sp dp 0 = g := by
  funext j
  exact if_neg (by omega)
set_option maxRecDepth 100000 in
set_option maxHeartbeats 4000000 in
theorem l_rLa_loop (d : Nat) (X Z : Nat → Nat → Int32) {p : Nat} (hp : p ≤ 4) : ∀ (m i : Nat) (x : Int32), i + m = 125 → x = nI i → ER (d + 1) tb_m184 2 [(0, .ref 63), (1, .int (nI p)), (2, .int x)] [] (Wd (uc X 74 (cpf (X 64) (X 74) 0 (125 * p) i)) Z) (RV (uc X 74 (cpf (X 64) (X 74) 0 (125 * p) 125)))
  | 0, i, x, hi, h0 => by
    have hi0 : i = 125 := by omega
    subst h0
    subst hi0
    refine er_loc (pc' := 3) rfl rfl rfl ?_
    refine er_k (pc' := 5) (nI 125) rfl rfl rfl ?_
    refine er_cm_geT rfl (nI_nlt (by omega) (by omega)) ?_
    refine er_vret rfl rfl ?_
    exact RV_of rfl
  | m + 1, i, x, hi, h0 => by
    subst h0
    refine er_loc (pc' := 3) rfl rfl rfl ?_
    refine er_k (pc' := 5) (nI 125) rfl rfl rfl ?_
    refine er_cm_geF (pc' := 8) rfl (nI_lt (by omega) (by omega)) rfl ?_
    refine er_loc (pc' := 9) rfl rfl rfl ?_
    refine er_gf (pc' := 12) (_) rfl rfl rfl rfl rfl ?_
    refine er_k (pc' := 14) (nI 125) rfl rfl rfl ?_
    refine er_loc (pc' := 15) rfl rfl rfl ?_
    refine er_imul (pc' := 16) rfl rfl ?_
    refine er_loc (pc' := 17) rfl rfl rfl ?_
    refine er_iadd (pc' := 18) rfl rfl ?_
    refine er_loc (pc' := 19) rfl rfl rfl ?_
    refine er_gf (pc' := 22) (_) rfl rfl rfl rfl rfl ?_
    refine er_loc (pc' := 23) rfl rfl rfl ?_
    refine er_ia (pc' := 24) (i) rfl rfl rfl rfl (by omega) rfl rfl ?_
    refine er_isX (pc' := 25) (((125 * p) + i)) rfl rfl (fun _ => rfl) (by simp only [nI_add, nI_mul]) (by omega) rfl rfl ?_
    refine er_loc (L' := [(2, .int (_ + nI 1)), (0, _), (1, _)]) rfl rfl rfl ?_
    refine er_goto rfl ?_
    refine ER_loc [(0, _), (1, _), (2, _)] rfl (List.forall_mem_cons.mpr ⟨rfl, List.forall_mem_cons.mpr ⟨rfl, List.forall_mem_cons.mpr ⟨rfl, fun _ h => absurd h List.not_mem_nil⟩⟩⟩) rfl rfl ?_
    have ih := l_rLa_loop d X Z hp m (i + 1) _ (by omega) (nI_add i 1)
    rw [uc_ne (show 64 ≠ 74 by omega)]
    rw [show ud (uc X 74 (cpf (X 64) (X 74) 0 (125 * p) i)) 74 (125 * p + i) (X 64 i) = uc X 74 (cpf (X 64) (X 74) 0 (125 * p) (i + 1)) from by unfold ud; rw [uc_uc, uc_same, cpf_sD]]
    exact ih
set_option maxRecDepth 100000 in
set_option maxHeartbeats 4000000 in
theorem l_rLays (d : Nat) (X Z : Nat → Nat → Int32) {p : Nat} (hp : p ≤ 4) : EC (d + 2) 184 [.ref 63, .int (nI p)] (Wd X Z) (RV (uc X 74 (cpf (X 64) (X 74) 0 (125 * p) 125))) := by
  refine er_enter (L := [(0, _), (1, _)]) rfl rfl rfl ?_
  refine er_k (pc' := 1) (nI 0) rfl rfl rfl ?_
  refine er_loc (pc' := 2) (L' := [(2, _), (0, _), (1, _)]) rfl rfl rfl ?_
  refine ER_loc [(0, _), (1, _), (2, _)] rfl (List.forall_mem_cons.mpr ⟨rfl, List.forall_mem_cons.mpr ⟨rfl, List.forall_mem_cons.mpr ⟨rfl, fun _ h => absurd h List.not_mem_nil⟩⟩⟩) rfl rfl ?_
  have h := l_rLa_loop d X Z hp 125 0 (nI 0) (by omega) rfl
  rw [cpf_z, uc_id] at h
  exact h
set_option maxRecDepth 100000 in
set_option maxHeartbeats 4000000 in
theorem l_rTa_loop (d : Nat) (X Z : Nat → Nat → Int32) {p : Nat} (hp : p ≤ 4) : ∀ (m i : Nat) (x : Int32), i + m = 125 → x = nI i → ER (d + 1) tb_m185 2 [(0, .ref 63), (1, .int (nI p)), (2, .int x)] [] (Wd (uc X 64 (cpf (X 74) (X 64) (125 * p) 0 i)) Z) (RV (uc X 64 (cpf (X 74) (X 64) (125 * p) 0 125)))
  | 0, i, x, hi, h0 => by
    have hi0 : i = 125 := by omega
    subst h0
    subst hi0
    refine er_loc (pc' := 3) rfl rfl rfl ?_
    refine er_k (pc' := 5) (nI 125) rfl rfl rfl ?_
    refine er_cm_geT rfl (nI_nlt (by omega) (by omega)) ?_
    refine er_vret rfl rfl ?_
    exact RV_of rfl
  | m + 1, i, x, hi, h0 => by
    subst h0
    refine er_loc (pc' := 3) rfl rfl rfl ?_
    refine er_k (pc' := 5) (nI 125) rfl rfl rfl ?_
    refine er_cm_geF (pc' := 8) rfl (nI_lt (by omega) (by omega)) rfl ?_
    refine er_loc (pc' := 9) rfl rfl rfl ?_
    refine er_gf (pc' := 12) (_) rfl rfl rfl rfl rfl ?_
    refine er_loc (pc' := 13) rfl rfl rfl ?_
    refine er_loc (pc' := 14) rfl rfl rfl ?_
    refine er_gf (pc' := 17) (_) rfl rfl rfl rfl rfl ?_
    refine er_k (pc' := 19) (nI 125) rfl rfl rfl ?_
    refine er_loc (pc' := 20) rfl rfl rfl ?_
    refine er_imul (pc' := 21) rfl rfl ?_
    refine er_loc (pc' := 22) rfl rfl rfl ?_
    refine er_iadd (pc' := 23) rfl rfl ?_
    refine er_ia (pc' := 24) (((125 * p) + i)) rfl rfl rfl (by simp only [nI_add, nI_mul]) (by omega) rfl rfl ?_
    refine er_isX (pc' := 25) (i) rfl rfl (fun _ => rfl) rfl (by omega) rfl rfl ?_
    refine er_loc (L' := [(2, .int (_ + nI 1)), (0, _), (1, _)]) rfl rfl rfl ?_
    refine er_goto rfl ?_
    refine ER_loc [(0, _), (1, _), (2, _)] rfl (List.forall_mem_cons.mpr ⟨rfl, List.forall_mem_cons.mpr ⟨rfl, List.forall_mem_cons.mpr ⟨rfl, fun _ h => absurd h List.not_mem_nil⟩⟩⟩) rfl rfl ?_
    have ih := l_rTa_loop d X Z hp m (i + 1) _ (by omega) (nI_add i 1)
    rw [uc_ne (show 74 ≠ 64 by omega)]
    rw [show ud (uc X 64 (cpf (X 74) (X 64) (125 * p) 0 i)) 64 i (X 74 (125 * p + i)) = uc X 64 (cpf (X 74) (X 64) (125 * p) 0 (i + 1)) from by unfold ud; rw [uc_uc, uc_same, cpf_sS]]
    exact ih
set_option maxRecDepth 100000 in
set_option maxHeartbeats 4000000 in
theorem l_rTakes (d : Nat) (X Z : Nat → Nat → Int32) {p : Nat} (hp : p ≤ 4) : EC (d + 2) 185 [.ref 63, .int (nI p)] (Wd X Z) (RV (uc X 64 (cpf (X 74) (X 64) (125 * p) 0 125))) := by
  refine er_enter (L := [(0, _), (1, _)]) rfl rfl rfl ?_
  refine er_k (pc' := 1) (nI 0) rfl rfl rfl ?_
  refine er_loc (pc' := 2) (L' := [(2, _), (0, _), (1, _)]) rfl rfl rfl ?_
  refine ER_loc [(0, _), (1, _), (2, _)] rfl (List.forall_mem_cons.mpr ⟨rfl, List.forall_mem_cons.mpr ⟨rfl, List.forall_mem_cons.mpr ⟨rfl, fun _ h => absurd h List.not_mem_nil⟩⟩⟩) rfl rfl ?_
  have h := l_rTa_loop d X Z hp 125 0 (nI 0) (by omega) rfl
  rw [cpf_z, uc_id] at h
  exact h
def TS (p : Nat) (X X' : Nat → Nat → Int32) (s : skT) : Prop := (∀ c, c ≠ 63 → c ≠ 64 → c ≠ 72 → c ≠ 73 → c ≠ 74 → X' c = X c) ∧ X' 64 = X 64 ∧ (∀ k, k < 125 * p → X' 74 k = X 74 k) ∧ X' 63 16 = s.1 ∧ (∀ j, j ≠ 16 → X' 63 j = X 63 j) ∧ X' 73 = s.2.1 ∧ X' 72 = s.2.2
def RTS (p : Nat) (X : Nat → Nat → Int32) (s : skT) : ab_R → Prop := fun r => ∃ X' Z', r = (none, Wd X' Z') ∧ TS p X X' s
def ty (many : Nat) (b : Int32) : Nat → Nat → (Nat → Nat → Int32) → skT → skT
  | 0, _, J, s => if s.1 < 0 ∨ J 0 10 - b < s.1 then (J 0 10 - b, cpf s.2.2 s.2.1 0 0 many, s.2.2) else s
  | F + 1, dep, J, s => skLoop J dep (fun i t => ty many b F (dep + 1) (jFin J i) t) (jn J) 0 s
section ERM
variable {d pc pc' lk : Nat} {M : ab_M} {L L' : ab_Lo} {st : List Value} {w : ab_W} {P : ab_R → Prop} {X Z : Nat → Nat → Int32}
theorem er_cIy (cls : Nat) {c j p : Nat} {s : skT} {ins : Instr} {fs As rest : List Value} (hf : ab_fetch M.2.2.2.2.2.2.2 pc = some (ins, lk)) (hi : isCI ins = true) (hq : qI lk cls st = some (c, j, As, rest)) (hc : Nat.blt c 79 = true) (ho : cO c (X c) (Z c) = .inl (cls, fs)) (hp : pc + 3 = pc') (h : EC d j As (Wd X Z) (RTS p X s)) (k : ∀ X' Z', TS p X X' s → ER d M pc' L rest (Wd X' Z') P) : ER d M pc L st (Wd X Z) P :=
  er_cI cls hf hi hq hc ho hp h (fun r hr => by obtain ⟨X', Z', rfl, h1⟩ := hr; exact k X' Z' h1)
end ERM
theorem TS_of {p : Nat} {X X' Z : Nat → Nat → Int32} {s : skT} (h : TS p X X' s) : RTS p X s (none, Wd X' Z) := ⟨X', Z, rfl, h⟩
theorem take_row {X X1 X2 X4 : Nat → Nat → Int32} {p : Nat} (h1 : ∀ k, k < 125 → X4 74 (125 * p + k) = X 64 k) (h2 : ∀ k, 125 ≤ k → X4 64 k = X 64 k) : cpf (X4 74) (X4 64) (125 * p) 0 125 = X 64 := by
  funext k
  rw [cpf_at]
  by_cases h : k < 125
  · rw [if_pos ⟨by omega, by omega⟩, show k - 0 + 125 * p = 125 * p + k by omega]
    exact h1 k h
  · rw [if_neg (by omega)]
    exact h2 k (by omega)
set_option maxRecDepth 100000 in
set_option maxHeartbeats 4000000 in
theorem l_rFo_loop (d : Nat) (X Z : Nat → Nat → Int32) (y t : Int32) (many : Nat) (h5 : many ≤ 5) : ∀ (m i : Nat) (x : Int32), i + m = many → x = nI i → ER (d + 1) tb_m183 42 [(0, .ref 63), (1, .int y), (2, .int (nI many)), (3, .int t), (4, .int x)] [] (Wd (uc X 73 (cpf (X 72) (X 73) 0 0 i)) Z) (RV (uc X 73 (cpf (X 72) (X 73) 0 0 many)))
  | 0, i, x, hi, hx => by
    have hi0 : i = many := by omega
    subst hx
    subst hi0
    refine er_loc (pc' := 44) rfl rfl rfl ?_
    refine er_loc (pc' := 45) rfl rfl rfl ?_
    refine er_cm_geT rfl (nI_nlt (by omega) (by omega)) ?_
    refine er_vret rfl rfl ?_
    exact RV_of rfl
  | m + 1, i, x, hi, hx => by
    subst hx
    refine er_loc (pc' := 44) rfl rfl rfl ?_
    refine er_loc (pc' := 45) rfl rfl rfl ?_
    refine er_cm_geF (pc' := 48) rfl (nI_lt (by omega) (by omega)) rfl ?_
    refine er_loc (pc' := 49) rfl rfl rfl ?_
    refine er_gf (pc' := 52) (_) rfl rfl rfl rfl rfl ?_
    refine er_loc (pc' := 54) rfl rfl rfl ?_
    refine er_loc (pc' := 55) rfl rfl rfl ?_
    refine er_gf (pc' := 58) (_) rfl rfl rfl rfl rfl ?_
    refine er_loc (pc' := 60) rfl rfl rfl ?_
    refine er_ia (pc' := 61) (i) rfl rfl rfl rfl (by omega) rfl rfl ?_
    rw [uc_ne (show 72 ≠ 73 by omega)]
    refine er_isX (pc' := 62) (i) rfl rfl (fun _ => rfl) rfl (by omega) rfl rfl ?_
    refine er_loc (L' := [(4, .int (_ + nI 1)), (0, _), (1, _), (2, _), (3, _)]) rfl rfl rfl ?_
    refine er_goto rfl ?_
    refine ER_loc [(0, _), (1, _), (2, _), (3, _), (4, _)] rfl (List.forall_mem_cons.mpr ⟨rfl, List.forall_mem_cons.mpr ⟨rfl, List.forall_mem_cons.mpr ⟨rfl, List.forall_mem_cons.mpr ⟨rfl, List.forall_mem_cons.mpr ⟨rfl, fun _ h => absurd h List.not_mem_nil⟩⟩⟩⟩⟩) rfl rfl ?_
    have ih := l_rFo_loop d X Z y t many h5 m (i + 1) _ (by omega) (nI_add i 1)
    rw [show ud (uc X 73 (cpf (X 72) (X 73) 0 0 i)) 73 i (X 72 i) = uc X 73 (cpf (X 72) (X 73) 0 0 (i + 1)) from by unfold ud; rw [uc_uc, uc_same, cpf_step]]
    exact ih
set_option maxRecDepth 100000 in
set_option maxHeartbeats 4000000 in
theorem l_rTl_loop (d F : Nat) (X : Nat → Nat → Int32) (b : Int32) (many p : Nat) (hmany : p < many ∧ many ≤ 5) {T : Nat} (hI : RK T (X 64)) (hT : T + 300 < 2000000000) (hb : X 66 0 = b) (hrec : ∀ (X3 Z3 : Nat → Nat → Int32) (s : skT) (i : Nat), sMayDo (jm (X 64)) i = true → jm (X3 64) = jFin (jm (X 64)) i → RK (T + 300) (X3 64) → X3 66 0 = b → X3 63 16 = s.1 → X3 73 = s.2.1 → X3 72 = s.2.2 → EC (d + 6 + F) 183 [.ref 63, .int (nI (p + 1)), .int (nI many)] (Wd X3 Z3) (RTS (p + 1) X3 (ty many b F (p + 1) (jFin (jm (X 64)) i) s))) : ∀ (m i : Nat) (x : Int32) (X1 Z : Nat → Nat → Int32) (s : skT), i + m = jn (jm (X 64)) → x = nI i → TS p X X1 s → (∀ k, k < 125 → X1 74 (125 * p + k) = X 64 k) → ER (d + 6 + F) tb_m183 76 [(0, .ref 63), (1, .int (nI p)), (2, .int (nI many)), (3, .int x)] [] (Wd X1 Z) (RTS p X (skLoop (jm (X 64)) p (fun i t => ty many b F (p + 1) (jFin (jm (X 64)) i) t) m i s))
  | 0, i, x, X1, Z, s, hi, hx, hs, hsv => by
    have h8 := jn8 hI.ij
    have hI1 : RK T (X1 64) := by rw [hs.2.1]; exact hI
    have hn1 : X1 64 2 = nI (jn (jm (X 64))) := by rw [hs.2.1]; exact hI.n
    have hi0 : i = jn (jm (X 64)) := by omega
    subst hx
    subst hi0
    refine er_loc (pc' := 77) rfl rfl rfl ?_
    refine er_loc (pc' := 78) rfl rfl rfl ?_
    refine er_gf (pc' := 81) (_) rfl rfl rfl rfl rfl ?_
    refine er_k (pc' := 82) (nI 2) rfl rfl rfl ?_
    refine er_ia (pc' := 83) (2) rfl rfl rfl rfl (by omega) rfl rfl ?_
    rw [hn1]
    refine er_cm_geT rfl (nI_nlt (by omega) (by omega)) ?_
    refine er_vret rfl rfl ?_
    exact TS_of hs
  | m + 1, i, x, X1, Z, s, hi, hx, hs, hsv => by
    have h8 := jn8 hI.ij
    have hp4 : p ≤ 4 := by omega
    have hT1 : T < 2000000000 := by omega
    have hj1 : jm (X1 64) = jm (X 64) := by rw [hs.2.1]
    have hI1 : RK T (X1 64) := by rw [hs.2.1]; exact hI
    have hn1 : X1 64 2 = nI (jn (jm (X 64))) := by rw [hs.2.1]; exact hI.n
    subst hx
    refine er_loc (pc' := 77) rfl rfl rfl ?_
    refine er_loc (pc' := 78) rfl rfl rfl ?_
    refine er_gf (pc' := 81) (_) rfl rfl rfl rfl rfl ?_
    refine er_k (pc' := 82) (nI 2) rfl rfl rfl ?_
    refine er_ia (pc' := 83) (2) rfl rfl rfl rfl (by omega) rfl rfl ?_
    rw [hn1]
    refine er_cm_geF (pc' := 86) rfl (nI_lt (by omega) (by omega)) rfl ?_
    refine er_loc (pc' := 87) rfl rfl rfl ?_
    refine er_loc (pc' := 88) rfl rfl rfl ?_
    refine er_cIi (pc' := 91) (rest := []) 12 rfl rfl rfl rfl rfl rfl (EC.up (l_rMayDo d X1 _ hI1 (k := i) (by rw [hj1]; omega)) (by omega)) ?_
    rw [hj1]
    refine er_if_eqb (pc' := 94) rfl rfl (fun h91 => ?_) (fun h91 => ?_)
    · refine er_loc (L' := [(3, .int (_ + nI 1)), (0, _), (1, _), (2, _)]) rfl rfl rfl ?_
      refine er_goto rfl ?_
      refine ER_loc [(0, _), (1, _), (2, _), (3, _)] rfl (List.forall_mem_cons.mpr ⟨rfl, List.forall_mem_cons.mpr ⟨rfl, List.forall_mem_cons.mpr ⟨rfl, List.forall_mem_cons.mpr ⟨rfl, fun _ h => absurd h List.not_mem_nil⟩⟩⟩⟩) rfl rfl ?_
      rw [skLoop_succ, if_neg (by rw [h91]; decide)]
      exact l_rTl_loop d F X b many p hmany hI hT hb hrec m (i + 1) _ X1 Z s (by omega) (nI_add i 1) hs hsv
    · refine er_loc (pc' := 95) rfl rfl rfl ?_
      refine er_gf (pc' := 98) (_) rfl rfl rfl rfl rfl ?_
      refine er_loc (pc' := 99) rfl rfl rfl ?_
      refine er_loc (pc' := 100) rfl rfl rfl ?_
      refine er_isX (pc' := 101) (p) rfl rfl (fun _ => rfl) rfl (by omega) rfl rfl ?_
      refine er_loc (pc' := 102) rfl rfl rfl ?_
      refine er_loc (pc' := 103) rfl rfl rfl ?_
      refine er_cIw (pc' := 106) (rest := []) 12 rfl rfl rfl rfl rfl rfl (EC.up (l_rIsDone d (ud X1 72 p (nI i)) _ (by rw [ud_ne (by omega)]; exact hI1) hT1 (by rw [ud_ne (by omega), hj1]; exact h91)) (by omega)) ?_
      intro X3 Z3 w3
      have hj3 : jm (X3 64) = jFin (jm (X 64)) i := by rw [w3.j]; exact congrArg (fun J => jFin J i) hj1
      refine er_loc (pc' := 107) rfl rfl rfl ?_
      refine er_loc (pc' := 108) rfl rfl rfl ?_
      refine er_k (pc' := 109) (nI 1) rfl rfl rfl ?_
      refine er_iadd rfl rfl ?_
      rw [nI_add p 1]
      refine er_loc (pc' := 111) rfl rfl rfl ?_
      refine er_cIy (pc' := 114) (rest := []) 12 rfl rfl rfl rfl rfl rfl (hrec X3 Z3 (s.1, s.2.1, u1 s.2.2 p (nI i)) i h91 hj3 w3.rk (by rw [w3.off (by omega), ud_ne (by omega), hs.1 66 (by omega) (by omega) (by omega) (by omega) (by omega)]; exact hb) (by rw [w3.off (by omega), ud_ne (by omega)]; exact hs.2.2.2.1) (by rw [w3.off (by omega), ud_ne (by omega)]; exact hs.2.2.2.2.2.1) (by rw [w3.off (by omega), ud_same, hs.2.2.2.2.2.2])) ?_
      intro X4 Z4 t4
      refine er_loc (pc' := 115) rfl rfl rfl ?_
      refine er_loc (pc' := 116) rfl rfl rfl ?_
      refine er_cIv (pc' := 119) (rest := []) 12 rfl rfl rfl rfl rfl rfl (EC.up (l_rTakes d _ _ hp4) (by omega)) ?_
      have hrow : cpf (X4 74) (X4 64) (125 * p) 0 125 = X 64 := take_row (X1 := X) (X2 := X) (fun k hk => by rw [t4.2.2.1 _ (by omega), w3.off (by omega), ud_ne (by omega)]; exact hsv k hk) (fun k hk => by rw [t4.2.1, w3.2.2.2 k hk, ud_ne (by omega), hs.2.1])
      intro Z7
      refine er_loc (L' := [(3, .int (_ + nI 1)), (0, _), (1, _), (2, _)]) rfl rfl rfl ?_
      refine er_goto rfl ?_
      refine ER_loc [(0, _), (1, _), (2, _), (3, _)] rfl (List.forall_mem_cons.mpr ⟨rfl, List.forall_mem_cons.mpr ⟨rfl, List.forall_mem_cons.mpr ⟨rfl, List.forall_mem_cons.mpr ⟨rfl, fun _ h => absurd h List.not_mem_nil⟩⟩⟩⟩) rfl rfl ?_
      rw [skLoop_succ, if_pos h91]
      refine l_rTl_loop d F X b many p hmany hI hT hb hrec m (i + 1) _ _ _ _ (by omega) (nI_add i 1) ?_ ?_
      · refine ⟨fun c a1 a2 a3 a4 a5 => ?_, by rw [uc_same]; exact hrow, fun k hk => ?_, ?_, fun j hj => ?_, ?_, ?_⟩
        · rw [uc_ne a2, t4.1 c a1 a2 a3 a4 a5, w3.off a2, ud_ne a3]; exact hs.1 c a1 a2 a3 a4 a5
        · rw [uc_ne (by omega), t4.2.2.1 k (by omega), w3.off (by omega), ud_ne (by omega)]; exact hs.2.2.1 k hk
        · rw [uc_ne (by omega)]; exact t4.2.2.2.1
        · rw [uc_ne (by omega), t4.2.2.2.2.1 j hj, w3.off (by omega), ud_ne (by omega)]; exact hs.2.2.2.2.1 j hj
        · rw [uc_ne (by omega)]; exact t4.2.2.2.2.2.1
        · rw [uc_ne (by omega)]; exact t4.2.2.2.2.2.2
      · intro k hk
        rw [uc_ne (by omega), t4.2.2.1 _ (by omega), w3.off (by omega), ud_ne (by omega)]
        exact hsv k hk
set_option maxRecDepth 100000 in
set_option maxHeartbeats 4000000 in
theorem l_rTries (d many : Nat) (b : Int32) (h5 : many ≤ 5) : ∀ (F p : Nat) (X Z : Nat → Nat → Int32) (T : Nat) (s : skT), p + F = many → RK T (X 64) → T + 300 * F < 1000000000 → X 66 0 = b → X 63 16 = s.1 → X 73 = s.2.1 → X 72 = s.2.2 → EC (d + 6 + F) 183 [.ref 63, .int (nI p), .int (nI many)] (Wd X Z) (RTS p X (ty many b F p (jm (X 64)) s))
  | 0, p, X, Z, T, s, hp, hI, hT, hb, hs1, hs2, hs3 => by
    refine er_enter (L := [(0, _), (1, _), (2, _)]) rfl rfl rfl ?_
    refine er_loc (pc' := 1) rfl rfl rfl ?_
    refine er_loc (pc' := 2) rfl rfl rfl ?_
    refine er_cm_neF (pc' := 5) rfl (by rw [show p = many by omega]) rfl ?_
    refine er_loc (pc' := 6) rfl rfl rfl ?_
    refine er_gf (pc' := 9) (_) rfl rfl rfl rfl rfl ?_
    refine er_k (pc' := 10) (nI 0) rfl rfl rfl ?_
    refine er_ia (pc' := 11) (0) rfl rfl rfl rfl (by omega) rfl rfl ?_
    refine er_loc (pc' := 12) rfl rfl rfl ?_
    refine er_gf (pc' := 15) (_) rfl rfl rfl rfl rfl ?_
    refine er_k (pc' := 16) (nI 0) rfl rfl rfl ?_
    refine er_ia (pc' := 17) (0) rfl rfl rfl rfl (by omega) rfl rfl ?_
    rw [hb]
    refine er_isub (pc' := 18) rfl rfl ?_
    refine er_loc (pc' := 19) (L' := [(3, _), (0, _), (1, _), (2, _)]) rfl rfl rfl ?_
    refine er_loc (pc' := 20) rfl rfl rfl ?_
    refine er_gf (pc' := 23) (.int (X 63 16)) rfl rfl rfl rfl rfl ?_
    rw [hs1]
    refine er_if_lt (pc' := 26) rfl rfl (fun h23 => ?_) (fun h23 => ?_)
    · refine er_loc (pc' := 35) rfl rfl rfl ?_
      refine er_loc (pc' := 36) rfl rfl rfl ?_
      refine er_pfIX (pc' := 39) 16 rfl rfl rfl rfl rfl rfl ?_
      refine er_k (pc' := 40) (nI 0) rfl rfl rfl ?_
      refine er_loc (pc' := 42) (L' := [(4, _), (3, _), (0, _), (1, _), (2, _)]) rfl rfl rfl ?_
      refine ER_loc [(0, _), (1, _), (2, _), (3, _), (4, _)] rfl (List.forall_mem_cons.mpr ⟨rfl, List.forall_mem_cons.mpr ⟨rfl, List.forall_mem_cons.mpr ⟨rfl, List.forall_mem_cons.mpr ⟨rfl, List.forall_mem_cons.mpr ⟨rfl, fun _ h => absurd h List.not_mem_nil⟩⟩⟩⟩⟩) rfl rfl ?_
      have h := l_rFo_loop (d + 4) (ud X 63 16 (X 64 0 - b)) Z (nI p) (X 64 0 - b) many h5 many 0 (nI 0) (by omega) rfl
      rw [cpf_0, uc_id] at h
      refine h.mono (fun r hr => ?_)
      obtain ⟨Z7, rfl⟩ := hr
      rw [show ty many b 0 p (jm (X 64)) s = (X 64 0 - b, cpf s.2.2 s.2.1 0 0 many, s.2.2) from if_pos (Or.inl h23)]
      refine TS_of ⟨fun c a1 a2 a3 a4 a5 => by rw [uc_ne a4, ud_ne a1], by rw [uc_ne (by omega), ud_ne (by omega)], fun k hk => by rw [uc_ne (by omega), ud_ne (by omega)], by rw [uc_ne (by omega), ud_same, u1_same], fun j hj => by rw [uc_ne (by omega), ud_same, u1_ne hj], ?_, by rw [uc_ne (by omega), ud_ne (by omega)]; exact hs3⟩
      rw [uc_same, ud_ne (by omega), ud_ne (by omega), hs2, hs3]
    · refine er_loc (pc' := 27) rfl rfl rfl ?_
      refine er_loc (pc' := 28) rfl rfl rfl ?_
      refine er_gf (pc' := 31) (.int (X 63 16)) rfl rfl rfl rfl rfl ?_
      rw [hs1]
      refine er_cm_ge (pc' := 34) rfl rfl (fun h31 => ?_) (fun h31 => ?_)
      · refine er_vret rfl rfl ?_
        rw [show ty many b 0 p (jm (X 64)) s = s from if_neg (fun hh => by rcases hh with hh | hh; exact h23 hh; exact h31 hh)]
        exact TS_of ⟨fun _ _ _ _ _ _ => rfl, rfl, fun _ _ => rfl, hs1, fun _ _ => rfl, hs2, hs3⟩
      · refine er_loc (pc' := 35) rfl rfl rfl ?_
        refine er_loc (pc' := 36) rfl rfl rfl ?_
        refine er_pfIX (pc' := 39) 16 rfl rfl rfl rfl rfl rfl ?_
        refine er_k (pc' := 40) (nI 0) rfl rfl rfl ?_
        refine er_loc (pc' := 42) (L' := [(4, _), (3, _), (0, _), (1, _), (2, _)]) rfl rfl rfl ?_
        refine ER_loc [(0, _), (1, _), (2, _), (3, _), (4, _)] rfl (List.forall_mem_cons.mpr ⟨rfl, List.forall_mem_cons.mpr ⟨rfl, List.forall_mem_cons.mpr ⟨rfl, List.forall_mem_cons.mpr ⟨rfl, List.forall_mem_cons.mpr ⟨rfl, fun _ h => absurd h List.not_mem_nil⟩⟩⟩⟩⟩) rfl rfl ?_
        have h := l_rFo_loop (d + 4) (ud X 63 16 (X 64 0 - b)) Z (nI p) (X 64 0 - b) many h5 many 0 (nI 0) (by omega) rfl
        rw [cpf_0, uc_id] at h
        refine h.mono (fun r hr => ?_)
        obtain ⟨Z7, rfl⟩ := hr
        rw [show ty many b 0 p (jm (X 64)) s = (X 64 0 - b, cpf s.2.2 s.2.1 0 0 many, s.2.2) from if_pos (Or.inr h31)]
        refine TS_of ⟨fun c a1 a2 a3 a4 a5 => by rw [uc_ne a4, ud_ne a1], by rw [uc_ne (by omega), ud_ne (by omega)], fun k hk => by rw [uc_ne (by omega), ud_ne (by omega)], by rw [uc_ne (by omega), ud_same, u1_same], fun j hj => by rw [uc_ne (by omega), ud_same, u1_ne hj], ?_, by rw [uc_ne (by omega), ud_ne (by omega)]; exact hs3⟩
        rw [uc_same, ud_ne (by omega), ud_ne (by omega), hs2, hs3]
  | F + 1, p, X, Z, T, s, hp, hI, hT, hb, hs1, hs2, hs3 => by
    rw [show d + 6 + (F + 1) = d + 6 + F + 1 by omega]
    refine er_enter (L := [(0, _), (1, _), (2, _)]) rfl rfl rfl ?_
    refine er_loc (pc' := 1) rfl rfl rfl ?_
    refine er_loc (pc' := 2) rfl rfl rfl ?_
    refine er_cm_neT rfl (fun hh => absurd (nIj (by omega) (by omega) hh) (by omega)) ?_
    refine er_loc (pc' := 70) rfl rfl rfl ?_
    refine er_loc (pc' := 71) rfl rfl rfl ?_
    refine er_cIv (pc' := 74) (rest := []) 12 rfl rfl rfl rfl rfl rfl (EC.up (l_rLays d X _ (p := p) (by omega)) (by omega)) ?_
    intro Z5
    refine er_k (pc' := 75) (nI 0) rfl rfl rfl ?_
    refine er_loc (pc' := 76) (L' := [(3, _), (0, _), (1, _), (2, _)]) rfl rfl rfl ?_
    refine ER_loc [(0, _), (1, _), (2, _), (3, _)] rfl (List.forall_mem_cons.mpr ⟨rfl, List.forall_mem_cons.mpr ⟨rfl, List.forall_mem_cons.mpr ⟨rfl, List.forall_mem_cons.mpr ⟨rfl, fun _ h => absurd h List.not_mem_nil⟩⟩⟩⟩) rfl rfl ?_
    refine l_rTl_loop d F X b many p ⟨by omega, h5⟩ hI (by omega) hb ?_ (jn (jm (X 64))) 0 _ _ _ s (by omega) rfl ?_ ?_
    · intro X3 Z3 s3 i hm hj hI3 hb3 h1 h2 h3
      have ih := l_rTries d many b h5 F (p + 1) X3 Z3 (T + 300) s3 (by omega) hI3 (by omega) hb3 h1 h2 h3
      rw [hj] at ih
      exact ih
    · exact ⟨fun c a1 a2 a3 a4 a5 => uc_ne a5, uc_ne (by omega), fun k hk => by rw [uc_same, cpf_at, if_neg (by omega)], by rw [uc_ne (by omega)]; exact hs1, fun j hj => by rw [uc_ne (by omega)], by rw [uc_ne (by omega)]; exact hs2, by rw [uc_ne (by omega)]; exact hs3⟩
    · intro k hk
      rw [uc_same, cpf_at, if_pos ⟨by omega, by omega⟩]
      congr 1
      omega
end
section
/-! THE REFERENCE, its face: order; both searches find alike -/
theorem sSet_bt {x : Int32} {n : Nat} (hn : n ≤ 8) (h : ∀ i, bt x i = true → i < n) : sSetOf (bt x) n = x := by
  apply bt_ext
  intro i _
  rw [bt_sSetOf hn]
  cases hb : bt x i with
  | false => rw [Bool.and_false]
  | true => rw [decide_eq_true (h i hb)]; rfl
theorem pop_set {x : Int32} : ∀ {n : Nat}, n ≤ 8 → sPop (sSetOf (bt x) n) = nI (cN x n)
  | 0, _ => (by decide +kernel : sPop (nI 0) = nI 0)
  | n + 1, hn => by
    rw [← or_set (by omega)]
    obtain ⟨j, hj, e⟩ := set_n (x := sSetOf (bt x) n) (show n ≤ 8 by omega) (fun i hi => by rw [bt_sSetOf (by omega), Bool.and_eq_true, decide_eq_true_eq] at hi; exact hi.1)
    have ih := pop_set (x := x) (n := n) (by omega)
    show _ = nI (cN x n + (if bt x n = true then 1 else 0))
    by_cases hb : bt x n = true
    · rw [if_pos hb, if_pos hb, ← nI_add, ← ih, e, pop_or (by omega) hj]
    · rw [if_neg hb, if_neg hb, or_0, ih, Nat.add_zero]
theorem cN_un {J : Nat → Nat → Int32} : ∀ {n : Nat}, n ≤ 8 → cN (J 0 6) n + unN J n = n
  | 0, _ => rfl
  | n + 1, h => by
    have ih := cN_un (J := J) (n := n) (by omega)
    show cN (J 0 6) n + (if bt (J 0 6) n = true then 1 else 0) + (unN J n + (if sDone J n = true then 0 else 1)) = n + 1
    unfold sDone
    rw [sBit_bt (by omega)]
    by_cases hb : bt (J 0 6) n = true
    · rw [if_pos hb, if_pos hb]; omega
    · rw [if_neg hb, if_neg hb]; omega
theorem sOpen_un {T : Nat} {J : Nat → Nat → Int32} (hI : IJ T J) : sOpen J = nI (unN J (jn J)) := by
  have h8 := jn8 hI
  unfold sOpen
  have e := pop_set (x := J 0 6) h8
  rw [sSet_bt h8 hI.done] at e
  have := cN_un (J := J) h8
  rw [e, show J 0 1 = nI (jn J) from hI.n.1, nI_sub (by omega)]
  congr 1
  omega
def TR (many p b : Nat) (s t : skT) : Prop := ((s.1 < 0 ∧ t.1 < 0) ∨ ∃ a c, a = c + b ∧ a < 1000000000 ∧ s.1 = nI a ∧ t.1 = nI c ∧ ∀ k, k < many → s.2.1 k = t.2.1 k) ∧ ∀ k, k < p → s.2.2 k = t.2.2 k
theorem TR.down {many p b : Nat} {s t : skT} (h : TR many (p + 1) b s t) : TR many p b s t := ⟨h.1, fun k hk => h.2 k (by omega)⟩
theorem TR.set {many p b : Nat} {s t : skT} {v : Int32} (h : TR many p b s t) : TR many (p + 1) b (s.1, s.2.1, u1 s.2.2 p v) (t.1, t.2.1, u1 t.2.2 p v) := by
  refine ⟨h.1, fun k hk => ?_⟩
  show u1 s.2.2 p v k = u1 t.2.2 p v k
  rw [u1_at, u1_at]
  split
  · rfl
  · exact h.2 k (by omega)
theorem unN_sim {K K' : Nat → Nat → Int32} (h : Sim K K') : ∀ n, unN K n = unN K' n
  | 0 => rfl
  | n + 1 => by
    unfold unN sDone
    rw [unN_sim h n, h.fld (show 6 ≠ 7 by omega) (by omega)]
theorem TR_loop {K K' : Nat → Nat → Int32} (hsim : Sim K K') {many p b : Nat} {f g : Nat → skT → skT} (hfg : ∀ i s t, sMayDo K i = true → TR many (p + 1) b s t → TR many (p + 1) b (f i s) (g i t)) : ∀ (m i : Nat) (s t : skT), TR many p b s t → TR many p b (skLoop K p f m i s) (skLoop K' p g m i t)
  | 0, _, _, _, h => h
  | m + 1, i, s, t, h => by
    rw [skLoop_succ, skLoop_succ, hsim.may]
    by_cases hm : sMayDo K i = true
    · rw [if_pos hm, if_pos hm]
      exact TR_loop hsim hfg m (i + 1) _ _ (hfg i _ _ hm h.set).down
    · rw [if_neg hm, if_neg hm]
      exact TR_loop hsim hfg m (i + 1) _ _ h
theorem TR_leaf {many b m : Nat} {s t : skT} (hm : m < 1000000000) (hb : b ≤ m) (h5 : many ≤ 5) (h : TR many many b s t) : TR many many b (if s.1 < 0 ∨ nI m < s.1 then (nI m, cpf s.2.2 s.2.1 0 0 5, s.2.2) else s) (if t.1 < 0 ∨ nI m - nI b < t.1 then (nI m - nI b, cpf t.2.2 t.2.1 0 0 many, t.2.2) else t) := by
  have e : nI m - nI b = nI (m - b) := nI_sub hb
  have hnew : TR many many b (nI m, cpf s.2.2 s.2.1 0 0 5, s.2.2) (nI m - nI b, cpf t.2.2 t.2.1 0 0 many, t.2.2) := by
    refine ⟨Or.inr ⟨m, m - b, by omega, hm, rfl, e, fun k hk => ?_⟩, h.2⟩
    show cpf s.2.2 s.2.1 0 0 5 k = cpf t.2.2 t.2.1 0 0 many k
    rw [cpf_all (by omega), cpf_all hk]
    exact h.2 k hk
  rcases h.1 with ⟨h1, h2⟩ | ⟨a, c, h1, h2, h3, h4, h5'⟩
  · rw [if_pos (Or.inl h1), if_pos (Or.inl h2)]
    exact hnew
  · have e1 : (s.1 < 0 ∨ nI m < s.1) ↔ m < a := by
      rw [h3, nI_ltI (by omega) (by omega)]
      exact ⟨fun hh => hh.elim (fun h9 => absurd h9 (nI_pos (by omega))) id, Or.inr⟩
    have e2 : (t.1 < 0 ∨ nI m - nI b < t.1) ↔ m - b < c := by
      rw [h4, e, nI_ltI (by omega) (by omega)]
      exact ⟨fun hh => hh.elim (fun h9 => absurd h9 (nI_pos (by omega))) id, Or.inr⟩
    by_cases hc : m < a
    · rw [if_pos (e1.mpr hc), if_pos (e2.mpr (by omega))]
      exact hnew
    · rw [if_neg (fun hh => hc (e1.mp hh)), if_neg (fun hh => hc (by have := e2.mp hh; omega))]
      exact h
theorem sk_zero {F dep : Nat} {J : Nat → Nat → Int32} {s : skT} (h : sOpen J = 0) : sk (F + 1) dep J s = if s.1 < 0 ∨ J 0 10 < s.1 then (J 0 10, cpf s.2.2 s.2.1 0 0 5, s.2.2) else s := if_pos h
theorem sk_succ {F dep : Nat} {J : Nat → Nat → Int32} {s : skT} (h : ¬ sOpen J = 0) (h5 : ¬ 5 ≤ dep) : sk (F + 1) dep J s = skLoop J dep (fun i t => sk F (dep + 1) (jPass J i) t) (jn J) 0 s := (if_neg h).trans (if_neg h5)
theorem TR_sk (many b : Nat) (h5 : many ≤ 5) : ∀ (G p F : Nat) (K K' : Nat → Nat → Int32) (T : Nat) (s t : skT), p + G = many → p + F = 5 → IJ T K → T + 300 * G < 1000000000 → b ≤ nN (K 0 10) → Sim K K' → unN K' (jn K') = G → TR many p b s t → TR many p b (sk (F + 1) p K s) (ty many (nI b) G p K' t)
  | 0, p, F, K, K', T, s, t, hp, hF, hI, hT, hb, hsim, hu, h => by
    have hpm : p = many := by omega
    subst hpm
    have hop : sOpen K = 0 := by
      rw [sOpen_un hI]
      have e : unN K (jn K) = unN K' (jn K') := by
        rw [hsim.jn]
        exact unN_sim hsim _
      rw [e, hu]
      rfl
    rw [sk_zero hop]
    obtain ⟨m1, m2⟩ := hI.minute
    have e10 : K' 0 10 = K 0 10 := hsim.fld (by omega) (by omega)
    show TR p p b _ (if t.1 < 0 ∨ K' 0 10 - nI b < t.1 then (K' 0 10 - nI b, cpf t.2.2 t.2.1 0 0 p, t.2.2) else t)
    rw [e10, m1]
    exact TR_leaf (by omega) hb h5 h
  | G + 1, p, F, K, K', T, s, t, hp, hF, hI, hT, hb, hsim, hu, h => by
    have hop : ¬ sOpen K = 0 := by
      rw [sOpen_un hI]
      have e : unN K (jn K) = unN K' (jn K') := by
        rw [hsim.jn]
        exact unN_sim hsim _
      rw [e, hu]
      exact fun hh => absurd (nIj (by omega) (by omega) (show nI (G + 1) = nI 0 from hh)) (by omega)
    obtain ⟨F, rfl⟩ : ∃ F', F = F' + 1 := ⟨F - 1, by omega⟩
    rw [sk_succ hop (by omega)]
    show TR many p b _ (skLoop K' p (fun i t => ty many (nI b) G (p + 1) (jFin K' i) t) (jn K') 0 t)
    rw [hsim.jn]
    refine TR_loop hsim (fun i s t hm h1 => ?_) _ _ _ _ h
    obtain ⟨hk, hd, _⟩ := mayDo_k hm
    have h8 := jn8 hI
    have hd' : sDone K' i = false := (mayDo_k (by rw [hsim.may]; exact hm)).2.1
    have hu2 := unN_fin (J := K') (show i < 32 by omega) hd' (show jn K' ≤ 32 by rw [hsim.jn]; omega)
    rw [if_pos (by rw [hsim.jn]; exact hk), hu] at hu2
    refine TR_sk many b h5 G (p + 1) F (jPass K i) (jFin K' i) (T + 300) s t (by omega) (by omega) (hI.pass (by omega) hm) (by omega) ?_ hsim.pass (by rw [jn_fin]; omega) h1
    show b ≤ nN (K 0 10 + sLasts K i)
    obtain ⟨m1, m2⟩ := hI.minute
    obtain ⟨l1, l2⟩ := lasts300 hI i
    rw [m1, l1, nI_add, nN_nI (by omega)]
    omega
def rO (X : Nat → Nat → Int32) : skT := ty (unN (jm (X 64)) (jn (jm (X 64)))) (X 64 0) (unN (jm (X 64)) (jn (jm (X 64)))) 0 (jm (X 64)) (-1, X 73, X 72)
def OQ (X X' : Nat → Nat → Int32) : Prop := (∀ c, c ≠ 63 → c ≠ 64 → c ≠ 66 → c ≠ 67 → c ≠ 72 → c ≠ 73 → c ≠ 74 → X' c = X c) ∧ X' 64 = X 64 ∧ ∀ j, j ≠ 16 → X' 63 j = X 63 j
def ROQ (v : Int32) (X : Nat → Nat → Int32) : ab_R → Prop := fun r => ∃ X' Z', r = (some (.int v), Wd X' Z') ∧ OQ X X'
theorem ROQ_of {v x : Int32} {X X' Z : Nat → Nat → Int32} (hx : x = v) (h : OQ X X') : ROQ v X (some (.int x), Wd X' Z) := ⟨X', Z, by rw [hx], h⟩
def OrM (X : Nat → Nat → Int32) (w : Int32) : ab_R → Prop := fun r => if nI 5 < sOpen (jm (X 64)) then RI (sErr 3) (yErr X 3) r else if (rO X).1 < 0 ∨ ¬ w < sOpen (jm (X 64)) then ROQ (sErr 2) X r else ROQ (if w < 0 then (rO X).1 else (rO X).2.1 (nN w)) X r
theorem OQ_t {X X4 : Nat → Nat → Int32} {s : skT} (t4 : TS 0 (ud (uc X 66 (X 64)) 63 16 (-1)) X4 s) : OQ X (uc X4 64 (X4 66)) := by
  refine ⟨fun c a1 a2 a3 a4 a5 a6 a7 => ?_, ?_, fun j hj => ?_⟩
  · rw [uc_ne a2, t4.1 c a1 a2 a5 a6 a7, ud_ne a1, uc_ne a3]
  · rw [uc_same, t4.1 66 (by omega) (by omega) (by omega) (by omega) (by omega), ud_ne (by omega), uc_same]
  · rw [uc_ne (by omega), t4.2.2.2.2.1 j hj, ud_same, u1_ne hj, uc_ne (by omega)]
theorem OQ.err {X X' : Nat → Nat → Int32} {k : Nat} (h : OQ X X') : OQ X (yErr X' k) := ⟨fun c a1 a2 a3 a4 a5 a6 a7 => by unfold yErr; rw [ud_ne a4]; exact h.1 c a1 a2 a3 a4 a5 a6 a7, by unfold yErr; rw [ud_ne (by omega)]; exact h.2.1, fun j hj => by unfold yErr; rw [ud_ne (by omega)]; exact h.2.2 j hj⟩
theorem wIn {w : Int32} (h : sIn w (-1) (nI 4) = true) (h0 : ¬ w < 0) : ∃ j, 0 ≤ j ∧ j ≤ 4 ∧ w = nI j := by
  refine sIn_ex (by omega) (by omega) ?_
  unfold sIn at h ⊢
  simp only [Bool.and_eq_true, Bool.not_eq_true', decide_eq_false_iff_not] at h ⊢
  exact ⟨h0, h.2⟩
set_option maxRecDepth 100000 in
set_option maxHeartbeats 4000000 in
theorem l_rOrder (d : Nat) (X Z : Nat → Nat → Int32) {T : Nat} (hI : RK T (X 64)) (hT9 : T < 1000000) (w : Int32) : EC (d + 13) 182 [.ref 63, .int w] (Wd X Z) (fun r => if sIn w (-1) (nI 4) = true then OrM X w r else RI (sErr 1) (yErr X 1) r) := by
  refine er_enter (L := [(0, _), (1, _)]) rfl rfl rfl ?_
  refine er_loc (pc' := 1) rfl rfl rfl ?_
  refine er_k (pc' := 2) (-1) rfl rfl rfl ?_
  refine er_k (pc' := 3) (nI 4) rfl rfl rfl ?_
  refine er_cSi (pc' := 6) (rest := []) rfl rfl rfl (l_in _ _ _ _ _) ?_
  refine er_if_neb (pc' := 9) rfl rfl (fun h6 => ?_) (fun h6 => ?_)
  · refine er_loc (pc' := 17) rfl rfl rfl ?_
    refine er_gf (pc' := 20) (_) rfl rfl rfl rfl rfl ?_
    refine er_k (pc' := 21) (nI 2) rfl rfl rfl ?_
    refine er_ia (pc' := 22) (2) rfl rfl rfl rfl (by omega) rfl rfl ?_
    refine er_loc (pc' := 23) rfl rfl rfl ?_
    refine er_cIi (pc' := 26) (rest := [_]) 12 rfl rfl rfl rfl rfl rfl (l_rDone _ X _ (n := jn (jm (X 64))) hI.n hI.n8) ?_
    rw [show rB (X 64) 11 (jn (jm (X 64))) = jm (X 64) 0 6 from rfl]
    refine er_cSi (pc' := 29) (rest := [_]) rfl rfl rfl (l_rBitsD _ _ hI.ij) ?_
    refine er_isub rfl rfl ?_
    rw [show X 64 2 - sPop (jm (X 64) 0 6) = nI (unN (jm (X 64)) (jn (jm (X 64)))) from sOpen_un hI.ij]
    refine er_loc (pc' := 31) (L' := [(2, _), (0, _), (1, _)]) rfl rfl rfl ?_
    refine er_loc (pc' := 32) rfl rfl rfl ?_
    refine er_k (pc' := 33) (nI 5) rfl rfl rfl ?_
    refine er_cm_le (pc' := 36) rfl rfl (fun h33 => ?_) (fun h33 => ?_)
    · have h5 : unN (jm (X 64)) (jn (jm (X 64))) ≤ 5 := by
        have hle := Nat.le_trans (unN_le (jm (X 64)) (jn (jm (X 64)))) (jn8 hI.ij)
        rcases Nat.lt_or_ge 5 (unN (jm (X 64)) (jn (jm (X 64)))) with h | h
        · exact absurd (nI_lt h (by omega)) h33
        · exact h
      refine er_loc (pc' := 44) rfl rfl rfl ?_
      refine er_cIv (pc' := 47) (rest := []) 12 rfl rfl rfl rfl rfl rfl (l_rThinks _ _ _) ?_
      intro Z7
      refine er_loc (pc' := 48) rfl rfl rfl ?_
      refine er_k (pc' := 49) (-1) rfl rfl rfl ?_
      refine er_pfIX (pc' := 52) 16 rfl rfl rfl rfl rfl rfl ?_
      refine er_loc (pc' := 53) rfl rfl rfl ?_
      refine er_k (pc' := 54) (nI 0) rfl rfl rfl ?_
      refine er_loc (pc' := 55) rfl rfl rfl ?_
      refine er_cIy (pc' := 58) (rest := []) 12 rfl rfl rfl rfl rfl rfl (EC.up (l_rTries d _ (X 64 0) h5 (unN (jm (X 64)) (jn (jm (X 64)))) 0 (ud (uc X 66 (X 64)) 63 16 (-1)) _ T (-1, X 73, X 72) (by omega) hI (by omega) rfl rfl rfl rfl) (by omega)) ?_
      intro X4 Z4 t4
      replace t4 : TS 0 (ud (uc X 66 (X 64)) 63 16 (-1)) X4 (rO X) := t4
      have hl : uc X4 64 (X4 66) 63 16 = (rO X).1 := by rw [uc_ne (by omega)]; exact t4.2.2.2.1
      refine er_loc (pc' := 59) rfl rfl rfl ?_
      refine er_cIv (pc' := 62) (rest := []) 12 rfl rfl rfl rfl rfl rfl (l_rPutsBack _ _ _) ?_
      intro Z7
      refine er_loc (pc' := 63) rfl rfl rfl ?_
      refine er_gf (pc' := 66) (.int (uc X4 64 (X4 66) 63 16)) rfl rfl rfl rfl rfl ?_
      rw [hl]
      refine er_if_lt (pc' := 69) rfl rfl (fun h66 => ?_) (fun h66 => ?_)
      · refine er_loc (pc' := 75) rfl rfl rfl ?_
        refine er_ldc (pc' := 77) (-1000000002) rfl rfl rfl rfl rfl ?_
        refine er_cIz (pc' := 80) (rest := []) 12 rfl rfl rfl rfl rfl rfl (l_rError2 _ _ _) ?_
        intro Z9
        refine er_goto rfl ?_
        refine er_iret rfl rfl ?_
        rw [if_pos h6]
        show OrM X w _
        unfold OrM
        rw [if_neg (by rw [sOpen_un hI.ij]; exact h33)]
        rw [if_pos (Or.inl h66)]
        exact ROQ_of rfl (OQ_t t4).err
      · refine er_loc (pc' := 70) rfl rfl rfl ?_
        refine er_loc (pc' := 71) rfl rfl rfl ?_
        refine er_cm_lt (pc' := 74) rfl rfl (fun h71 => ?_) (fun h71 => ?_)
        · refine er_loc (pc' := 84) rfl rfl rfl ?_
          refine er_if_ge (pc' := 87) rfl rfl (fun h84 => ?_) (fun h84 => ?_)
          · obtain ⟨v0, _, v2, hv⟩ := wIn h6 h84
            have hwn : nN w = v0 := by rw [hv]; exact nN_nI (by omega)
            have hwk : w = nI (nN w) := by rw [hwn, hv]
            refine er_loc (pc' := 95) rfl rfl rfl ?_
            refine er_gf (pc' := 98) (_) rfl rfl rfl rfl rfl ?_
            refine er_loc (pc' := 99) rfl rfl rfl ?_
            refine er_ia (pc' := 100) (nN w) rfl rfl rfl hwk (by omega) rfl rfl ?_
            refine er_iret rfl rfl ?_
            rw [if_pos h6]
            show OrM X w _
            unfold OrM
            rw [if_neg (by rw [sOpen_un hI.ij]; exact h33)]
            rw [if_neg (fun hh => by rcases hh with hh | hh; exact h66 hh; exact hh (by rw [sOpen_un hI.ij]; exact h71))]
            rw [if_neg h84]
            exact ROQ_of (by rw [uc_ne (by omega), t4.2.2.2.2.2.1]) (OQ_t t4)
          · refine er_loc (pc' := 88) rfl rfl rfl ?_
            refine er_gf (pc' := 91) (.int (uc X4 64 (X4 66) 63 16)) rfl rfl rfl rfl rfl ?_
            rw [hl]
            refine er_goto rfl ?_
            refine er_iret rfl rfl ?_
            rw [if_pos h6]
            show OrM X w _
            unfold OrM
            rw [if_neg (by rw [sOpen_un hI.ij]; exact h33)]
            rw [if_neg (fun hh => by rcases hh with hh | hh; exact h66 hh; exact hh (by rw [sOpen_un hI.ij]; exact h71))]
            rw [if_pos h84]
            exact ROQ_of rfl (OQ_t t4)
        · refine er_loc (pc' := 75) rfl rfl rfl ?_
          refine er_ldc (pc' := 77) (-1000000002) rfl rfl rfl rfl rfl ?_
          refine er_cIz (pc' := 80) (rest := []) 12 rfl rfl rfl rfl rfl rfl (l_rError2 _ _ _) ?_
          intro Z9
          refine er_goto rfl ?_
          refine er_iret rfl rfl ?_
          rw [if_pos h6]
          show OrM X w _
          unfold OrM
          rw [if_neg (by rw [sOpen_un hI.ij]; exact h33)]
          rw [if_pos (Or.inr (by rw [sOpen_un hI.ij]; exact h71))]
          exact ROQ_of rfl (OQ_t t4).err
    · refine er_loc (pc' := 37) rfl rfl rfl ?_
      refine er_ldc (pc' := 39) (-1000000003) rfl rfl rfl rfl rfl ?_
      refine er_cIz (pc' := 42) (rest := []) 12 rfl rfl rfl rfl rfl rfl (l_rError3 _ _ _) ?_
      intro Z9
      refine er_iret rfl rfl ?_
      rw [if_pos h6]
      show OrM X w _
      unfold OrM
      rw [if_pos (by rw [sOpen_un hI.ij]; exact h33)]
      exact RI_of rfl rfl
  · refine er_loc (pc' := 10) rfl rfl rfl ?_
    refine er_ldc (pc' := 12) (-1000000001) rfl rfl rfl rfl rfl ?_
    refine er_cIz (pc' := 15) (rest := []) 12 rfl rfl rfl rfl rfl rfl (l_rError1 _ _ _) ?_
    intro Z9
    refine er_iret rfl rfl ?_
    rw [if_neg (by rw [h6]; decide)]
    exact RI_of rfl rfl
end
section
/-! THE REFERENCE, its face: orders by a sheet -/
def FS (p : Nat) (X X' : Nat → Nat → Int32) : Prop := (∀ c, c ≠ 63 → c ≠ 64 → c ≠ 72 → c ≠ 74 → X' c = X c) ∧ X' 64 = X 64 ∧ (∀ k, k < 125 * p → X' 74 k = X 74 k) ∧ (∀ j, j ≠ 18 → j ≠ 19 → X' 63 j = X 63 j)
def RFS (p : Nat) (X : Nat → Nat → Int32) : ab_R → Prop := fun r => ∃ X' Z', r = (none, Wd X' Z') ∧ FS p X X'
section ERN
variable {d pc pc' lk : Nat} {M : ab_M} {L L' : ab_Lo} {st : List Value} {w : ab_W} {P : ab_R → Prop} {X Z : Nat → Nat → Int32}
theorem er_cIf (cls : Nat) {c j p : Nat} {ins : Instr} {fs As rest : List Value} (hf : ab_fetch M.2.2.2.2.2.2.2 pc = some (ins, lk)) (hi : isCI ins = true) (hq : qI lk cls st = some (c, j, As, rest)) (hc : Nat.blt c 79 = true) (ho : cO c (X c) (Z c) = .inl (cls, fs)) (hp : pc + 3 = pc') (h : EC d j As (Wd X Z) (RFS p X)) (k : ∀ X' Z', FS p X X' → ER d M pc' L rest (Wd X' Z') P) : ER d M pc L st (Wd X Z) P :=
  er_cI cls hf hi hq hc ho hp h (fun r hr => by obtain ⟨X', Z', rfl, h1⟩ := hr; exact k X' Z' h1)
end ERN
theorem FS_of {p : Nat} {X X' Z : Nat → Nat → Int32} (h : FS p X X') : RFS p X (none, Wd X' Z) := ⟨X', Z, rfl, h⟩
set_option maxRecDepth 100000 in
set_option maxHeartbeats 4000000 in
theorem l_rFl_loop (d F : Nat) (X : Nat → Nat → Int32) (a g p : Nat) (ha : a < 4) (hpg : p < g ∧ g ≤ 4) {T : Nat} (hI : RK T (X 64)) (hT : T + 300 < 2000000000) (hrec : ∀ (X3 Z3 : Nat → Nat → Int32), RK (T + 300) (X3 64) → X3 77 = X 77 → EC (d + 6 + F) 197 [.ref 63, .int (nI a), .int (nI (p + 1))] (Wd X3 Z3) (RFS (p + 1) X3)) : ∀ (m i : Nat) (x : Int32) (X1 Z : Nat → Nat → Int32), i + m = jn (jm (X 64)) → x = nI i → FS p X X1 → (∀ k, k < 125 → X1 74 (125 * p + k) = X 64 k) → ER (d + 6 + F) tb_m197 52 [(0, .ref 63), (1, .int (nI a)), (2, .int (nI p)), (3, .int x)] [] (Wd X1 Z) (RFS p X)
  | 0, i, x, X1, Z, hi, hx, hs, hsv => by
    have h8 := jn8 hI.ij
    have hI1 : RK T (X1 64) := by rw [hs.2.1]; exact hI
    have hn1 : X1 64 2 = nI (jn (jm (X 64))) := by rw [hs.2.1]; exact hI.n
    have hi0 : i = jn (jm (X 64)) := by omega
    subst hx
    subst hi0
    refine er_loc (pc' := 53) rfl rfl rfl ?_
    refine er_loc (pc' := 54) rfl rfl rfl ?_
    refine er_gf (pc' := 57) (_) rfl rfl rfl rfl rfl ?_
    refine er_k (pc' := 58) (nI 2) rfl rfl rfl ?_
    refine er_ia (pc' := 59) (2) rfl rfl rfl rfl (by omega) rfl rfl ?_
    rw [hn1]
    refine er_cm_geT rfl (nI_nlt (by omega) (by omega)) ?_
    refine er_vret rfl rfl ?_
    exact FS_of hs
  | m + 1, i, x, X1, Z, hi, hx, hs, hsv => by
    have h8 := jn8 hI.ij
    have hT1 : T < 2000000000 := by omega
    have hj1 : jm (X1 64) = jm (X 64) := by rw [hs.2.1]
    have hI1 : RK T (X1 64) := by rw [hs.2.1]; exact hI
    have hn1 : X1 64 2 = nI (jn (jm (X 64))) := by rw [hs.2.1]; exact hI.n
    subst hx
    refine er_loc (pc' := 53) rfl rfl rfl ?_
    refine er_loc (pc' := 54) rfl rfl rfl ?_
    refine er_gf (pc' := 57) (_) rfl rfl rfl rfl rfl ?_
    refine er_k (pc' := 58) (nI 2) rfl rfl rfl ?_
    refine er_ia (pc' := 59) (2) rfl rfl rfl rfl (by omega) rfl rfl ?_
    rw [hn1]
    refine er_cm_geF (pc' := 62) rfl (nI_lt (by omega) (by omega)) rfl ?_
    refine er_loc (pc' := 63) rfl rfl rfl ?_
    refine er_loc (pc' := 64) rfl rfl rfl ?_
    refine er_cIi (pc' := 67) (rest := []) 12 rfl rfl rfl rfl rfl rfl (EC.up (l_rMayDo d X1 _ hI1 (k := i) (by rw [hj1]; omega)) (by omega)) ?_
    rw [hj1]
    refine er_if_eqb (pc' := 70) rfl rfl (fun h67 => ?_) (fun h67 => ?_)
    · refine er_loc (L' := [(3, .int (_ + nI 1)), (0, _), (1, _), (2, _)]) rfl rfl rfl ?_
      refine er_goto rfl ?_
      refine ER_loc [(0, _), (1, _), (2, _), (3, _)] rfl (List.forall_mem_cons.mpr ⟨rfl, List.forall_mem_cons.mpr ⟨rfl, List.forall_mem_cons.mpr ⟨rfl, List.forall_mem_cons.mpr ⟨rfl, fun _ h => absurd h List.not_mem_nil⟩⟩⟩⟩) rfl rfl ?_
      exact l_rFl_loop d F X a g p ha hpg hI hT hrec m (i + 1) _ X1 _ (by omega) (nI_add i 1) hs hsv
    · refine er_loc (pc' := 71) rfl rfl rfl ?_
      refine er_loc (pc' := 72) rfl rfl rfl ?_
      refine er_cIz (pc' := 75) (rest := []) 12 rfl rfl rfl rfl rfl rfl (EC.up (l_rLastsOf d X1 _ hI1 (by omega) (k := i) (by rw [hj1]; omega)) (by omega)) ?_
      intro Z6
      refine er_loc (pc' := 76) rfl rfl rfl ?_
      refine er_gf (pc' := 79) (_) rfl rfl rfl rfl rfl ?_
      refine er_k (pc' := 81) (nI 40) rfl rfl rfl ?_
      refine er_loc (pc' := 82) rfl rfl rfl ?_
      refine er_imul (pc' := 83) rfl rfl ?_
      refine er_loc (pc' := 84) rfl rfl rfl ?_
      refine er_iadd (pc' := 85) rfl rfl ?_
      refine er_ia (pc' := 86) (((40 * a) + p)) rfl rfl rfl (by simp only [nI_add, nI_mul]) (by omega) rfl rfl ?_
      refine er_cm_ne (pc' := 89) rfl rfl (fun h86 => ?_) (fun h86 => ?_)
      · refine er_loc (L' := [(3, .int (_ + nI 1)), (0, _), (1, _), (2, _)]) rfl rfl rfl ?_
        refine er_goto rfl ?_
        refine ER_loc [(0, _), (1, _), (2, _), (3, _)] rfl (List.forall_mem_cons.mpr ⟨rfl, List.forall_mem_cons.mpr ⟨rfl, List.forall_mem_cons.mpr ⟨rfl, List.forall_mem_cons.mpr ⟨rfl, fun _ h => absurd h List.not_mem_nil⟩⟩⟩⟩) rfl rfl ?_
        exact l_rFl_loop d F X a g p ha hpg hI hT hrec m (i + 1) _ X1 _ (by omega) (nI_add i 1) hs hsv
      · refine er_loc (pc' := 90) rfl rfl rfl ?_
        refine er_gf (pc' := 93) (_) rfl rfl rfl rfl rfl ?_
        refine er_loc (pc' := 94) rfl rfl rfl ?_
        refine er_loc (pc' := 95) rfl rfl rfl ?_
        refine er_isX (pc' := 96) (p) rfl rfl (fun _ => rfl) rfl (by omega) rfl rfl ?_
        refine er_loc (pc' := 97) rfl rfl rfl ?_
        refine er_loc (pc' := 98) rfl rfl rfl ?_
        refine er_cIw (pc' := 101) (rest := []) 12 rfl rfl rfl rfl rfl rfl (EC.up (l_rIsDone d (ud X1 72 p (nI i)) _ (by rw [ud_ne (by omega)]; exact hI1) hT1 (by rw [ud_ne (by omega), hj1]; exact h67)) (by omega)) ?_
        intro X3 Z3 w3
        have hj3 : jm (X3 64) = jFin (jm (X 64)) i := by rw [w3.j]; exact congrArg (fun J => jFin J i) hj1
        refine er_loc (pc' := 102) rfl rfl rfl ?_
        refine er_loc (pc' := 103) rfl rfl rfl ?_
        refine er_loc (pc' := 104) rfl rfl rfl ?_
        refine er_k (pc' := 105) (nI 1) rfl rfl rfl ?_
        refine er_iadd rfl rfl ?_
        rw [nI_add p 1]
        refine er_cIf (pc' := 109) (rest := []) 12 rfl rfl rfl rfl rfl rfl (hrec X3 Z3 w3.rk (by rw [w3.off (by omega), ud_ne (by omega), hs.1 77 (by omega) (by omega) (by omega) (by omega)])) ?_
        intro X4 Z4 t4
        refine er_loc (pc' := 110) rfl rfl rfl ?_
        refine er_loc (pc' := 111) rfl rfl rfl ?_
        refine er_cIv (pc' := 114) (rest := []) 12 rfl rfl rfl rfl rfl rfl (EC.up (l_rTakes d _ _ (p := p) (by omega)) (by omega)) ?_
        have hrow : cpf (X4 74) (X4 64) (125 * p) 0 125 = X 64 := take_row (X1 := X) (X2 := X) (fun k hk => by rw [t4.2.2.1 _ (by omega), w3.off (by omega), ud_ne (by omega)]; exact hsv k hk) (fun k hk => by rw [t4.2.1, w3.2.2.2 k hk, ud_ne (by omega), hs.2.1])
        intro Z7
        refine er_loc (L' := [(3, .int (_ + nI 1)), (0, _), (1, _), (2, _)]) rfl rfl rfl ?_
        refine er_goto rfl ?_
        refine ER_loc [(0, _), (1, _), (2, _), (3, _)] rfl (List.forall_mem_cons.mpr ⟨rfl, List.forall_mem_cons.mpr ⟨rfl, List.forall_mem_cons.mpr ⟨rfl, List.forall_mem_cons.mpr ⟨rfl, fun _ h => absurd h List.not_mem_nil⟩⟩⟩⟩) rfl rfl ?_
        refine l_rFl_loop d F X a g p ha hpg hI hT hrec m (i + 1) _ _ _ (by omega) (nI_add i 1) ?_ ?_
        · refine ⟨fun c a1 a2 a3 a5 => ?_, by rw [uc_same]; exact hrow, fun k hk => ?_, fun j j1 j2 => ?_⟩
          · rw [uc_ne a2, t4.1 c a1 a2 a3 a5, w3.off a2, ud_ne a3]; exact hs.1 c a1 a2 a3 a5
          · rw [uc_ne (by omega), t4.2.2.1 k (by omega), w3.off (by omega), ud_ne (by omega)]; exact hs.2.2.1 k hk
          · rw [uc_ne (by omega), t4.2.2.2 j j1 j2, w3.off (by omega), ud_ne (by omega)]; exact hs.2.2.2 j j1 j2
        · intro k hk
          rw [uc_ne (by omega), t4.2.2.1 _ (by omega), w3.off (by omega), ud_ne (by omega)]
          exact hsv k hk
set_option maxRecDepth 100000 in
set_option maxHeartbeats 4000000 in
theorem l_rFitsOn (d a g : Nat) (ha : a < 4) (h4 : g ≤ 4) : ∀ (F p : Nat) (X Z : Nat → Nat → Int32) (T : Nat), p + F = g → RK T (X 64) → T + 300 * F < 1000000000 → X 77 a = nI g → EC (d + 6 + F) 197 [.ref 63, .int (nI a), .int (nI p)] (Wd X Z) (RFS p X)
  | 0, p, X, Z, T, hp, hI, hT, hg => by
    refine er_enter (L := [(0, _), (1, _), (2, _)]) rfl rfl rfl ?_
    refine er_loc (pc' := 1) rfl rfl rfl ?_
    refine er_loc (pc' := 2) rfl rfl rfl ?_
    refine er_gf (pc' := 5) (_) rfl rfl rfl rfl rfl ?_
    refine er_loc (pc' := 6) rfl rfl rfl ?_
    refine er_ia (pc' := 7) (a) rfl rfl rfl rfl (by omega) rfl rfl ?_
    rw [hg]
    refine er_cm_neF (pc' := 10) rfl (by rw [show p = g by omega]) rfl ?_
    refine er_loc (pc' := 11) rfl rfl rfl ?_
    refine er_pure (pc' := 12) rfl rfl rfl ?_
    refine er_gf (pc' := 15) (.int (X 63 18)) rfl rfl rfl rfl rfl ?_
    refine er_k (pc' := 16) (nI 1) rfl rfl rfl ?_
    refine er_iadd (pc' := 17) rfl rfl ?_
    refine er_pfIX (pc' := 20) 18 rfl rfl rfl rfl rfl rfl ?_
    refine er_loc (pc' := 21) rfl rfl rfl ?_
    refine er_loc (pc' := 22) rfl rfl rfl ?_
    refine er_gf (pc' := 25) (.int (ud X 63 18 (X 63 18 + nI 1) 63 19)) rfl rfl rfl rfl rfl ?_
    refine er_if_ge (pc' := 28) rfl rfl (fun h25 => ?_) (fun h25 => ?_)
    · refine er_loc (pc' := 38) rfl rfl rfl ?_
      refine er_gf (pc' := 41) (.int (ud X 63 18 (X 63 18 + nI 1) 63 19)) rfl rfl rfl rfl rfl ?_
      refine er_pfIX (pc' := 44) 19 rfl rfl rfl rfl rfl rfl ?_
      refine er_vret rfl rfl ?_
      refine FS_of ⟨fun c a1 a2 a3 a5 => by rw [ud_ne a1, ud_ne a1], by rw [ud_ne (by omega), ud_ne (by omega)], fun k hk => by rw [ud_ne (by omega), ud_ne (by omega)], fun j j1 j2 => ?_⟩
      rw [ud_same, u1_ne j2, ud_same, u1_ne j1]
    · refine er_loc (pc' := 29) rfl rfl rfl ?_
      refine er_gf (pc' := 32) (_) rfl rfl rfl rfl rfl ?_
      refine er_k (pc' := 33) (nI 0) rfl rfl rfl ?_
      refine er_ia (pc' := 34) (0) rfl rfl rfl rfl (by omega) rfl rfl ?_
      refine er_goto rfl ?_
      refine er_pfIX (pc' := 44) 19 rfl rfl rfl rfl rfl rfl ?_
      refine er_vret rfl rfl ?_
      refine FS_of ⟨fun c a1 a2 a3 a5 => by rw [ud_ne a1, ud_ne a1], by rw [ud_ne (by omega), ud_ne (by omega)], fun k hk => by rw [ud_ne (by omega), ud_ne (by omega)], fun j j1 j2 => ?_⟩
      rw [ud_same, u1_ne j2, ud_same, u1_ne j1]
  | F + 1, p, X, Z, T, hp, hI, hT, hg => by
    rw [show d + 6 + (F + 1) = d + 6 + F + 1 by omega]
    refine er_enter (L := [(0, _), (1, _), (2, _)]) rfl rfl rfl ?_
    refine er_loc (pc' := 1) rfl rfl rfl ?_
    refine er_loc (pc' := 2) rfl rfl rfl ?_
    refine er_gf (pc' := 5) (_) rfl rfl rfl rfl rfl ?_
    refine er_loc (pc' := 6) rfl rfl rfl ?_
    refine er_ia (pc' := 7) (a) rfl rfl rfl rfl (by omega) rfl rfl ?_
    rw [hg]
    refine er_cm_neT rfl (fun hh => absurd (nIj (by omega) (by omega) hh) (by omega)) ?_
    refine er_loc (pc' := 46) rfl rfl rfl ?_
    refine er_loc (pc' := 47) rfl rfl rfl ?_
    refine er_cIv (pc' := 50) (rest := []) 12 rfl rfl rfl rfl rfl rfl (EC.up (l_rLays d X _ (p := p) (by omega)) (by omega)) ?_
    intro Z5
    refine er_k (pc' := 51) (nI 0) rfl rfl rfl ?_
    refine er_loc (pc' := 52) (L' := [(3, _), (0, _), (1, _), (2, _)]) rfl rfl rfl ?_
    refine ER_loc [(0, _), (1, _), (2, _), (3, _)] rfl (List.forall_mem_cons.mpr ⟨rfl, List.forall_mem_cons.mpr ⟨rfl, List.forall_mem_cons.mpr ⟨rfl, List.forall_mem_cons.mpr ⟨rfl, fun _ h => absurd h List.not_mem_nil⟩⟩⟩⟩) rfl rfl ?_
    refine l_rFl_loop d F X a g p ha ⟨by omega, h4⟩ hI (by omega) ?_ (jn (jm (X 64))) 0 _ _ _ (by omega) rfl ?_ ?_
    · intro X3 Z3 hI3 h77
      exact l_rFitsOn d a g ha h4 F (p + 1) X3 Z3 (T + 300) (by omega) hI3 (by omega) (by rw [h77]; exact hg)
    · exact ⟨fun c a1 a2 a3 a5 => uc_ne a5, uc_ne (by omega), fun k hk => by rw [uc_same, cpf_at, if_neg (by omega)], fun j _ _ => by rw [uc_ne (by omega)]⟩
    · intro k hk
      rw [uc_same, cpf_at, if_pos ⟨by omega, by omega⟩]
      congr 1
      omega
def OM (X X' : Nat → Nat → Int32) : Prop := (∀ c, c ≠ 63 → c ≠ 64 → c ≠ 66 → c ≠ 67 → c ≠ 72 → c ≠ 73 → c ≠ 74 → X' c = X c) ∧ X' 63 3 = X 63 3 ∧ X' 63 21 = X 63 21
theorem OM.err {X X' : Nat → Nat → Int32} {k : Nat} (h : OM X X') : OM X (yErr X' k) := ⟨fun c a1 a2 a3 a4 a5 a6 a7 => by unfold yErr; rw [ud_ne a4]; exact h.1 c a1 a2 a3 a4 a5 a6 a7, by unfold yErr; rw [ud_ne (by omega)]; exact h.2.1, by unfold yErr; rw [ud_ne (by omega)]; exact h.2.2⟩
theorem OM.rf (X : Nat → Nat → Int32) : OM X X := ⟨fun _ _ _ _ _ _ _ _ => rfl, rfl, rfl⟩
def ROs (X : Nat → Nat → Int32) : ab_R → Prop := fun r => ∃ v X' Z', r = (some (.int v), Wd X' Z') ∧ X' 64 = X 64 ∧ OM X X'
theorem ROs_of {v : Int32} {X X' Z : Nat → Nat → Int32} (h1 : X' 64 = X 64) (h : OM X X') : ROs X (some (.int v), Wd X' Z) := ⟨v, X', Z, rfl, h1, h⟩
theorem ROs_err {k : Nat} {v : Int32} {X X' Z : Nat → Nat → Int32} (h1 : X' 64 = X 64) (h : OM X X') : ROs X (some (.int v), Wd (yErr X' k) Z) := ROs_of (by unfold yErr; rw [ud_ne (by omega)]; exact h1) h.err
theorem FS_OM {X X4 : Nat → Nat → Int32} (t4 : FS 0 (ud (ud X 63 18 (nI 0)) 63 19 (-1)) X4) : X4 64 = X 64 ∧ OM X X4 := by
  refine ⟨by rw [t4.2.1, ud_ne (by omega), ud_ne (by omega)], fun c a1 a2 a3 a4 a5 a6 a7 => by rw [t4.1 c a1 a2 a5 a7, ud_ne a1, ud_ne a1], ?_, ?_⟩
  · rw [t4.2.2.2 3 (by omega) (by omega), ud_same, u1_ne (by omega), ud_same, u1_ne (by omega)]
  · rw [t4.2.2.2 21 (by omega) (by omega), ud_same, u1_ne (by omega), ud_same, u1_ne (by omega)]
set_option maxRecDepth 100000 in
set_option maxHeartbeats 4000000 in
theorem l_rOrders_no (d : Nat) (X Z : Nat → Nat → Int32) (s w : Int32) (hs : (sIn s (nI 0) (nI 3) && sIn w (nI 0) (nI 1)) = false) : EC (d + 3) 195 [.ref 63, .int s, .int w] (Wd X Z) (RI (sErr 1) (yErr X 1)) := by
  refine er_enter (L := [(0, _), (1, _), (2, _)]) rfl rfl rfl ?_
  refine er_loc (pc' := 1) rfl rfl rfl ?_
  refine er_cSi (pc' := 4) (rest := []) rfl rfl rfl (l_mSheet _ _ _) ?_
  refine er_if_eqb (pc' := 7) rfl rfl (fun h4 => ?_) (fun h4 => ?_)
  · refine er_loc (pc' := 17) rfl rfl rfl ?_
    refine er_ldc (pc' := 19) (-1000000001) rfl rfl rfl rfl rfl ?_
    refine er_cIz (pc' := 22) (rest := []) 12 rfl rfl rfl rfl rfl rfl (l_rError1 _ _ _) ?_
    intro Z9
    refine er_iret rfl rfl ?_
    exact RI_of rfl rfl
  · refine er_loc (pc' := 8) rfl rfl rfl ?_
    refine er_k (pc' := 9) (nI 0) rfl rfl rfl ?_
    refine er_k (pc' := 10) (nI 1) rfl rfl rfl ?_
    refine er_cSi (pc' := 13) (rest := []) rfl rfl rfl (l_in _ _ _ _ _) ?_
    refine er_if_neb (pc' := 16) rfl rfl (fun h13 => ?_) (fun h13 => ?_)
    · exact absurd hs (by rw [h4, h13]; decide)
    · refine er_loc (pc' := 17) rfl rfl rfl ?_
      refine er_ldc (pc' := 19) (-1000000001) rfl rfl rfl rfl rfl ?_
      refine er_cIz (pc' := 22) (rest := []) 12 rfl rfl rfl rfl rfl rfl (l_rError1 _ _ _) ?_
      intro Z9
      refine er_iret rfl rfl ?_
      exact RI_of rfl rfl
set_option maxRecDepth 100000 in
set_option maxHeartbeats 4000000 in
theorem l_rOrders (d : Nat) (X Z : Nat → Nat → Int32) {T : Nat} (hI : RK T (X 64)) (hT9 : T < 1000000) {a : Nat} (ha : a < 4) (w : Int32) (hw : sIn w (nI 0) (nI 1) = true) {g : Nat} (hg : X 77 a = nI g) (h40 : g ≤ 40) : EC (d + 12) 195 [.ref 63, .int (nI a), .int w] (Wd X Z) (ROs X) := by
  refine er_enter (L := [(0, _), (1, _), (2, _)]) rfl rfl rfl ?_
  refine er_loc (pc' := 1) rfl rfl rfl ?_
  refine er_cSi (pc' := 4) (rest := []) rfl rfl rfl (l_mSheet _ _ _) ?_
  rw [sIn_t (Nat.zero_le _) (show a ≤ 3 by omega) (by omega)]
  refine er_if_eqF (pc' := 7) rfl (by decide +kernel) rfl ?_
  refine er_loc (pc' := 8) rfl rfl rfl ?_
  refine er_k (pc' := 9) (nI 0) rfl rfl rfl ?_
  refine er_k (pc' := 10) (nI 1) rfl rfl rfl ?_
  refine er_cSi (pc' := 13) (rest := []) rfl rfl rfl (l_in _ _ _ _ _) ?_
  rw [hw]
  refine er_if_neT rfl (by decide +kernel) ?_
  refine er_loc (pc' := 24) rfl rfl rfl ?_
  refine er_gf (pc' := 27) (_) rfl rfl rfl rfl rfl ?_
  refine er_loc (pc' := 28) rfl rfl rfl ?_
  refine er_ia (pc' := 29) (a) rfl rfl rfl rfl ha rfl rfl ?_
  refine er_if_eq (pc' := 32) rfl rfl (fun h29 => ?_) (fun h29 => ?_)
  · refine er_loc (pc' := 47) rfl rfl rfl ?_
    refine er_ldc (pc' := 49) (-1000000002) rfl rfl rfl rfl rfl ?_
    refine er_cIz (pc' := 52) (rest := []) 12 rfl rfl rfl rfl rfl rfl (l_rError2 _ _ _) ?_
    intro Z9
    refine er_iret rfl rfl ?_
    exact ROs_err rfl (OM.rf X)
  · refine er_loc (pc' := 33) rfl rfl rfl ?_
    refine er_gf (pc' := 36) (_) rfl rfl rfl rfl rfl ?_
    refine er_loc (pc' := 37) rfl rfl rfl ?_
    refine er_ia (pc' := 38) (a) rfl rfl rfl rfl (by omega) rfl rfl ?_
    refine er_k (pc' := 39) (nI 1) rfl rfl rfl ?_
    refine er_k (pc' := 40) (nI 4) rfl rfl rfl ?_
    refine er_cSi (pc' := 43) (rest := []) rfl rfl rfl (l_in _ _ _ _ _) ?_
    refine er_if_neb (pc' := 46) rfl rfl (fun h43 => ?_) (fun h43 => ?_)
    · obtain ⟨q, q1, q4, hq⟩ := sIn_ex (by omega) (by omega) h43
      have hgq : g = q := nIj (by omega) (by omega) (hg.symm.trans hq)
      refine er_loc (pc' := 54) rfl rfl rfl ?_
      refine er_k (pc' := 55) (nI 0) rfl rfl rfl ?_
      refine er_pfIX (pc' := 58) 18 rfl rfl rfl rfl rfl rfl ?_
      refine er_loc (pc' := 59) rfl rfl rfl ?_
      refine er_k (pc' := 60) (-1) rfl rfl rfl ?_
      refine er_pfIX (pc' := 63) 19 rfl rfl rfl rfl rfl rfl ?_
      refine er_loc (pc' := 64) rfl rfl rfl ?_
      refine er_loc (pc' := 65) rfl rfl rfl ?_
      refine er_k (pc' := 66) (nI 0) rfl rfl rfl ?_
      refine er_cIf (pc' := 69) (rest := []) 12 rfl rfl rfl rfl rfl rfl (EC.up (l_rFitsOn d a g ha (by omega) g 0 (ud (ud X 63 18 (nI 0)) 63 19 (-1)) _ T (by omega) hI (by omega) (by rw [ud_ne (by omega), ud_ne (by omega)]; exact hg)) (by omega)) ?_
      intro X4 Z4 t4
      obtain ⟨e64, om⟩ := FS_OM t4
      refine er_loc (pc' := 70) rfl rfl rfl ?_
      refine er_if_ne (pc' := 73) rfl rfl (fun h70 => ?_) (fun h70 => ?_)
      · refine er_loc (pc' := 81) rfl rfl rfl ?_
        refine er_gf (pc' := 84) (.int (X4 63 19)) rfl rfl rfl rfl rfl ?_
        refine er_if_ge (pc' := 87) rfl rfl (fun h84 => ?_) (fun h84 => ?_)
        · refine er_loc (pc' := 97) rfl rfl rfl ?_
          refine er_gf (pc' := 100) (.int (X4 63 19)) rfl rfl rfl rfl rfl ?_
          refine er_iret rfl rfl ?_
          exact ROs_of e64 om
        · refine er_loc (pc' := 88) rfl rfl rfl ?_
          refine er_ldc (pc' := 90) (-1000000002) rfl rfl rfl rfl rfl ?_
          refine er_cIz (pc' := 93) (rest := []) 12 rfl rfl rfl rfl rfl rfl (l_rError2 _ _ _) ?_
          intro Z9
          refine er_goto rfl ?_
          refine er_iret rfl rfl ?_
          exact ROs_err e64 om
      · refine er_loc (pc' := 74) rfl rfl rfl ?_
        refine er_gf (pc' := 77) (.int (X4 63 18)) rfl rfl rfl rfl rfl ?_
        refine er_goto rfl ?_
        refine er_iret rfl rfl ?_
        exact ROs_of e64 om
    · refine er_loc (pc' := 47) rfl rfl rfl ?_
      refine er_ldc (pc' := 49) (-1000000002) rfl rfl rfl rfl rfl ?_
      refine er_cIz (pc' := 52) (rest := []) 12 rfl rfl rfl rfl rfl rfl (l_rError2 _ _ _) ?_
      intro Z9
      refine er_iret rfl rfl ?_
      exact ROs_err rfl (OM.rf X)
end
section
/-! THE REFERENCE, its face: sheets -/
set_option maxRecDepth 100000 in
set_option maxHeartbeats 4000000 in
theorem l_rNot_s (d : Nat) (X Z : Nat → Nat → Int32) {s : Int32} (hs : sIn s (nI 0) (nI 3) = false) : EC (d + 3) 215 [.ref 63, .int s] (Wd X Z) (PI (-1000000001) (Wd X Z)) := by
  refine er_enter (L := [(0, _), (1, _)]) rfl rfl rfl ?_
  refine er_loc (pc' := 1) rfl rfl rfl ?_
  refine er_cSi (pc' := 4) (rest := []) rfl rfl rfl (l_mSheet _ _ _) ?_
  rw [hs]
  refine er_if_neF (pc' := 7) rfl (by decide +kernel) rfl ?_
  refine er_ldc (pc' := 9) (-1000000001) rfl rfl rfl rfl rfl ?_
  refine er_goto rfl ?_
  refine er_iret rfl rfl ?_
  exact PI_of rfl
set_option maxRecDepth 100000 in
set_option maxHeartbeats 4000000 in
theorem l_rNot_0 (d : Nat) (X Z : Nat → Nat → Int32) {a : Nat} (ha : a < 4) (hb : X 76 a = 0) : EC (d + 3) 215 [.ref 63, .int (nI a)] (Wd X Z) (PI (-1000000002) (Wd X Z)) := by
  refine er_enter (L := [(0, _), (1, _)]) rfl rfl rfl ?_
  refine er_loc (pc' := 1) rfl rfl rfl ?_
  refine er_cSi (pc' := 4) (rest := []) rfl rfl rfl (l_mSheet _ _ _) ?_
  rw [sIn_t (Nat.zero_le _) (show _ ≤ 3 by omega) (by omega)]
  refine er_if_neT rfl (by decide +kernel) ?_
  refine er_loc (pc' := 13) rfl rfl rfl ?_
  refine er_gf (pc' := 16) (_) rfl rfl rfl rfl rfl ?_
  refine er_loc (pc' := 17) rfl rfl rfl ?_
  refine er_ia (pc' := 18) (a) rfl rfl rfl rfl ha rfl rfl ?_
  refine er_if_neF (pc' := 21) rfl (hb) rfl ?_
  refine er_ldc (pc' := 23) (-1000000002) rfl rfl rfl rfl rfl ?_
  refine er_goto rfl ?_
  refine er_iret rfl rfl ?_
  exact PI_of rfl
set_option maxRecDepth 100000 in
set_option maxHeartbeats 4000000 in
theorem l_rNot_1 (d : Nat) (X Z : Nat → Nat → Int32) {a : Nat} (ha : a < 4) (hb : ¬ X 76 a = 0) : EC (d + 3) 215 [.ref 63, .int (nI a)] (Wd X Z) (PI (nI 0) (Wd X Z)) := by
  refine er_enter (L := [(0, _), (1, _)]) rfl rfl rfl ?_
  refine er_loc (pc' := 1) rfl rfl rfl ?_
  refine er_cSi (pc' := 4) (rest := []) rfl rfl rfl (l_mSheet _ _ _) ?_
  rw [sIn_t (Nat.zero_le _) (show _ ≤ 3 by omega) (by omega)]
  refine er_if_neT rfl (by decide +kernel) ?_
  refine er_loc (pc' := 13) rfl rfl rfl ?_
  refine er_gf (pc' := 16) (_) rfl rfl rfl rfl rfl ?_
  refine er_loc (pc' := 17) rfl rfl rfl ?_
  refine er_ia (pc' := 18) (a) rfl rfl rfl rfl ha rfl rfl ?_
  refine er_if_neT rfl (hb) ?_
  refine er_k (pc' := 27) (nI 0) rfl rfl rfl ?_
  refine er_iret rfl rfl ?_
  exact PI_of rfl
def yLow (v b : Int32) : Int32 := if b = nI 8 then v.toInt8.toInt32 else if b = nI 16 then v.toInt16.toInt32 else v
set_option maxRecDepth 100000 in
set_option maxHeartbeats 4000000 in
theorem l_rPut_no (d : Nat) (X Z : Nat → Nat → Int32) (s i v : Int32) (hs : sIn s (nI 0) (nI 3) = false) : EC (d + 4) 214 [.ref 63, .int s, .int i, .int v] (Wd X Z) (RI (sErr 1) (yErr X 1)) := by
  refine er_enter (L := [(0, _), (1, _), (2, _), (3, _)]) rfl rfl rfl ?_
  refine er_loc (pc' := 1) rfl rfl rfl ?_
  refine er_loc (pc' := 2) rfl rfl rfl ?_
  refine er_cIi (pc' := 5) (rest := []) 12 rfl rfl rfl rfl rfl rfl (l_rNot_s _ _ _ hs) ?_
  refine er_loc (pc' := 7) (L' := [(4, _), (0, _), (1, _), (2, _), (3, _)]) rfl rfl rfl ?_
  refine er_loc (pc' := 9) rfl rfl rfl ?_
  refine er_if_neT rfl (by decide +kernel) ?_
  refine er_loc (pc' := 35) rfl rfl rfl ?_
  refine er_loc (pc' := 37) (L' := [(4, _), (0, _), (1, _), (2, _), (3, _)]) rfl rfl rfl ?_
  refine er_loc (pc' := 39) rfl rfl rfl ?_
  refine er_if_eqF (pc' := 42) rfl (by decide +kernel) rfl ?_
  refine er_loc (pc' := 43) rfl rfl rfl ?_
  refine er_loc (pc' := 45) rfl rfl rfl ?_
  refine er_cIz (pc' := 48) (rest := []) 12 rfl rfl rfl rfl rfl rfl (l_rError1 _ _ _) ?_
  intro Z9
  refine er_iret rfl rfl ?_
  exact RI_of rfl rfl
set_option maxRecDepth 100000 in
set_option maxHeartbeats 4000000 in
theorem l_rPut_0 (d : Nat) (X Z : Nat → Nat → Int32) {a : Nat} (ha : a < 4) (hb : X 76 a = 0) (i v : Int32) : EC (d + 4) 214 [.ref 63, .int (nI a), .int i, .int v] (Wd X Z) (RI (sErr 2) (yErr X 2)) := by
  refine er_enter (L := [(0, _), (1, _), (2, _), (3, _)]) rfl rfl rfl ?_
  refine er_loc (pc' := 1) rfl rfl rfl ?_
  refine er_loc (pc' := 2) rfl rfl rfl ?_
  refine er_cIi (pc' := 5) (rest := []) 12 rfl rfl rfl rfl rfl rfl (l_rNot_0 _ _ _ ha hb) ?_
  refine er_loc (pc' := 7) (L' := [(4, _), (0, _), (1, _), (2, _), (3, _)]) rfl rfl rfl ?_
  refine er_loc (pc' := 9) rfl rfl rfl ?_
  refine er_if_neT rfl (by decide +kernel) ?_
  refine er_loc (pc' := 35) rfl rfl rfl ?_
  refine er_loc (pc' := 37) (L' := [(4, _), (0, _), (1, _), (2, _), (3, _)]) rfl rfl rfl ?_
  refine er_loc (pc' := 39) rfl rfl rfl ?_
  refine er_if_eqF (pc' := 42) rfl (by decide +kernel) rfl ?_
  refine er_loc (pc' := 43) rfl rfl rfl ?_
  refine er_loc (pc' := 45) rfl rfl rfl ?_
  refine er_cIz (pc' := 48) (rest := []) 12 rfl rfl rfl rfl rfl rfl (l_rError2 _ _ _) ?_
  intro Z9
  refine er_iret rfl rfl ?_
  exact RI_of rfl rfl
set_option maxRecDepth 100000 in
set_option maxHeartbeats 4000000 in
theorem l_rPut (d : Nat) (X Z : Nat → Nat → Int32) {a : Nat} (ha : a < 4) (hb : ¬ X 76 a = 0) (i v : Int32) {g : Nat} (hg : X 77 a = nI g) (h40 : g ≤ 40) : EC (d + 4) 214 [.ref 63, .int (nI a), .int i, .int v] (Wd X Z) (fun r => if sIn i (nI 0) (nI g - nI 1) = true then RI (nI 1) (ud X 78 (40 * a + nN i) (yLow v (X 76 a))) r else RI (sErr 1) (yErr X 1) r) := by
  refine er_enter (L := [(0, _), (1, _), (2, _), (3, _)]) rfl rfl rfl ?_
  refine er_loc (pc' := 1) rfl rfl rfl ?_
  refine er_loc (pc' := 2) rfl rfl rfl ?_
  refine er_cIi (pc' := 5) (rest := []) 12 rfl rfl rfl rfl rfl rfl (l_rNot_1 _ _ _ ha hb) ?_
  refine er_loc (pc' := 7) (L' := [(4, _), (0, _), (1, _), (2, _), (3, _)]) rfl rfl rfl ?_
  refine er_loc (pc' := 9) rfl rfl rfl ?_
  refine er_if_neF (pc' := 12) rfl (by decide +kernel) rfl ?_
  refine er_loc (pc' := 13) rfl rfl rfl ?_
  refine er_k (pc' := 14) (nI 0) rfl rfl rfl ?_
  refine er_loc (pc' := 15) rfl rfl rfl ?_
  refine er_gf (pc' := 18) (_) rfl rfl rfl rfl rfl ?_
  refine er_loc (pc' := 19) rfl rfl rfl ?_
  refine er_ia (pc' := 20) (a) rfl rfl rfl rfl ha rfl rfl ?_
  rw [hg]
  refine er_k (pc' := 21) (nI 1) rfl rfl rfl ?_
  refine er_isub (pc' := 22) rfl rfl ?_
  refine er_cSi (pc' := 25) (rest := []) rfl rfl rfl (l_in _ _ _ _ _) ?_
  refine er_if_neb (pc' := 28) rfl rfl (fun h25 => ?_) (fun h25 => ?_)
  · obtain ⟨j, hj, rfl⟩ := sIn_lt (by omega) h25
    have hj2 : nN (nI j) = j := nN_nI (by omega)
    refine er_loc (pc' := 35) rfl rfl rfl ?_
    refine er_loc (pc' := 37) (L' := [(4, _), (0, _), (1, _), (2, _), (3, _)]) rfl rfl rfl ?_
    refine er_loc (pc' := 39) rfl rfl rfl ?_
    refine er_if_eqT rfl (by decide +kernel) ?_
    refine er_loc (pc' := 50) rfl rfl rfl ?_
    refine er_gf (pc' := 53) (_) rfl rfl rfl rfl rfl ?_
    refine er_k (pc' := 55) (nI 40) rfl rfl rfl ?_
    refine er_loc (pc' := 56) rfl rfl rfl ?_
    refine er_imul (pc' := 57) rfl rfl ?_
    refine er_loc (pc' := 58) rfl rfl rfl ?_
    refine er_iadd rfl rfl ?_
    rw [nI_mul 40 a, nI_add (40 * a) j]
    refine er_loc (pc' := 60) rfl rfl rfl ?_
    refine er_gf (pc' := 63) (_) rfl rfl rfl rfl rfl ?_
    refine er_loc (pc' := 64) rfl rfl rfl ?_
    refine er_ia (pc' := 65) (a) rfl rfl rfl rfl ha rfl rfl ?_
    refine er_k (pc' := 67) (nI 8) rfl rfl rfl ?_
    refine er_cm_ne (pc' := 70) rfl rfl (fun h67 => ?_) (fun h67 => ?_)
    · refine er_loc (pc' := 76) rfl rfl rfl ?_
      refine er_gf (pc' := 79) (_) rfl rfl rfl rfl rfl ?_
      refine er_loc (pc' := 80) rfl rfl rfl ?_
      refine er_ia (pc' := 81) (a) rfl rfl rfl rfl ha rfl rfl ?_
      refine er_k (pc' := 83) (nI 16) rfl rfl rfl ?_
      refine er_cm_ne (pc' := 86) rfl rfl (fun h83 => ?_) (fun h83 => ?_)
      · refine er_loc rfl rfl rfl ?_
        refine er_isX (pc' := 93) ((40 * a + j)) rfl rfl (fun _ => rfl) (by simp only [nI_add, nI_mul]) (by omega) rfl rfl ?_
        refine er_k (pc' := 94) (nI 1) rfl rfl rfl ?_
        refine er_iret rfl rfl ?_
        rw [if_pos h25, hj2]
        refine RI_of rfl ?_
        rw [show yLow v (X 76 a) = v from (if_neg h67).trans (if_neg h83)]
      · refine er_loc rfl rfl rfl ?_
        refine er_i2s (pc' := 88) rfl rfl ?_
        refine er_goto rfl ?_
        refine er_isX (pc' := 93) ((40 * a + j)) rfl rfl (fun _ => rfl) (by simp only [nI_add, nI_mul]) (by omega) rfl rfl ?_
        refine er_k (pc' := 94) (nI 1) rfl rfl rfl ?_
        refine er_iret rfl rfl ?_
        rw [if_pos h25, hj2]
        refine RI_of rfl ?_
        rw [show yLow v (X 76 a) = v.toInt16.toInt32 from (if_neg h67).trans (if_pos h83)]
    · refine er_loc rfl rfl rfl ?_
      refine er_i2b (pc' := 72) rfl rfl ?_
      refine er_goto rfl ?_
      refine er_isX (pc' := 93) ((40 * a + j)) rfl rfl (fun _ => rfl) (by simp only [nI_add, nI_mul]) (by omega) rfl rfl ?_
      refine er_k (pc' := 94) (nI 1) rfl rfl rfl ?_
      refine er_iret rfl rfl ?_
      rw [if_pos h25, hj2]
      refine RI_of rfl ?_
      rw [show yLow v (X 76 a) = v.toInt8.toInt32 from if_pos h67]
  · refine er_ldc (pc' := 30) (-1000000001) rfl rfl rfl rfl rfl ?_
    refine er_goto rfl ?_
    refine er_loc (pc' := 37) (L' := [(4, _), (0, _), (1, _), (2, _), (3, _)]) rfl rfl rfl ?_
    refine er_loc (pc' := 39) rfl rfl rfl ?_
    refine er_if_eqF (pc' := 42) rfl (by decide +kernel) rfl ?_
    refine er_loc (pc' := 43) rfl rfl rfl ?_
    refine er_loc (pc' := 45) rfl rfl rfl ?_
    refine er_cIz (pc' := 48) (rest := []) 12 rfl rfl rfl rfl rfl rfl (l_rError1 _ _ _) ?_
    intro Z9
    refine er_iret rfl rfl ?_
    rw [if_neg (by rw [h25]; decide)]
    exact RI_of rfl rfl
def zs (f : Nat → Int32) (q i : Nat) : Nat → Int32 := fun j => if q ≤ j ∧ j < q + i then nI 0 else f j
theorem zs_0 {f : Nat → Int32} {q : Nat} : zs f q 0 = f := by
  funext j
  exact if_neg (by omega)
theorem zs_s {f : Nat → Int32} {q i : Nat} : u1 (zs f q i) (q + i) (nI 0) = zs f q (i + 1) := by
  funext j
  rw [u1_at]
  show _ = if q ≤ j ∧ j < q + (i + 1) then nI 0 else f j
  by_cases h : j = q + i
  · subst h
    rw [if_pos rfl, if_pos ⟨by omega, by omega⟩]
  · rw [if_neg h]
    show (if q ≤ j ∧ j < q + i then nI 0 else f j) = _
    by_cases h2 : q ≤ j ∧ j < q + i
    · rw [if_pos h2, if_pos ⟨h2.1, by omega⟩]
    · rw [if_neg h2, if_neg (fun hh => h2 ⟨hh.1, by omega⟩)]
def ySheet (X : Nat → Nat → Int32) (a : Nat) (b n : Int32) : Nat → Nat → Int32 := uc (ud (ud X 76 a b) 77 a n) 78 (zs (X 78) (40 * a) 40)
set_option maxRecDepth 100000 in
set_option maxHeartbeats 4000000 in
theorem l_rSh_loop (d : Nat) (X Z : Nat → Nat → Int32) {a : Nat} (ha : a < 4) : ∀ (m i : Nat) (x : Int32), i + m = 40 → x = nI i → ER (d + 1) tb_m213 93 [(0, .ref 63), (1, .int (nI a)), (4, .int x)] [] (Wd (uc X 78 (zs (X 78) (40 * a) i)) Z) (RI (nI 1) (uc X 78 (zs (X 78) (40 * a) 40)))
  | 0, i, x, hi, h0 => by
    have hi0 : i = 40 := by omega
    subst h0
    subst hi0
    refine er_loc (pc' := 95) rfl rfl rfl ?_
    refine er_k (pc' := 97) (nI 40) rfl rfl rfl ?_
    refine er_cm_geT rfl (nI_nlt (by omega) (by omega)) ?_
    refine er_k (pc' := 120) (nI 1) rfl rfl rfl ?_
    refine er_iret rfl rfl ?_
    exact RI_of rfl rfl
  | m + 1, i, x, hi, h0 => by
    subst h0
    refine er_loc (pc' := 95) rfl rfl rfl ?_
    refine er_k (pc' := 97) (nI 40) rfl rfl rfl ?_
    refine er_cm_geF (pc' := 100) rfl (nI_lt (by omega) (by omega)) rfl ?_
    refine er_loc (pc' := 101) rfl rfl rfl ?_
    refine er_gf (pc' := 104) (_) rfl rfl rfl rfl rfl ?_
    refine er_k (pc' := 106) (nI 40) rfl rfl rfl ?_
    refine er_loc (pc' := 107) rfl rfl rfl ?_
    refine er_imul (pc' := 108) rfl rfl ?_
    refine er_loc (pc' := 110) rfl rfl rfl ?_
    refine er_iadd (pc' := 111) rfl rfl ?_
    refine er_k (pc' := 112) (nI 0) rfl rfl rfl ?_
    refine er_isX (pc' := 113) (((40 * a) + i)) rfl rfl (fun _ => rfl) (by simp only [nI_add, nI_mul]) (by omega) rfl rfl ?_
    refine er_loc (L' := [(4, .int (_ + nI 1)), (0, _), (1, _)]) rfl rfl rfl ?_
    refine er_goto rfl ?_
    refine ER_loc [(0, _), (1, _), (4, _)] rfl (List.forall_mem_cons.mpr ⟨rfl, List.forall_mem_cons.mpr ⟨rfl, List.forall_mem_cons.mpr ⟨rfl, fun _ h => absurd h List.not_mem_nil⟩⟩⟩) rfl rfl ?_
    have ih := l_rSh_loop d X Z ha m (i + 1) _ (by omega) (nI_add i 1)
    rw [show ud (uc X 78 (zs (X 78) (40 * a) i)) 78 (40 * a + i) (nI 0) = uc X 78 (zs (X 78) (40 * a) (i + 1)) from by unfold ud; rw [uc_uc, uc_same, zs_s]]
    exact ih
set_option maxRecDepth 100000 in
set_option maxHeartbeats 4000000 in
theorem l_rSheet_ns (d : Nat) (X Z : Nat → Nat → Int32) (s b n : Int32) (hs : sIn s (nI 0) (nI 3) = false) : EC (d + 3) 213 [.ref 63, .int s, .int b, .int n] (Wd X Z) (RI (sErr 1) (yErr X 1)) := by
  refine er_enter (L := [(0, _), (1, _), (2, _), (3, _)]) rfl rfl rfl ?_
  refine er_loc (pc' := 1) rfl rfl rfl ?_
  refine er_cSi (pc' := 4) (rest := []) rfl rfl rfl (l_mSheet _ _ _) ?_
  rw [hs]
  refine er_if_eqT rfl (by decide +kernel) ?_
  refine er_loc (pc' := 30) rfl rfl rfl ?_
  refine er_ldc (pc' := 32) (-1000000001) rfl rfl rfl rfl rfl ?_
  refine er_cIz (pc' := 35) (rest := []) 12 rfl rfl rfl rfl rfl rfl (l_rError1 _ _ _) ?_
  intro Z9
  refine er_iret rfl rfl ?_
  exact RI_of rfl rfl
set_option maxRecDepth 100000 in
set_option maxHeartbeats 4000000 in
theorem l_rSheet_nb (d : Nat) (X Z : Nat → Nat → Int32) {a : Nat} (ha : a < 4) (b n : Int32) (hb : sBits b = false) : EC (d + 3) 213 [.ref 63, .int (nI a), .int b, .int n] (Wd X Z) (RI (sErr 1) (yErr X 1)) := by
  unfold sBits at hb
  simp only [Bool.or_eq_false_iff, decide_eq_false_iff_not] at hb
  refine er_enter (L := [(0, _), (1, _), (2, _), (3, _)]) rfl rfl rfl ?_
  refine er_loc (pc' := 1) rfl rfl rfl ?_
  refine er_cSi (pc' := 4) (rest := []) rfl rfl rfl (l_mSheet _ _ _) ?_
  rw [sIn_t (Nat.zero_le _) (show _ ≤ 3 by omega) (by omega)]
  refine er_if_eqF (pc' := 7) rfl (by decide +kernel) rfl ?_
  refine er_loc (pc' := 8) rfl rfl rfl ?_
  refine er_if_eqF (pc' := 11) rfl (hb.1) rfl ?_
  refine er_loc (pc' := 12) rfl rfl rfl ?_
  refine er_k (pc' := 14) (nI 8) rfl rfl rfl ?_
  refine er_cm_eqF (pc' := 17) rfl (hb.2.1) rfl ?_
  refine er_loc (pc' := 18) rfl rfl rfl ?_
  refine er_k (pc' := 20) (nI 16) rfl rfl rfl ?_
  refine er_cm_eqF (pc' := 23) rfl (hb.2.2.1) rfl ?_
  refine er_loc (pc' := 24) rfl rfl rfl ?_
  refine er_k (pc' := 26) (nI 32) rfl rfl rfl ?_
  refine er_cm_eqF (pc' := 29) rfl (hb.2.2.2) rfl ?_
  refine er_loc (pc' := 30) rfl rfl rfl ?_
  refine er_ldc (pc' := 32) (-1000000001) rfl rfl rfl rfl rfl ?_
  refine er_cIz (pc' := 35) (rest := []) 12 rfl rfl rfl rfl rfl rfl (l_rError1 _ _ _) ?_
  intro Z9
  refine er_iret rfl rfl ?_
  exact RI_of rfl rfl
set_option maxRecDepth 100000 in
set_option maxHeartbeats 4000000 in
theorem l_rSheet0 (d : Nat) (X Z : Nat → Nat → Int32) {a : Nat} (ha : a < 4) (n : Int32) : EC (d + 3) 213 [.ref 63, .int (nI a), .int (nI 0), .int n] (Wd X Z) (RI (nI 1) (ySheet X a (nI 0) (nI 0))) := by
  refine er_enter (L := [(0, _), (1, _), (2, _), (3, _)]) rfl rfl rfl ?_
  refine er_loc (pc' := 1) rfl rfl rfl ?_
  refine er_cSi (pc' := 4) (rest := []) rfl rfl rfl (l_mSheet _ _ _) ?_
  rw [sIn_t (Nat.zero_le _) (show _ ≤ 3 by omega) (by omega)]
  refine er_if_eqF (pc' := 7) rfl (by decide +kernel) rfl ?_
  refine er_loc (pc' := 8) rfl rfl rfl ?_
  refine er_if_eqT rfl (rfl) ?_
  refine er_loc (pc' := 37) rfl rfl rfl ?_
  refine er_if_leT rfl (by decide +kernel) ?_
  refine er_loc (pc' := 52) rfl rfl rfl ?_
  refine er_if_leT rfl (by decide +kernel) ?_
  refine er_loc (pc' := 69) rfl rfl rfl ?_
  refine er_gf (pc' := 72) (_) rfl rfl rfl rfl rfl ?_
  refine er_loc (pc' := 73) rfl rfl rfl ?_
  refine er_loc (pc' := 74) rfl rfl rfl ?_
  refine er_isX (pc' := 75) (a) rfl rfl (fun _ => rfl) rfl ha rfl rfl ?_
  refine er_loc (pc' := 76) rfl rfl rfl ?_
  refine er_gf (pc' := 79) (_) rfl rfl rfl rfl rfl ?_
  refine er_loc (pc' := 80) rfl rfl rfl ?_
  refine er_loc (pc' := 81) rfl rfl rfl ?_
  refine er_if_neF (pc' := 84) rfl (by decide +kernel) rfl ?_
  refine er_k (pc' := 85) (nI 0) rfl rfl rfl ?_
  refine er_goto rfl ?_
  refine er_isX (pc' := 90) (a) rfl rfl (fun _ => rfl) rfl ha rfl rfl ?_
  refine er_k (pc' := 91) (nI 0) rfl rfl rfl ?_
  refine er_loc (pc' := 93) (L' := [(4, _), (0, _), (1, _), (2, _), (3, _)]) rfl rfl rfl ?_
  refine ER_loc [(0, _), (1, _), (4, _)] rfl (List.forall_mem_cons.mpr ⟨rfl, List.forall_mem_cons.mpr ⟨rfl, List.forall_mem_cons.mpr ⟨rfl, fun _ h => absurd h List.not_mem_nil⟩⟩⟩) rfl rfl ?_
  have h := l_rSh_loop (d + 1) (ud (ud X 76 a (nI 0)) 77 a (nI 0)) Z ha 40 0 (nI 0) (by omega) rfl
  rw [zs_0, uc_id, show ud (ud X 76 a (nI 0)) 77 a (nI 0) 78 = X 78 from by rw [ud_ne (by omega), ud_ne (by omega)]] at h
  exact h
set_option maxRecDepth 100000 in
set_option maxHeartbeats 4000000 in
theorem l_rSheet8 (d : Nat) (X Z : Nat → Nat → Int32) {a : Nat} (ha : a < 4) (n : Int32) : EC (d + 3) 213 [.ref 63, .int (nI a), .int (nI 8), .int n] (Wd X Z) (fun r => if n < 0 then RI (sErr 3) (yErr X 3) r else if nI 40 < n then RI (sErr 1) (yErr X 1) r else RI (nI 1) (ySheet X a (nI 8) n) r) := by
  refine er_enter (L := [(0, _), (1, _), (2, _), (3, _)]) rfl rfl rfl ?_
  refine er_loc (pc' := 1) rfl rfl rfl ?_
  refine er_cSi (pc' := 4) (rest := []) rfl rfl rfl (l_mSheet _ _ _) ?_
  rw [sIn_t (Nat.zero_le _) (show _ ≤ 3 by omega) (by omega)]
  refine er_if_eqF (pc' := 7) rfl (by decide +kernel) rfl ?_
  refine er_loc (pc' := 8) rfl rfl rfl ?_
  refine er_if_eqF (pc' := 11) rfl (by decide +kernel) rfl ?_
  refine er_loc (pc' := 12) rfl rfl rfl ?_
  refine er_k (pc' := 14) (nI 8) rfl rfl rfl ?_
  refine er_cm_eqT rfl (rfl) ?_
  refine er_loc (pc' := 37) rfl rfl rfl ?_
  refine er_if_leF (pc' := 40) rfl (by decide +kernel) rfl ?_
  refine er_loc (pc' := 41) rfl rfl rfl ?_
  refine er_if_ge (pc' := 44) rfl rfl (fun h41 => ?_) (fun h41 => ?_)
  · refine er_loc (pc' := 52) rfl rfl rfl ?_
    refine er_if_leF (pc' := 55) rfl (by decide +kernel) rfl ?_
    refine er_loc (pc' := 56) rfl rfl rfl ?_
    refine er_k (pc' := 58) (nI 40) rfl rfl rfl ?_
    refine er_cm_le (pc' := 61) rfl rfl (fun h58 => ?_) (fun h58 => ?_)
    · refine er_loc (pc' := 69) rfl rfl rfl ?_
      refine er_gf (pc' := 72) (_) rfl rfl rfl rfl rfl ?_
      refine er_loc (pc' := 73) rfl rfl rfl ?_
      refine er_loc (pc' := 74) rfl rfl rfl ?_
      refine er_isX (pc' := 75) (a) rfl rfl (fun _ => rfl) rfl ha rfl rfl ?_
      refine er_loc (pc' := 76) rfl rfl rfl ?_
      refine er_gf (pc' := 79) (_) rfl rfl rfl rfl rfl ?_
      refine er_loc (pc' := 80) rfl rfl rfl ?_
      refine er_loc (pc' := 81) rfl rfl rfl ?_
      refine er_if_neT rfl (by decide +kernel) ?_
      refine er_loc (pc' := 89) rfl rfl rfl ?_
      refine er_isX (pc' := 90) (a) rfl rfl (fun _ => rfl) rfl ha rfl rfl ?_
      refine er_k (pc' := 91) (nI 0) rfl rfl rfl ?_
      refine er_loc (pc' := 93) (L' := [(4, _), (0, _), (1, _), (2, _), (3, _)]) rfl rfl rfl ?_
      refine ER_loc [(0, _), (1, _), (4, _)] rfl (List.forall_mem_cons.mpr ⟨rfl, List.forall_mem_cons.mpr ⟨rfl, List.forall_mem_cons.mpr ⟨rfl, fun _ h => absurd h List.not_mem_nil⟩⟩⟩) rfl rfl ?_
      have h := l_rSh_loop (d + 1) (ud (ud X 76 a (nI 8)) 77 a n) Z ha 40 0 (nI 0) (by omega) rfl
      rw [zs_0, uc_id, show ud (ud X 76 a (nI 8)) 77 a n 78 = X 78 from by rw [ud_ne (by omega), ud_ne (by omega)]] at h
      exact h.mono (fun r hr => by rw [if_neg h41, if_neg h58]; exact hr)
    · refine er_loc (pc' := 62) rfl rfl rfl ?_
      refine er_ldc (pc' := 64) (-1000000001) rfl rfl rfl rfl rfl ?_
      refine er_cIz (pc' := 67) (rest := []) 12 rfl rfl rfl rfl rfl rfl (l_rError1 _ _ _) ?_
      intro Z9
      refine er_iret rfl rfl ?_
      rw [if_neg h41, if_pos h58]
      exact RI_of rfl rfl
  · refine er_loc (pc' := 45) rfl rfl rfl ?_
    refine er_ldc (pc' := 47) (-1000000003) rfl rfl rfl rfl rfl ?_
    refine er_cIz (pc' := 50) (rest := []) 12 rfl rfl rfl rfl rfl rfl (l_rError3 _ _ _) ?_
    intro Z9
    refine er_iret rfl rfl ?_
    rw [if_pos h41]
    exact RI_of rfl rfl
set_option maxRecDepth 100000 in
set_option maxHeartbeats 4000000 in
theorem l_rSheet16 (d : Nat) (X Z : Nat → Nat → Int32) {a : Nat} (ha : a < 4) (n : Int32) : EC (d + 3) 213 [.ref 63, .int (nI a), .int (nI 16), .int n] (Wd X Z) (fun r => if n < 0 then RI (sErr 3) (yErr X 3) r else if nI 40 < n then RI (sErr 1) (yErr X 1) r else RI (nI 1) (ySheet X a (nI 16) n) r) := by
  refine er_enter (L := [(0, _), (1, _), (2, _), (3, _)]) rfl rfl rfl ?_
  refine er_loc (pc' := 1) rfl rfl rfl ?_
  refine er_cSi (pc' := 4) (rest := []) rfl rfl rfl (l_mSheet _ _ _) ?_
  rw [sIn_t (Nat.zero_le _) (show _ ≤ 3 by omega) (by omega)]
  refine er_if_eqF (pc' := 7) rfl (by decide +kernel) rfl ?_
  refine er_loc (pc' := 8) rfl rfl rfl ?_
  refine er_if_eqF (pc' := 11) rfl (by decide +kernel) rfl ?_
  refine er_loc (pc' := 12) rfl rfl rfl ?_
  refine er_k (pc' := 14) (nI 8) rfl rfl rfl ?_
  refine er_cm_eqF (pc' := 17) rfl (by decide +kernel) rfl ?_
  refine er_loc (pc' := 18) rfl rfl rfl ?_
  refine er_k (pc' := 20) (nI 16) rfl rfl rfl ?_
  refine er_cm_eqT rfl (rfl) ?_
  refine er_loc (pc' := 37) rfl rfl rfl ?_
  refine er_if_leF (pc' := 40) rfl (by decide +kernel) rfl ?_
  refine er_loc (pc' := 41) rfl rfl rfl ?_
  refine er_if_ge (pc' := 44) rfl rfl (fun h41 => ?_) (fun h41 => ?_)
  · refine er_loc (pc' := 52) rfl rfl rfl ?_
    refine er_if_leF (pc' := 55) rfl (by decide +kernel) rfl ?_
    refine er_loc (pc' := 56) rfl rfl rfl ?_
    refine er_k (pc' := 58) (nI 40) rfl rfl rfl ?_
    refine er_cm_le (pc' := 61) rfl rfl (fun h58 => ?_) (fun h58 => ?_)
    · refine er_loc (pc' := 69) rfl rfl rfl ?_
      refine er_gf (pc' := 72) (_) rfl rfl rfl rfl rfl ?_
      refine er_loc (pc' := 73) rfl rfl rfl ?_
      refine er_loc (pc' := 74) rfl rfl rfl ?_
      refine er_isX (pc' := 75) (a) rfl rfl (fun _ => rfl) rfl ha rfl rfl ?_
      refine er_loc (pc' := 76) rfl rfl rfl ?_
      refine er_gf (pc' := 79) (_) rfl rfl rfl rfl rfl ?_
      refine er_loc (pc' := 80) rfl rfl rfl ?_
      refine er_loc (pc' := 81) rfl rfl rfl ?_
      refine er_if_neT rfl (by decide +kernel) ?_
      refine er_loc (pc' := 89) rfl rfl rfl ?_
      refine er_isX (pc' := 90) (a) rfl rfl (fun _ => rfl) rfl ha rfl rfl ?_
      refine er_k (pc' := 91) (nI 0) rfl rfl rfl ?_
      refine er_loc (pc' := 93) (L' := [(4, _), (0, _), (1, _), (2, _), (3, _)]) rfl rfl rfl ?_
      refine ER_loc [(0, _), (1, _), (4, _)] rfl (List.forall_mem_cons.mpr ⟨rfl, List.forall_mem_cons.mpr ⟨rfl, List.forall_mem_cons.mpr ⟨rfl, fun _ h => absurd h List.not_mem_nil⟩⟩⟩) rfl rfl ?_
      have h := l_rSh_loop (d + 1) (ud (ud X 76 a (nI 16)) 77 a n) Z ha 40 0 (nI 0) (by omega) rfl
      rw [zs_0, uc_id, show ud (ud X 76 a (nI 16)) 77 a n 78 = X 78 from by rw [ud_ne (by omega), ud_ne (by omega)]] at h
      exact h.mono (fun r hr => by rw [if_neg h41, if_neg h58]; exact hr)
    · refine er_loc (pc' := 62) rfl rfl rfl ?_
      refine er_ldc (pc' := 64) (-1000000001) rfl rfl rfl rfl rfl ?_
      refine er_cIz (pc' := 67) (rest := []) 12 rfl rfl rfl rfl rfl rfl (l_rError1 _ _ _) ?_
      intro Z9
      refine er_iret rfl rfl ?_
      rw [if_neg h41, if_pos h58]
      exact RI_of rfl rfl
  · refine er_loc (pc' := 45) rfl rfl rfl ?_
    refine er_ldc (pc' := 47) (-1000000003) rfl rfl rfl rfl rfl ?_
    refine er_cIz (pc' := 50) (rest := []) 12 rfl rfl rfl rfl rfl rfl (l_rError3 _ _ _) ?_
    intro Z9
    refine er_iret rfl rfl ?_
    rw [if_pos h41]
    exact RI_of rfl rfl
set_option maxRecDepth 100000 in
set_option maxHeartbeats 4000000 in
theorem l_rSheet32 (d : Nat) (X Z : Nat → Nat → Int32) {a : Nat} (ha : a < 4) (n : Int32) : EC (d + 3) 213 [.ref 63, .int (nI a), .int (nI 32), .int n] (Wd X Z) (fun r => if n < 0 then RI (sErr 3) (yErr X 3) r else if nI 40 < n then RI (sErr 1) (yErr X 1) r else RI (nI 1) (ySheet X a (nI 32) n) r) := by
  refine er_enter (L := [(0, _), (1, _), (2, _), (3, _)]) rfl rfl rfl ?_
  refine er_loc (pc' := 1) rfl rfl rfl ?_
  refine er_cSi (pc' := 4) (rest := []) rfl rfl rfl (l_mSheet _ _ _) ?_
  rw [sIn_t (Nat.zero_le _) (show _ ≤ 3 by omega) (by omega)]
  refine er_if_eqF (pc' := 7) rfl (by decide +kernel) rfl ?_
  refine er_loc (pc' := 8) rfl rfl rfl ?_
  refine er_if_eqF (pc' := 11) rfl (by decide +kernel) rfl ?_
  refine er_loc (pc' := 12) rfl rfl rfl ?_
  refine er_k (pc' := 14) (nI 8) rfl rfl rfl ?_
  refine er_cm_eqF (pc' := 17) rfl (by decide +kernel) rfl ?_
  refine er_loc (pc' := 18) rfl rfl rfl ?_
  refine er_k (pc' := 20) (nI 16) rfl rfl rfl ?_
  refine er_cm_eqF (pc' := 23) rfl (by decide +kernel) rfl ?_
  refine er_loc (pc' := 24) rfl rfl rfl ?_
  refine er_k (pc' := 26) (nI 32) rfl rfl rfl ?_
  refine er_cm_eqT rfl (rfl) ?_
  refine er_loc (pc' := 37) rfl rfl rfl ?_
  refine er_if_leF (pc' := 40) rfl (by decide +kernel) rfl ?_
  refine er_loc (pc' := 41) rfl rfl rfl ?_
  refine er_if_ge (pc' := 44) rfl rfl (fun h41 => ?_) (fun h41 => ?_)
  · refine er_loc (pc' := 52) rfl rfl rfl ?_
    refine er_if_leF (pc' := 55) rfl (by decide +kernel) rfl ?_
    refine er_loc (pc' := 56) rfl rfl rfl ?_
    refine er_k (pc' := 58) (nI 40) rfl rfl rfl ?_
    refine er_cm_le (pc' := 61) rfl rfl (fun h58 => ?_) (fun h58 => ?_)
    · refine er_loc (pc' := 69) rfl rfl rfl ?_
      refine er_gf (pc' := 72) (_) rfl rfl rfl rfl rfl ?_
      refine er_loc (pc' := 73) rfl rfl rfl ?_
      refine er_loc (pc' := 74) rfl rfl rfl ?_
      refine er_isX (pc' := 75) (a) rfl rfl (fun _ => rfl) rfl ha rfl rfl ?_
      refine er_loc (pc' := 76) rfl rfl rfl ?_
      refine er_gf (pc' := 79) (_) rfl rfl rfl rfl rfl ?_
      refine er_loc (pc' := 80) rfl rfl rfl ?_
      refine er_loc (pc' := 81) rfl rfl rfl ?_
      refine er_if_neT rfl (by decide +kernel) ?_
      refine er_loc (pc' := 89) rfl rfl rfl ?_
      refine er_isX (pc' := 90) (a) rfl rfl (fun _ => rfl) rfl ha rfl rfl ?_
      refine er_k (pc' := 91) (nI 0) rfl rfl rfl ?_
      refine er_loc (pc' := 93) (L' := [(4, _), (0, _), (1, _), (2, _), (3, _)]) rfl rfl rfl ?_
      refine ER_loc [(0, _), (1, _), (4, _)] rfl (List.forall_mem_cons.mpr ⟨rfl, List.forall_mem_cons.mpr ⟨rfl, List.forall_mem_cons.mpr ⟨rfl, fun _ h => absurd h List.not_mem_nil⟩⟩⟩) rfl rfl ?_
      have h := l_rSh_loop (d + 1) (ud (ud X 76 a (nI 32)) 77 a n) Z ha 40 0 (nI 0) (by omega) rfl
      rw [zs_0, uc_id, show ud (ud X 76 a (nI 32)) 77 a n 78 = X 78 from by rw [ud_ne (by omega), ud_ne (by omega)]] at h
      exact h.mono (fun r hr => by rw [if_neg h41, if_neg h58]; exact hr)
    · refine er_loc (pc' := 62) rfl rfl rfl ?_
      refine er_ldc (pc' := 64) (-1000000001) rfl rfl rfl rfl rfl ?_
      refine er_cIz (pc' := 67) (rest := []) 12 rfl rfl rfl rfl rfl rfl (l_rError1 _ _ _) ?_
      intro Z9
      refine er_iret rfl rfl ?_
      rw [if_neg h41, if_pos h58]
      exact RI_of rfl rfl
  · refine er_loc (pc' := 45) rfl rfl rfl ?_
    refine er_ldc (pc' := 47) (-1000000003) rfl rfl rfl rfl rfl ?_
    refine er_cIz (pc' := 50) (rest := []) 12 rfl rfl rfl rfl rfl rfl (l_rError3 _ _ _) ?_
    intro Z9
    refine er_iret rfl rfl ?_
    rw [if_pos h41]
    exact RI_of rfl rfl
set_option maxRecDepth 100000 in
set_option maxHeartbeats 4000000 in
theorem l_rScrews_no (d : Nat) (X Z : Nat → Nat → Int32) (s : Int32) (hs : sIn s (nI 0) (nI 3) = false) : EC (d + 4) 218 [.ref 63, .int s] (Wd X Z) (RI (sErr 1) (yErr X 1)) := by
  refine er_enter (L := [(0, _), (1, _)]) rfl rfl rfl ?_
  refine er_loc (pc' := 1) rfl rfl rfl ?_
  refine er_loc (pc' := 2) rfl rfl rfl ?_
  refine er_cIi (pc' := 5) (rest := []) 12 rfl rfl rfl rfl rfl rfl (l_rNot_s _ _ _ hs) ?_
  refine er_loc (pc' := 6) (L' := [(2, _), (0, _), (1, _)]) rfl rfl rfl ?_
  refine er_loc (pc' := 7) rfl rfl rfl ?_
  refine er_if_eqF (pc' := 10) rfl (by decide +kernel) rfl ?_
  refine er_loc (pc' := 11) rfl rfl rfl ?_
  refine er_loc (pc' := 12) rfl rfl rfl ?_
  refine er_cIz (pc' := 15) (rest := []) 12 rfl rfl rfl rfl rfl rfl (l_rError1 _ _ _) ?_
  intro Z9
  refine er_iret rfl rfl ?_
  exact RI_of rfl rfl
set_option maxRecDepth 100000 in
set_option maxHeartbeats 4000000 in
theorem l_rScrews_0 (d : Nat) (X Z : Nat → Nat → Int32) {a : Nat} (ha : a < 4) (hb : X 76 a = 0) : EC (d + 4) 218 [.ref 63, .int (nI a)] (Wd X Z) (RI (sErr 2) (yErr X 2)) := by
  refine er_enter (L := [(0, _), (1, _)]) rfl rfl rfl ?_
  refine er_loc (pc' := 1) rfl rfl rfl ?_
  refine er_loc (pc' := 2) rfl rfl rfl ?_
  refine er_cIi (pc' := 5) (rest := []) 12 rfl rfl rfl rfl rfl rfl (l_rNot_0 _ _ _ ha hb) ?_
  refine er_loc (pc' := 6) (L' := [(2, _), (0, _), (1, _)]) rfl rfl rfl ?_
  refine er_loc (pc' := 7) rfl rfl rfl ?_
  refine er_if_eqF (pc' := 10) rfl (by decide +kernel) rfl ?_
  refine er_loc (pc' := 11) rfl rfl rfl ?_
  refine er_loc (pc' := 12) rfl rfl rfl ?_
  refine er_cIz (pc' := 15) (rest := []) 12 rfl rfl rfl rfl rfl rfl (l_rError2 _ _ _) ?_
  intro Z9
  refine er_iret rfl rfl ?_
  exact RI_of rfl rfl
theorem jSc_y {f : Nat → Int32} {m i : Nat} {J : Nat → Nat → Int32} (h : sIn (f i) (nI 0) (nI 9) = true) : jSc f (m + 1) i J = jSc f m (i + 1) (ud J 3 i (f i)) := if_pos h
theorem jSc_n {f : Nat → Int32} {m i : Nat} {J : Nat → Nat → Int32} (h : sIn (f i) (nI 0) (nI 9) = false) : jSc f (m + 1) i J = (J, i) := if_neg (by rw [h]; decide)
set_option maxRecDepth 100000 in
set_option maxHeartbeats 4000000 in
theorem l_rSc_loop (d : Nat) {a : Nat} (ha : a < 4) {g T : Nat} (h40 : g ≤ 40) (y : Int32) : ∀ (m i : Nat) (X Z : Nat → Nat → Int32) (x : Int32), RK T (X 64) → X 77 a = nI g → i + m = min g (jn (jm (X 64))) → x = nI i → ER (d + 3) tb_m218 18 [(0, .ref 63), (1, .int (nI a)), (2, .int y), (3, .int x)] [] (Wd X Z) (RNJ (nI (jSc (fun k => X 78 (40 * a + k)) m i (jm (X 64))).2) (jSc (fun k => X 78 (40 * a + k)) m i (jm (X 64))).1 T X)
  | 0, i, X, Z, x, hI, hg, hi, hx => by
    have h8 := jn8 hI.ij
    subst hx
    have ofn : nI i < nI g → jn (jm (X 64)) ≤ i := by
      intro hh
      rw [nI_ltI (by omega) (by omega)] at hh
      omega
    refine er_loc (pc' := 19) rfl rfl rfl ?_
    refine er_loc (pc' := 20) rfl rfl rfl ?_
    refine er_gf (pc' := 23) (_) rfl rfl rfl rfl rfl ?_
    refine er_loc (pc' := 24) rfl rfl rfl ?_
    refine er_ia (pc' := 25) (a) rfl rfl rfl rfl ha rfl rfl ?_
    rw [hg]
    refine er_cm_ge (pc' := 28) rfl rfl (fun h25 => ?_) (fun h25 => ?_)
    · refine er_loc (pc' := 82) rfl rfl rfl ?_
      refine er_iret rfl rfl ?_
      exact RNJ_of rfl (WJ.rf hI)
    · refine er_loc (pc' := 29) rfl rfl rfl ?_
      refine er_loc (pc' := 30) rfl rfl rfl ?_
      refine er_gf (pc' := 33) (_) rfl rfl rfl rfl rfl ?_
      refine er_k (pc' := 34) (nI 2) rfl rfl rfl ?_
      refine er_ia (pc' := 35) (2) rfl rfl rfl rfl (by omega) rfl rfl ?_
      rw [hI.n]
      refine er_cm_geT rfl (nI_nlt (ofn h25) (by omega)) ?_
      refine er_loc (pc' := 82) rfl rfl rfl ?_
      refine er_iret rfl rfl ?_
      exact RNJ_of rfl (WJ.rf hI)
  | m + 1, i, X, Z, x, hI, hg, hi, hx => by
    have h8 := jn8 hI.ij
    subst hx
    refine er_loc (pc' := 19) rfl rfl rfl ?_
    refine er_loc (pc' := 20) rfl rfl rfl ?_
    refine er_gf (pc' := 23) (_) rfl rfl rfl rfl rfl ?_
    refine er_loc (pc' := 24) rfl rfl rfl ?_
    refine er_ia (pc' := 25) (a) rfl rfl rfl rfl ha rfl rfl ?_
    rw [hg]
    refine er_cm_geF (pc' := 28) rfl (nI_lt (by omega) (by omega)) rfl ?_
    refine er_loc (pc' := 29) rfl rfl rfl ?_
    refine er_loc (pc' := 30) rfl rfl rfl ?_
    refine er_gf (pc' := 33) (_) rfl rfl rfl rfl rfl ?_
    refine er_k (pc' := 34) (nI 2) rfl rfl rfl ?_
    refine er_ia (pc' := 35) (2) rfl rfl rfl rfl (by omega) rfl rfl ?_
    rw [hI.n]
    refine er_cm_geF (pc' := 38) rfl (nI_lt (by omega) (by omega)) rfl ?_
    refine er_loc (pc' := 39) rfl rfl rfl ?_
    refine er_gf (pc' := 42) (_) rfl rfl rfl rfl rfl ?_
    refine er_k (pc' := 44) (nI 40) rfl rfl rfl ?_
    refine er_loc (pc' := 45) rfl rfl rfl ?_
    refine er_imul (pc' := 46) rfl rfl ?_
    refine er_loc (pc' := 47) rfl rfl rfl ?_
    refine er_iadd rfl rfl ?_
    rw [nI_mul 40 a, nI_add (40 * a) i]
    refine er_ia (pc' := 49) ((40 * a + i)) rfl rfl rfl (by simp only [nI_add, nI_mul]) (by omega) rfl rfl ?_
    refine er_k (pc' := 50) (nI 0) rfl rfl rfl ?_
    refine er_k (pc' := 52) (nI 9) rfl rfl rfl ?_
    refine er_cSi (pc' := 55) (rest := []) rfl rfl rfl (l_in _ _ _ _ _) ?_
    refine er_if_eqb (pc' := 58) rfl rfl (fun h55 => ?_) (fun h55 => ?_)
    · refine er_loc (pc' := 82) rfl rfl rfl ?_
      refine er_iret rfl rfl ?_
      rw [jSc_n (f := fun k => X 78 (40 * a + k)) h55]
      exact RNJ_of rfl (WJ.rf hI)
    · refine er_loc (pc' := 59) rfl rfl rfl ?_
      refine er_loc (pc' := 60) rfl rfl rfl ?_
      refine er_k (pc' := 61) (nI 2) rfl rfl rfl ?_
      refine er_loc (pc' := 62) rfl rfl rfl ?_
      refine er_gf (pc' := 65) (_) rfl rfl rfl rfl rfl ?_
      refine er_k (pc' := 67) (nI 40) rfl rfl rfl ?_
      refine er_loc (pc' := 68) rfl rfl rfl ?_
      refine er_imul (pc' := 69) rfl rfl ?_
      refine er_loc (pc' := 70) rfl rfl rfl ?_
      refine er_iadd rfl rfl ?_
      rw [nI_mul 40 a, nI_add (40 * a) i]
      refine er_ia (pc' := 72) ((40 * a + i)) rfl rfl rfl (by simp only [nI_add, nI_mul]) (by omega) rfl rfl ?_
      refine er_cIv (pc' := 75) (rest := []) 12 rfl rfl rfl rfl rfl rfl (l_rLets _ _ _ (show i < 8 by omega) (show 2 < 6 by omega) _) ?_
      intro Z7
      refine er_loc (L' := [(3, .int (_ + nI 1)), (0, _), (1, _), (2, _)]) rfl rfl rfl ?_
      refine er_goto rfl ?_
      refine ER_loc [(0, _), (1, _), (2, _), (3, _)] rfl (List.forall_mem_cons.mpr ⟨rfl, List.forall_mem_cons.mpr ⟨rfl, List.forall_mem_cons.mpr ⟨rfl, List.forall_mem_cons.mpr ⟨rfl, fun _ h => absurd h List.not_mem_nil⟩⟩⟩⟩) rfl rfl ?_
      have w1 := wSc (k := i) (p := 7 + 6 * i + 2) hI rfl (by omega) (sIn_isN (by omega) (by omega) h55) (by omega)
      have ih := l_rSc_loop d ha h40 y m (i + 1) (ud X 64 (7 + 6 * i + 2) (X 78 (40 * a + i))) Z7 _ w1.rk (by rw [ud_ne (by omega)]; exact hg) (by rw [w1.j]; show i + 1 + m = min g (jn (jm (X 64))); omega) (nI_add i 1)
      rw [w1.j, show ud X 64 (7 + 6 * i + 2) (X 78 (40 * a + i)) 78 = X 78 from ud_ne (by omega)] at ih
      rw [jSc_y (f := fun k => X 78 (40 * a + k)) h55]
      exact ih.mono (fun r hr => RNJ.tr w1 hr)
set_option maxRecDepth 100000 in
set_option maxHeartbeats 4000000 in
theorem l_rScrews (d : Nat) (X Z : Nat → Nat → Int32) {T : Nat} (hI : RK T (X 64)) {a : Nat} (ha : a < 4) (hb : ¬ X 76 a = 0) {g : Nat} (hg : X 77 a = nI g) (h40 : g ≤ 40) : EC (d + 4) 218 [.ref 63, .int (nI a)] (Wd X Z) (RNJ (nI (jSc (fun k => X 78 (40 * a + k)) (min g (jn (jm (X 64)))) 0 (jm (X 64))).2) (jSc (fun k => X 78 (40 * a + k)) (min g (jn (jm (X 64)))) 0 (jm (X 64))).1 T X) := by
  refine er_enter (L := [(0, _), (1, _)]) rfl rfl rfl ?_
  refine er_loc (pc' := 1) rfl rfl rfl ?_
  refine er_loc (pc' := 2) rfl rfl rfl ?_
  refine er_cIi (pc' := 5) (rest := []) 12 rfl rfl rfl rfl rfl rfl (l_rNot_1 _ _ _ ha hb) ?_
  refine er_loc (pc' := 6) (L' := [(2, _), (0, _), (1, _)]) rfl rfl rfl ?_
  refine er_loc (pc' := 7) rfl rfl rfl ?_
  refine er_if_eqT rfl (by decide +kernel) ?_
  refine er_k (pc' := 17) (nI 0) rfl rfl rfl ?_
  refine er_loc (pc' := 18) (L' := [(3, _), (2, _), (0, _), (1, _)]) rfl rfl rfl ?_
  refine ER_loc [(0, _), (1, _), (2, _), (3, _)] rfl (List.forall_mem_cons.mpr ⟨rfl, List.forall_mem_cons.mpr ⟨rfl, List.forall_mem_cons.mpr ⟨rfl, List.forall_mem_cons.mpr ⟨rfl, fun _ h => absurd h List.not_mem_nil⟩⟩⟩⟩) rfl rfl ?_
  exact l_rSc_loop d ha h40 _ _ 0 X Z _ hI hg (by omega) rfl
set_option maxRecDepth 100000 in
set_option maxHeartbeats 4000000 in
theorem l_rJudge_no (d : Nat) (X Z : Nat → Nat → Int32) (s : Int32) (hs : sIn s (nI 0) (nI 3) = false) : EC (d + 4) 219 [.ref 63, .int s] (Wd X Z) (RI (sErr 1) (yErr X 1)) := by
  refine er_enter (L := [(0, _), (1, _)]) rfl rfl rfl ?_
  refine er_loc (pc' := 1) rfl rfl rfl ?_
  refine er_loc (pc' := 2) rfl rfl rfl ?_
  refine er_cIi (pc' := 5) (rest := []) 12 rfl rfl rfl rfl rfl rfl (l_rNot_s _ _ _ hs) ?_
  refine er_loc (pc' := 6) (L' := [(2, _), (0, _), (1, _)]) rfl rfl rfl ?_
  refine er_loc (pc' := 7) rfl rfl rfl ?_
  refine er_if_eqF (pc' := 10) rfl (by decide +kernel) rfl ?_
  refine er_loc (pc' := 11) rfl rfl rfl ?_
  refine er_loc (pc' := 12) rfl rfl rfl ?_
  refine er_cIz (pc' := 15) (rest := []) 12 rfl rfl rfl rfl rfl rfl (l_rError1 _ _ _) ?_
  intro Z9
  refine er_iret rfl rfl ?_
  exact RI_of rfl rfl
set_option maxRecDepth 100000 in
set_option maxHeartbeats 4000000 in
theorem l_rJudge_0 (d : Nat) (X Z : Nat → Nat → Int32) {a : Nat} (ha : a < 4) (hb : X 76 a = 0) : EC (d + 4) 219 [.ref 63, .int (nI a)] (Wd X Z) (RI (sErr 2) (yErr X 2)) := by
  refine er_enter (L := [(0, _), (1, _)]) rfl rfl rfl ?_
  refine er_loc (pc' := 1) rfl rfl rfl ?_
  refine er_loc (pc' := 2) rfl rfl rfl ?_
  refine er_cIi (pc' := 5) (rest := []) 12 rfl rfl rfl rfl rfl rfl (l_rNot_0 _ _ _ ha hb) ?_
  refine er_loc (pc' := 6) (L' := [(2, _), (0, _), (1, _)]) rfl rfl rfl ?_
  refine er_loc (pc' := 7) rfl rfl rfl ?_
  refine er_if_eqF (pc' := 10) rfl (by decide +kernel) rfl ?_
  refine er_loc (pc' := 11) rfl rfl rfl ?_
  refine er_loc (pc' := 12) rfl rfl rfl ?_
  refine er_cIz (pc' := 15) (rest := []) 12 rfl rfl rfl rfl rfl rfl (l_rError2 _ _ _) ?_
  intro Z9
  refine er_iret rfl rfl ?_
  exact RI_of rfl rfl
set_option maxRecDepth 100000 in
set_option maxHeartbeats 4000000 in
theorem l_rJ_end (d : Nat) (X Z : Nat → Nat → Int32) {a : Nat} (ha : a < 4) (y x : Int32) : ER (d + 1) tb_m219 63 [(0, .ref 63), (1, .int (nI a)), (2, .int y), (3, .int x)] [] (Wd X Z) (RE X) := by
  refine er_loc (pc' := 64) rfl rfl rfl ?_
  refine er_loc (pc' := 65) rfl rfl rfl ?_
  refine er_gf (pc' := 68) (_) rfl rfl rfl rfl rfl ?_
  refine er_k (pc' := 69) (nI 2) rfl rfl rfl ?_
  refine er_ia (pc' := 70) (2) rfl rfl rfl rfl (by omega) rfl rfl ?_
  refine er_cm_ne (pc' := 73) rfl rfl (fun h70 => ?_) (fun h70 => ?_)
  · refine er_loc (pc' := 88) rfl rfl rfl ?_
    refine er_iret rfl rfl ?_
    exact RE_of rfl
  · refine er_loc (pc' := 74) rfl rfl rfl ?_
    refine er_gf (pc' := 77) (_) rfl rfl rfl rfl rfl ?_
    refine er_loc (pc' := 78) rfl rfl rfl ?_
    refine er_ia (pc' := 79) (a) rfl rfl rfl rfl (by omega) rfl rfl ?_
    refine er_loc (pc' := 80) rfl rfl rfl ?_
    refine er_cm_ne (pc' := 83) rfl rfl (fun h80 => ?_) (fun h80 => ?_)
    · refine er_loc (pc' := 88) rfl rfl rfl ?_
      refine er_iret rfl rfl ?_
      exact RE_of rfl
    · refine er_k (pc' := 84) (-1) rfl rfl rfl ?_
      refine er_goto rfl ?_
      refine er_iret rfl rfl ?_
      exact RE_of rfl
set_option maxRecDepth 100000 in
set_option maxHeartbeats 4000000 in
theorem l_rJ_loop (d : Nat) (X : Nat → Nat → Int32) {T : Nat} (hI : RK T (X 64)) (hT : T < 2000000000) {a : Nat} (ha : a < 4) {g : Nat} (hg : X 77 a = nI g) (h40 : g ≤ 40) (y : Int32) : ∀ (m i : Nat) (Z : Nat → Nat → Int32) (x : Int32), i + m = min g (jn (jm (X 64))) → x = nI i → ER (d + 5) tb_m219 18 [(0, .ref 63), (1, .int (nI a)), (2, .int y), (3, .int x)] [] (Wd X Z) (RE X)
  | 0, i, Z, x, hi, hx => by
    have h8 := jn8 hI.ij
    subst hx
    have ofn : nI i < nI g → jn (jm (X 64)) ≤ i := by
      intro hh
      rw [nI_ltI (by omega) (by omega)] at hh
      omega
    refine er_loc (pc' := 19) rfl rfl rfl ?_
    refine er_loc (pc' := 20) rfl rfl rfl ?_
    refine er_gf (pc' := 23) (_) rfl rfl rfl rfl rfl ?_
    refine er_loc (pc' := 24) rfl rfl rfl ?_
    refine er_ia (pc' := 25) (a) rfl rfl rfl rfl ha rfl rfl ?_
    rw [hg]
    refine er_cm_ge (pc' := 28) rfl rfl (fun h25 => ?_) (fun h25 => ?_)
    · refine ER_loc [(0, _), (1, _), (2, _), (3, _)] rfl (List.forall_mem_cons.mpr ⟨rfl, List.forall_mem_cons.mpr ⟨rfl, List.forall_mem_cons.mpr ⟨rfl, List.forall_mem_cons.mpr ⟨rfl, fun _ h => absurd h List.not_mem_nil⟩⟩⟩⟩) rfl rfl ?_
      exact l_rJ_end _ X _ ha _ _
    · refine er_loc (pc' := 29) rfl rfl rfl ?_
      refine er_loc (pc' := 30) rfl rfl rfl ?_
      refine er_gf (pc' := 33) (_) rfl rfl rfl rfl rfl ?_
      refine er_k (pc' := 34) (nI 2) rfl rfl rfl ?_
      refine er_ia (pc' := 35) (2) rfl rfl rfl rfl (by omega) rfl rfl ?_
      rw [hI.n]
      refine er_cm_geT rfl (nI_nlt (ofn h25) (by omega)) ?_
      refine ER_loc [(0, _), (1, _), (2, _), (3, _)] rfl (List.forall_mem_cons.mpr ⟨rfl, List.forall_mem_cons.mpr ⟨rfl, List.forall_mem_cons.mpr ⟨rfl, List.forall_mem_cons.mpr ⟨rfl, fun _ h => absurd h List.not_mem_nil⟩⟩⟩⟩) rfl rfl ?_
      exact l_rJ_end _ X _ ha _ _
  | m + 1, i, Z, x, hi, hx => by
    have h8 := jn8 hI.ij
    subst hx
    refine er_loc (pc' := 19) rfl rfl rfl ?_
    refine er_loc (pc' := 20) rfl rfl rfl ?_
    refine er_gf (pc' := 23) (_) rfl rfl rfl rfl rfl ?_
    refine er_loc (pc' := 24) rfl rfl rfl ?_
    refine er_ia (pc' := 25) (a) rfl rfl rfl rfl ha rfl rfl ?_
    rw [hg]
    refine er_cm_geF (pc' := 28) rfl (nI_lt (by omega) (by omega)) rfl ?_
    refine er_loc (pc' := 29) rfl rfl rfl ?_
    refine er_loc (pc' := 30) rfl rfl rfl ?_
    refine er_gf (pc' := 33) (_) rfl rfl rfl rfl rfl ?_
    refine er_k (pc' := 34) (nI 2) rfl rfl rfl ?_
    refine er_ia (pc' := 35) (2) rfl rfl rfl rfl (by omega) rfl rfl ?_
    rw [hI.n]
    refine er_cm_geF (pc' := 38) rfl (nI_lt (by omega) (by omega)) rfl ?_
    refine er_loc (pc' := 39) rfl rfl rfl ?_
    refine er_gf (pc' := 42) (_) rfl rfl rfl rfl rfl ?_
    refine er_k (pc' := 44) (nI 40) rfl rfl rfl ?_
    refine er_loc (pc' := 45) rfl rfl rfl ?_
    refine er_imul (pc' := 46) rfl rfl ?_
    refine er_loc (pc' := 47) rfl rfl rfl ?_
    refine er_iadd rfl rfl ?_
    rw [nI_mul 40 a, nI_add (40 * a) i]
    refine er_ia (pc' := 49) ((40 * a + i)) rfl rfl rfl (by simp only [nI_add, nI_mul]) (by omega) rfl rfl ?_
    refine er_loc (pc' := 50) rfl rfl rfl ?_
    refine er_loc (pc' := 51) rfl rfl rfl ?_
    refine er_cIz (pc' := 54) (rest := [_]) 12 rfl rfl rfl rfl rfl rfl (l_rLastsOf _ X _ hI (by omega) (k := i) (by omega)) ?_
    intro Z2
    refine er_cm_ne (pc' := 57) rfl rfl (fun h54 => ?_) (fun h54 => ?_)
    · refine ER_loc [(0, _), (1, _), (2, _), (3, _)] rfl (List.forall_mem_cons.mpr ⟨rfl, List.forall_mem_cons.mpr ⟨rfl, List.forall_mem_cons.mpr ⟨rfl, List.forall_mem_cons.mpr ⟨rfl, fun _ h => absurd h List.not_mem_nil⟩⟩⟩⟩) rfl rfl ?_
      exact l_rJ_end _ X _ ha _ _
    · refine er_loc (L' := [(3, .int (_ + nI 1)), (0, _), (1, _), (2, _)]) rfl rfl rfl ?_
      refine er_goto rfl ?_
      refine ER_loc [(0, _), (1, _), (2, _), (3, _)] rfl (List.forall_mem_cons.mpr ⟨rfl, List.forall_mem_cons.mpr ⟨rfl, List.forall_mem_cons.mpr ⟨rfl, List.forall_mem_cons.mpr ⟨rfl, fun _ h => absurd h List.not_mem_nil⟩⟩⟩⟩) rfl rfl ?_
      exact l_rJ_loop d X hI hT ha hg h40 y m (i + 1) _ _ (by omega) (nI_add i 1)
set_option maxRecDepth 100000 in
set_option maxHeartbeats 4000000 in
theorem l_rJudge (d : Nat) (X Z : Nat → Nat → Int32) {T : Nat} (hI : RK T (X 64)) (hT : T < 2000000000) {a : Nat} (ha : a < 4) (hb : ¬ X 76 a = 0) {g : Nat} (hg : X 77 a = nI g) (h40 : g ≤ 40) : EC (d + 6) 219 [.ref 63, .int (nI a)] (Wd X Z) (RE X) := by
  refine er_enter (L := [(0, _), (1, _)]) rfl rfl rfl ?_
  refine er_loc (pc' := 1) rfl rfl rfl ?_
  refine er_loc (pc' := 2) rfl rfl rfl ?_
  refine er_cIi (pc' := 5) (rest := []) 12 rfl rfl rfl rfl rfl rfl (l_rNot_1 _ _ _ ha hb) ?_
  refine er_loc (pc' := 6) (L' := [(2, _), (0, _), (1, _)]) rfl rfl rfl ?_
  refine er_loc (pc' := 7) rfl rfl rfl ?_
  refine er_if_eqT rfl (by decide +kernel) ?_
  refine er_k (pc' := 17) (nI 0) rfl rfl rfl ?_
  refine er_loc (pc' := 18) (L' := [(3, _), (2, _), (0, _), (1, _)]) rfl rfl rfl ?_
  refine ER_loc [(0, _), (1, _), (2, _), (3, _)] rfl (List.forall_mem_cons.mpr ⟨rfl, List.forall_mem_cons.mpr ⟨rfl, List.forall_mem_cons.mpr ⟨rfl, List.forall_mem_cons.mpr ⟨rfl, fun _ h => absurd h List.not_mem_nil⟩⟩⟩⟩) rfl rfl ?_
  exact l_rJ_loop d X hI hT ha hg h40 _ (min g (jn (jm (X 64)))) 0 Z _ (by omega) rfl
end
section
/-! THE REFERENCE, its face: move, the trace, voices -/
def yMay (g e : Nat) (i j n : Int32) : Bool := !decide (n < 0) && !decide (i < 0) && !decide (j < 0) && !decide (nI g - i < n) && !decide (nI e - j < n)
theorem stand_nat {g : Nat} (hg : g ≤ 40) {i n : Int32} : sStand g i n = (!decide (n < 0) && !decide (i < 0) && !decide (nI g - i < n)) := by
  unfold sStand sIn
  have e0 : (nI 0 : Int32) = 0 := by decide +kernel
  rw [e0]
  by_cases hi : i < 0
  · rw [decide_eq_true hi]; simp
  · by_cases hn : n < 0
    · rw [decide_eq_true hn]; simp
    · rw [decide_eq_false hi, decide_eq_false hn]
      obtain ⟨a, ha, rfl⟩ := nI_of hi
      obtain ⟨b, hb, rfl⟩ := nI_of hn
      by_cases h : g < a
      · rw [decide_eq_true (nI_lt h ha)]
        have h2 : nI g - nI a < nI b := by
          rw [I_lt, Int32.toInt_sub, nI_toInt (by omega), nI_toInt ha, nI_toInt hb]
          rw [show ((g : Int) - (a : Int)).bmod (2 ^ 32) = (g : Int) - (a : Int) from Int.bmod_eq_of_le (by omega) (by omega)]
          omega
        rw [decide_eq_true h2]
        rfl
      · rw [decide_eq_false (nI_nlt (by omega) (by omega))]
        simp
theorem may_eq {g e : Nat} (hg : g ≤ 40) (he : e ≤ 40) {i j n : Int32} : yMay g e i j n = (sStand g i n && sStand e j n) := by
  rw [stand_nat hg, stand_nat he]
  unfold yMay
  cases decide (n < 0) <;> cases decide (i < 0) <;> cases decide (j < 0) <;> cases decide (nI g - i < n) <;> cases decide (nI e - j < n) <;> rfl
theorem stand_ex {g : Nat} (hg : g ≤ 40) {i n : Int32} (h : sStand g i n = true) : ∃ a b, a + b ≤ g ∧ i = nI a ∧ n = nI b := by
  unfold sStand at h
  rw [Bool.and_eq_true] at h
  obtain ⟨a, _, ha, rfl⟩ := sIn_ex (by omega) (by omega) h.1
  have h2 := h.2
  rw [nI_sub ha] at h2
  obtain ⟨b, _, hb, rfl⟩ := sIn_ex (by omega) (by omega) h2
  exact ⟨a, b, by omega, rfl, rfl⟩
set_option maxRecDepth 100000 in
set_option maxHeartbeats 4000000 in
theorem l_rNm_s (d : Nat) (X Z : Nat → Nat → Int32) (s i p j n : Int32) (hs : (sIn s (nI 0) (nI 3) && sIn p (nI 0) (nI 3)) = false) : EC (d + 3) 217 [.ref 63, .int s, .int i, .int p, .int j, .int n] (Wd X Z) (PI (-1000000001) (Wd X Z)) := by
  refine er_enter (L := [(0, _), (1, _), (2, _), (3, _), (4, _), (5, _)]) rfl rfl rfl ?_
  refine er_loc (pc' := 1) rfl rfl rfl ?_
  refine er_cSi (pc' := 4) (rest := []) rfl rfl rfl (l_mSheet _ _ _) ?_
  refine er_if_eqb (pc' := 7) rfl rfl (fun h4 => ?_) (fun h4 => ?_)
  · refine er_ldc (pc' := 16) (-1000000001) rfl rfl rfl rfl rfl ?_
    refine er_iret rfl rfl ?_
    exact PI_of rfl
  · refine er_loc (pc' := 8) rfl rfl rfl ?_
    refine er_cSi (pc' := 11) (rest := []) rfl rfl rfl (l_mSheet _ _ _) ?_
    refine er_if_neb (pc' := 14) rfl rfl (fun h11 => ?_) (fun h11 => ?_)
    · exact absurd hs (by rw [h4, h11]; decide)
    · refine er_ldc (pc' := 16) (-1000000001) rfl rfl rfl rfl rfl ?_
      refine er_iret rfl rfl ?_
      exact PI_of rfl
set_option maxRecDepth 100000 in
set_option maxHeartbeats 4000000 in
theorem l_rNm_0 (d : Nat) (X Z : Nat → Nat → Int32) {a p : Nat} (ha : a < 4) (hp : p < 4) (i j n : Int32) (hb : X 76 a = 0 ∨ X 76 p = 0) : EC (d + 3) 217 [.ref 63, .int (nI a), .int i, .int (nI p), .int j, .int n] (Wd X Z) (PI (-1000000002) (Wd X Z)) := by
  refine er_enter (L := [(0, _), (1, _), (2, _), (3, _), (4, _), (5, _)]) rfl rfl rfl ?_
  refine er_loc (pc' := 1) rfl rfl rfl ?_
  refine er_cSi (pc' := 4) (rest := []) rfl rfl rfl (l_mSheet _ _ _) ?_
  rw [sIn_t (Nat.zero_le _) (show _ ≤ 3 by omega) (by omega)]
  refine er_if_eqF (pc' := 7) rfl (by decide +kernel) rfl ?_
  refine er_loc (pc' := 8) rfl rfl rfl ?_
  refine er_cSi (pc' := 11) (rest := []) rfl rfl rfl (l_mSheet _ _ _) ?_
  rw [sIn_t (Nat.zero_le _) (show _ ≤ 3 by omega) (by omega)]
  refine er_if_neT rfl (by decide +kernel) ?_
  refine er_loc (pc' := 18) rfl rfl rfl ?_
  refine er_gf (pc' := 21) (_) rfl rfl rfl rfl rfl ?_
  refine er_loc (pc' := 22) rfl rfl rfl ?_
  refine er_ia (pc' := 23) (a) rfl rfl rfl rfl ha rfl rfl ?_
  refine er_if_eq (pc' := 26) rfl rfl (fun h23 => ?_) (fun h23 => ?_)
  · refine er_ldc (pc' := 37) (-1000000002) rfl rfl rfl rfl rfl ?_
    refine er_iret rfl rfl ?_
    exact PI_of rfl
  · refine er_loc (pc' := 27) rfl rfl rfl ?_
    refine er_gf (pc' := 30) (_) rfl rfl rfl rfl rfl ?_
    refine er_loc (pc' := 31) rfl rfl rfl ?_
    refine er_ia (pc' := 32) (p) rfl rfl rfl rfl hp rfl rfl ?_
    refine er_if_ne (pc' := 35) rfl rfl (fun h32 => ?_) (fun h32 => ?_)
    · rcases hb with hb | hb; exact absurd hb h23; exact absurd hb h32
    · refine er_ldc (pc' := 37) (-1000000002) rfl rfl rfl rfl rfl ?_
      refine er_iret rfl rfl ?_
      exact PI_of rfl
set_option maxRecDepth 100000 in
set_option maxHeartbeats 4000000 in
theorem l_rNm_k (d : Nat) (X Z : Nat → Nat → Int32) {a p : Nat} (ha : a < 4) (hp : p < 4) (i j n : Int32) (hb1 : ¬ X 76 a = 0) (hb2 : ¬ X 76 p = 0) (hne : ¬ X 76 a = X 76 p) : EC (d + 3) 217 [.ref 63, .int (nI a), .int i, .int (nI p), .int j, .int n] (Wd X Z) (PI (-1000000005) (Wd X Z)) := by
  refine er_enter (L := [(0, _), (1, _), (2, _), (3, _), (4, _), (5, _)]) rfl rfl rfl ?_
  refine er_loc (pc' := 1) rfl rfl rfl ?_
  refine er_cSi (pc' := 4) (rest := []) rfl rfl rfl (l_mSheet _ _ _) ?_
  rw [sIn_t (Nat.zero_le _) (show _ ≤ 3 by omega) (by omega)]
  refine er_if_eqF (pc' := 7) rfl (by decide +kernel) rfl ?_
  refine er_loc (pc' := 8) rfl rfl rfl ?_
  refine er_cSi (pc' := 11) (rest := []) rfl rfl rfl (l_mSheet _ _ _) ?_
  rw [sIn_t (Nat.zero_le _) (show _ ≤ 3 by omega) (by omega)]
  refine er_if_neT rfl (by decide +kernel) ?_
  refine er_loc (pc' := 18) rfl rfl rfl ?_
  refine er_gf (pc' := 21) (_) rfl rfl rfl rfl rfl ?_
  refine er_loc (pc' := 22) rfl rfl rfl ?_
  refine er_ia (pc' := 23) (a) rfl rfl rfl rfl ha rfl rfl ?_
  refine er_if_eqF (pc' := 26) rfl (hb1) rfl ?_
  refine er_loc (pc' := 27) rfl rfl rfl ?_
  refine er_gf (pc' := 30) (_) rfl rfl rfl rfl rfl ?_
  refine er_loc (pc' := 31) rfl rfl rfl ?_
  refine er_ia (pc' := 32) (p) rfl rfl rfl rfl hp rfl rfl ?_
  refine er_if_neT rfl (hb2) ?_
  refine er_loc (pc' := 39) rfl rfl rfl ?_
  refine er_gf (pc' := 42) (_) rfl rfl rfl rfl rfl ?_
  refine er_loc (pc' := 43) rfl rfl rfl ?_
  refine er_ia (pc' := 44) (a) rfl rfl rfl rfl (by omega) rfl rfl ?_
  refine er_loc (pc' := 45) rfl rfl rfl ?_
  refine er_gf (pc' := 48) (_) rfl rfl rfl rfl rfl ?_
  refine er_loc (pc' := 49) rfl rfl rfl ?_
  refine er_ia (pc' := 50) (p) rfl rfl rfl rfl hp rfl rfl ?_
  refine er_cm_eqF (pc' := 53) rfl (hne) rfl ?_
  refine er_ldc (pc' := 55) (-1000000005) rfl rfl rfl rfl rfl ?_
  refine er_iret rfl rfl ?_
  exact PI_of rfl
set_option maxRecDepth 100000 in
set_option maxHeartbeats 4000000 in
theorem l_rNm (d : Nat) (X Z : Nat → Nat → Int32) {a p : Nat} (ha : a < 4) (hp : p < 4) (i j n : Int32) (hb1 : ¬ X 76 a = 0) (hb2 : ¬ X 76 p = 0) (heq : X 76 a = X 76 p) {g e : Nat} (hg : X 77 a = nI g) (he : X 77 p = nI e) : EC (d + 3) 217 [.ref 63, .int (nI a), .int i, .int (nI p), .int j, .int n] (Wd X Z) (PI (cond (yMay g e i j n) (nI 0) (-1000000001)) (Wd X Z)) := by
  refine er_enter (L := [(0, _), (1, _), (2, _), (3, _), (4, _), (5, _)]) rfl rfl rfl ?_
  refine er_loc (pc' := 1) rfl rfl rfl ?_
  refine er_cSi (pc' := 4) (rest := []) rfl rfl rfl (l_mSheet _ _ _) ?_
  rw [sIn_t (Nat.zero_le _) (show _ ≤ 3 by omega) (by omega)]
  refine er_if_eqF (pc' := 7) rfl (by decide +kernel) rfl ?_
  refine er_loc (pc' := 8) rfl rfl rfl ?_
  refine er_cSi (pc' := 11) (rest := []) rfl rfl rfl (l_mSheet _ _ _) ?_
  rw [sIn_t (Nat.zero_le _) (show _ ≤ 3 by omega) (by omega)]
  refine er_if_neT rfl (by decide +kernel) ?_
  refine er_loc (pc' := 18) rfl rfl rfl ?_
  refine er_gf (pc' := 21) (_) rfl rfl rfl rfl rfl ?_
  refine er_loc (pc' := 22) rfl rfl rfl ?_
  refine er_ia (pc' := 23) (a) rfl rfl rfl rfl ha rfl rfl ?_
  refine er_if_eqF (pc' := 26) rfl (hb1) rfl ?_
  refine er_loc (pc' := 27) rfl rfl rfl ?_
  refine er_gf (pc' := 30) (_) rfl rfl rfl rfl rfl ?_
  refine er_loc (pc' := 31) rfl rfl rfl ?_
  refine er_ia (pc' := 32) (p) rfl rfl rfl rfl hp rfl rfl ?_
  refine er_if_neT rfl (hb2) ?_
  refine er_loc (pc' := 39) rfl rfl rfl ?_
  refine er_gf (pc' := 42) (_) rfl rfl rfl rfl rfl ?_
  refine er_loc (pc' := 43) rfl rfl rfl ?_
  refine er_ia (pc' := 44) (a) rfl rfl rfl rfl (by omega) rfl rfl ?_
  refine er_loc (pc' := 45) rfl rfl rfl ?_
  refine er_gf (pc' := 48) (_) rfl rfl rfl rfl rfl ?_
  refine er_loc (pc' := 49) rfl rfl rfl ?_
  refine er_ia (pc' := 50) (p) rfl rfl rfl rfl hp rfl rfl ?_
  refine er_cm_eqT rfl (heq) ?_
  refine er_loc (pc' := 58) rfl rfl rfl ?_
  refine er_if_lt (pc' := 61) rfl rfl (fun h58 => ?_) (fun h58 => ?_)
  · refine er_k (pc' := 102) (nI 0) rfl rfl rfl ?_
    refine er_loc (pc' := 104) (L' := [(6, _), (0, _), (1, _), (2, _), (3, _), (4, _), (5, _)]) rfl rfl rfl ?_
    refine er_loc (pc' := 106) rfl rfl rfl ?_
    refine er_if_eqT rfl (by decide +kernel) ?_
    refine er_ldc (pc' := 115) (-1000000001) rfl rfl rfl rfl rfl ?_
    refine er_iret rfl rfl ?_
    have e : yMay g e i j n = false := by unfold yMay; rw [decide_eq_true h58]; simp
    rw [e]
    exact PI_of rfl
  · refine er_loc (pc' := 62) rfl rfl rfl ?_
    refine er_if_lt (pc' := 65) rfl rfl (fun h62 => ?_) (fun h62 => ?_)
    · refine er_k (pc' := 102) (nI 0) rfl rfl rfl ?_
      refine er_loc (pc' := 104) (L' := [(6, _), (0, _), (1, _), (2, _), (3, _), (4, _), (5, _)]) rfl rfl rfl ?_
      refine er_loc (pc' := 106) rfl rfl rfl ?_
      refine er_if_eqT rfl (by decide +kernel) ?_
      refine er_ldc (pc' := 115) (-1000000001) rfl rfl rfl rfl rfl ?_
      refine er_iret rfl rfl ?_
      have e : yMay g e i j n = false := by unfold yMay; rw [decide_eq_true h62]; simp
      rw [e]
      exact PI_of rfl
    · refine er_loc (pc' := 67) rfl rfl rfl ?_
      refine er_if_lt (pc' := 70) rfl rfl (fun h67 => ?_) (fun h67 => ?_)
      · refine er_k (pc' := 102) (nI 0) rfl rfl rfl ?_
        refine er_loc (pc' := 104) (L' := [(6, _), (0, _), (1, _), (2, _), (3, _), (4, _), (5, _)]) rfl rfl rfl ?_
        refine er_loc (pc' := 106) rfl rfl rfl ?_
        refine er_if_eqT rfl (by decide +kernel) ?_
        refine er_ldc (pc' := 115) (-1000000001) rfl rfl rfl rfl rfl ?_
        refine er_iret rfl rfl ?_
        have e : yMay g e i j n = false := by unfold yMay; rw [decide_eq_true h67]; simp
        rw [e]
        exact PI_of rfl
      · refine er_loc (pc' := 72) rfl rfl rfl ?_
        refine er_loc (pc' := 73) rfl rfl rfl ?_
        refine er_gf (pc' := 76) (_) rfl rfl rfl rfl rfl ?_
        refine er_loc (pc' := 77) rfl rfl rfl ?_
        refine er_ia (pc' := 78) (a) rfl rfl rfl rfl (by omega) rfl rfl ?_
        rw [hg]
        refine er_loc (pc' := 79) rfl rfl rfl ?_
        refine er_isub (pc' := 80) rfl rfl ?_
        refine er_cm_gt (pc' := 83) rfl rfl (fun h80 => ?_) (fun h80 => ?_)
        · refine er_k (pc' := 102) (nI 0) rfl rfl rfl ?_
          refine er_loc (pc' := 104) (L' := [(6, _), (0, _), (1, _), (2, _), (3, _), (4, _), (5, _)]) rfl rfl rfl ?_
          refine er_loc (pc' := 106) rfl rfl rfl ?_
          refine er_if_eqT rfl (by decide +kernel) ?_
          refine er_ldc (pc' := 115) (-1000000001) rfl rfl rfl rfl rfl ?_
          refine er_iret rfl rfl ?_
          have e : yMay g e i j n = false := by unfold yMay; rw [decide_eq_true h80]; simp
          rw [e]
          exact PI_of rfl
        · refine er_loc (pc' := 85) rfl rfl rfl ?_
          refine er_loc (pc' := 86) rfl rfl rfl ?_
          refine er_gf (pc' := 89) (_) rfl rfl rfl rfl rfl ?_
          refine er_loc (pc' := 90) rfl rfl rfl ?_
          refine er_ia (pc' := 91) (p) rfl rfl rfl rfl (by omega) rfl rfl ?_
          rw [he]
          refine er_loc (pc' := 93) rfl rfl rfl ?_
          refine er_isub (pc' := 94) rfl rfl ?_
          refine er_cm_gt (pc' := 97) rfl rfl (fun h94 => ?_) (fun h94 => ?_)
          · refine er_k (pc' := 102) (nI 0) rfl rfl rfl ?_
            refine er_loc (pc' := 104) (L' := [(6, _), (0, _), (1, _), (2, _), (3, _), (4, _), (5, _)]) rfl rfl rfl ?_
            refine er_loc (pc' := 106) rfl rfl rfl ?_
            refine er_if_eqT rfl (by decide +kernel) ?_
            refine er_ldc (pc' := 115) (-1000000001) rfl rfl rfl rfl rfl ?_
            refine er_iret rfl rfl ?_
            have e : yMay g e i j n = false := by unfold yMay; rw [decide_eq_true h94]; simp
            rw [e]
            exact PI_of rfl
          · refine er_k (pc' := 98) (nI 1) rfl rfl rfl ?_
            refine er_goto rfl ?_
            refine er_loc (pc' := 104) (L' := [(6, _), (0, _), (1, _), (2, _), (3, _), (4, _), (5, _)]) rfl rfl rfl ?_
            refine er_loc (pc' := 106) rfl rfl rfl ?_
            refine er_if_eqF (pc' := 109) rfl (by decide +kernel) rfl ?_
            refine er_k (pc' := 110) (nI 0) rfl rfl rfl ?_
            refine er_goto rfl ?_
            refine er_iret rfl rfl ?_
            have e : yMay g e i j n = true := by unfold yMay; rw [decide_eq_false h58, decide_eq_false h62, decide_eq_false h67, decide_eq_false h80, decide_eq_false h94]; rfl
            rw [e]
            exact PI_of rfl
set_option maxRecDepth 100000 in
set_option maxHeartbeats 4000000 in
theorem l_rMove_no (d : Nat) (X Z : Nat → Nat → Int32) (s i p j n : Int32) (hs : (sIn s (nI 0) (nI 3) && sIn p (nI 0) (nI 3)) = false) : EC (d + 4) 216 [.ref 63, .int s, .int i, .int p, .int j, .int n] (Wd X Z) (RI (sErr 1) (yErr X 1)) := by
  refine er_enter (L := [(0, _), (1, _), (2, _), (3, _), (4, _), (5, _)]) rfl rfl rfl ?_
  refine er_loc (pc' := 1) rfl rfl rfl ?_
  refine er_loc (pc' := 2) rfl rfl rfl ?_
  refine er_loc (pc' := 3) rfl rfl rfl ?_
  refine er_loc (pc' := 4) rfl rfl rfl ?_
  refine er_loc (pc' := 6) rfl rfl rfl ?_
  refine er_loc (pc' := 8) rfl rfl rfl ?_
  refine er_cIi (pc' := 11) (rest := []) 12 rfl rfl rfl rfl rfl rfl (l_rNm_s _ _ _ _ _ _ _ _ hs) ?_
  refine er_loc (pc' := 13) (L' := [(6, _), (0, _), (1, _), (2, _), (3, _), (4, _), (5, _)]) rfl rfl rfl ?_
  refine er_loc (pc' := 15) rfl rfl rfl ?_
  refine er_if_eqF (pc' := 18) rfl (by decide +kernel) rfl ?_
  refine er_loc (pc' := 19) rfl rfl rfl ?_
  refine er_loc (pc' := 21) rfl rfl rfl ?_
  refine er_cIz (pc' := 24) (rest := []) 12 rfl rfl rfl rfl rfl rfl (l_rError1 _ _ _) ?_
  intro Z9
  refine er_iret rfl rfl ?_
  exact RI_of rfl rfl
set_option maxRecDepth 100000 in
set_option maxHeartbeats 4000000 in
theorem l_rMove_0 (d : Nat) (X Z : Nat → Nat → Int32) {a p : Nat} (ha : a < 4) (hp : p < 4) (i j n : Int32) (hb : X 76 a = 0 ∨ X 76 p = 0) : EC (d + 4) 216 [.ref 63, .int (nI a), .int i, .int (nI p), .int j, .int n] (Wd X Z) (RI (sErr 2) (yErr X 2)) := by
  refine er_enter (L := [(0, _), (1, _), (2, _), (3, _), (4, _), (5, _)]) rfl rfl rfl ?_
  refine er_loc (pc' := 1) rfl rfl rfl ?_
  refine er_loc (pc' := 2) rfl rfl rfl ?_
  refine er_loc (pc' := 3) rfl rfl rfl ?_
  refine er_loc (pc' := 4) rfl rfl rfl ?_
  refine er_loc (pc' := 6) rfl rfl rfl ?_
  refine er_loc (pc' := 8) rfl rfl rfl ?_
  refine er_cIi (pc' := 11) (rest := []) 12 rfl rfl rfl rfl rfl rfl (l_rNm_0 _ _ _ ha hp _ _ _ hb) ?_
  refine er_loc (pc' := 13) (L' := [(6, _), (0, _), (1, _), (2, _), (3, _), (4, _), (5, _)]) rfl rfl rfl ?_
  refine er_loc (pc' := 15) rfl rfl rfl ?_
  refine er_if_eqF (pc' := 18) rfl (by decide +kernel) rfl ?_
  refine er_loc (pc' := 19) rfl rfl rfl ?_
  refine er_loc (pc' := 21) rfl rfl rfl ?_
  refine er_cIz (pc' := 24) (rest := []) 12 rfl rfl rfl rfl rfl rfl (l_rError2 _ _ _) ?_
  intro Z9
  refine er_iret rfl rfl ?_
  exact RI_of rfl rfl
set_option maxRecDepth 100000 in
set_option maxHeartbeats 4000000 in
theorem l_rMove_k (d : Nat) (X Z : Nat → Nat → Int32) {a p : Nat} (ha : a < 4) (hp : p < 4) (i j n : Int32) (hb1 : ¬ X 76 a = 0) (hb2 : ¬ X 76 p = 0) (hne : ¬ X 76 a = X 76 p) : EC (d + 4) 216 [.ref 63, .int (nI a), .int i, .int (nI p), .int j, .int n] (Wd X Z) (RI (sErr 5) (yErr X 5)) := by
  refine er_enter (L := [(0, _), (1, _), (2, _), (3, _), (4, _), (5, _)]) rfl rfl rfl ?_
  refine er_loc (pc' := 1) rfl rfl rfl ?_
  refine er_loc (pc' := 2) rfl rfl rfl ?_
  refine er_loc (pc' := 3) rfl rfl rfl ?_
  refine er_loc (pc' := 4) rfl rfl rfl ?_
  refine er_loc (pc' := 6) rfl rfl rfl ?_
  refine er_loc (pc' := 8) rfl rfl rfl ?_
  refine er_cIi (pc' := 11) (rest := []) 12 rfl rfl rfl rfl rfl rfl (l_rNm_k _ _ _ ha hp _ _ _ hb1 hb2 hne) ?_
  refine er_loc (pc' := 13) (L' := [(6, _), (0, _), (1, _), (2, _), (3, _), (4, _), (5, _)]) rfl rfl rfl ?_
  refine er_loc (pc' := 15) rfl rfl rfl ?_
  refine er_if_eqF (pc' := 18) rfl (by decide +kernel) rfl ?_
  refine er_loc (pc' := 19) rfl rfl rfl ?_
  refine er_loc (pc' := 21) rfl rfl rfl ?_
  refine er_cIz (pc' := 24) (rest := []) 12 rfl rfl rfl rfl rfl rfl (l_rError5 _ _ _) ?_
  intro Z9
  refine er_iret rfl rfl ?_
  exact RI_of rfl rfl
set_option maxRecDepth 100000 in
set_option maxHeartbeats 4000000 in
theorem l_rMove_b (d : Nat) (X Z : Nat → Nat → Int32) {a p : Nat} (ha : a < 4) (hp : p < 4) (i j n : Int32) (hb1 : ¬ X 76 a = 0) (hb2 : ¬ X 76 p = 0) (heq : X 76 a = X 76 p) {g e : Nat} (hg : X 77 a = nI g) (he : X 77 p = nI e) (hm : yMay g e i j n = false) : EC (d + 4) 216 [.ref 63, .int (nI a), .int i, .int (nI p), .int j, .int n] (Wd X Z) (RI (sErr 1) (yErr X 1)) := by
  refine er_enter (L := [(0, _), (1, _), (2, _), (3, _), (4, _), (5, _)]) rfl rfl rfl ?_
  refine er_loc (pc' := 1) rfl rfl rfl ?_
  refine er_loc (pc' := 2) rfl rfl rfl ?_
  refine er_loc (pc' := 3) rfl rfl rfl ?_
  refine er_loc (pc' := 4) rfl rfl rfl ?_
  refine er_loc (pc' := 6) rfl rfl rfl ?_
  refine er_loc (pc' := 8) rfl rfl rfl ?_
  refine er_cIi (pc' := 11) (rest := []) 12 rfl rfl rfl rfl rfl rfl (l_rNm _ _ _ ha hp _ _ _ hb1 hb2 heq hg he) ?_
  rw [hm]
  refine er_loc (pc' := 13) (L' := [(6, _), (0, _), (1, _), (2, _), (3, _), (4, _), (5, _)]) rfl rfl rfl ?_
  refine er_loc (pc' := 15) rfl rfl rfl ?_
  refine er_if_eqF (pc' := 18) rfl (by decide +kernel) rfl ?_
  refine er_loc (pc' := 19) rfl rfl rfl ?_
  refine er_loc (pc' := 21) rfl rfl rfl ?_
  refine er_cIz (pc' := 24) (rest := []) 12 rfl rfl rfl rfl rfl rfl (l_rError1 _ _ _) ?_
  intro Z9
  refine er_iret rfl rfl ?_
  exact RI_of rfl rfl
theorem mv_f {f : Nat → Int32} {s q i : Nat} (h : ¬ (q ≤ s + i ∧ s + i < q + i)) : u1 (cpf f f s q i) (q + i) (cpf f f s q i (s + i)) = cpf f f s q (i + 1) := by
  rw [show cpf f f s q i (s + i) = f (s + i) from if_neg h]
  funext j
  rw [u1_at, cpf_at, cpf_at]
  by_cases h1 : j = q + i
  · subst h1
    rw [if_pos rfl, if_pos ⟨by omega, by omega⟩]
    congr 1
    omega
  · rw [if_neg h1]
    by_cases h2 : q ≤ j ∧ j < q + i
    · rw [if_pos h2, if_pos ⟨h2.1, by omega⟩]
    · rw [if_neg h2, if_neg (fun hh => h2 ⟨hh.1, by omega⟩)]
theorem mv_b {f : Nat → Int32} {s q i : Nat} (h : ¬ (q + 1 ≤ s ∧ s < q + 1 + i)) : u1 (cpf f f (s + 1) (q + 1) i) q (cpf f f (s + 1) (q + 1) i s) = cpf f f s q (i + 1) := by
  rw [show cpf f f (s + 1) (q + 1) i s = f s from if_neg h]
  funext j
  rw [u1_at, cpf_at, cpf_at]
  by_cases h1 : j = q
  · subst h1
    rw [if_pos rfl, if_pos ⟨by omega, by omega⟩]
    congr 1
    omega
  · rw [if_neg h1]
    by_cases h2 : q + 1 ≤ j ∧ j < q + 1 + i
    · rw [if_pos h2, if_pos ⟨by omega, by omega⟩]
      congr 1
      omega
    · rw [if_neg h2, if_neg (fun hh => h2 ⟨by omega, by omega⟩)]
set_option maxRecDepth 100000 in
set_option maxHeartbeats 4000000 in
theorem l_rMf_loop (d : Nat) (X Z : Nat → Nat → Int32) {a p i0 j0 n : Nat} (ha : a < 4) (hp : p < 4) (h1 : i0 + n ≤ 40) (h2 : j0 + n ≤ 40) (hge : j0 ≤ i0) : ∀ (m i : Nat) (x : Int32), i + m = n → x = nI i → ER (d + 1) tb_m216 28 [(0, .ref 63), (1, .int (nI a)), (2, .int (nI i0)), (3, .int (nI p)), (4, .int (nI j0)), (5, .int (nI n)), (7, .int x)] [] (Wd (uc X 78 (cpf (X 78) (X 78) (40 * a + i0) (40 * p + j0) i)) Z) (RI (nI n) (uc X 78 (cpf (X 78) (X 78) (40 * a + i0) (40 * p + j0) n)))
  | 0, i, x, hi, h0 => by
    have hi0 : i = n := by omega
    subst h0
    subst hi0
    refine er_loc (pc' := 30) rfl rfl rfl ?_
    refine er_loc (pc' := 32) rfl rfl rfl ?_
    refine er_cm_geT rfl (nI_nlt (by omega) (by omega)) ?_
    refine er_loc (pc' := 92) rfl rfl rfl ?_
    refine er_iret rfl rfl ?_
    exact RI_of rfl rfl
  | m + 1, i, x, hi, h0 => by
    subst h0
    refine er_loc (pc' := 30) rfl rfl rfl ?_
    refine er_loc (pc' := 32) rfl rfl rfl ?_
    refine er_cm_geF (pc' := 35) rfl (nI_lt (by omega) (by omega)) rfl ?_
    refine er_loc (pc' := 36) rfl rfl rfl ?_
    refine er_loc (pc' := 38) rfl rfl rfl ?_
    refine er_cm_geT rfl (nI_nlt hge (by omega)) ?_
    refine er_loc (pc' := 53) rfl rfl rfl ?_
    refine er_loc (pc' := 55) (L' := [(8, _), (0, _), (1, _), (2, _), (3, _), (4, _), (5, _), (7, _)]) rfl rfl rfl ?_
    refine er_loc (pc' := 56) rfl rfl rfl ?_
    refine er_gf (pc' := 59) (_) rfl rfl rfl rfl rfl ?_
    refine er_k (pc' := 61) (nI 40) rfl rfl rfl ?_
    refine er_loc (pc' := 62) rfl rfl rfl ?_
    refine er_imul (pc' := 63) rfl rfl ?_
    refine er_loc (pc' := 65) rfl rfl rfl ?_
    refine er_iadd (pc' := 66) rfl rfl ?_
    refine er_loc (pc' := 68) rfl rfl rfl ?_
    refine er_iadd (pc' := 69) rfl rfl ?_
    refine er_loc (pc' := 70) rfl rfl rfl ?_
    refine er_gf (pc' := 73) (_) rfl rfl rfl rfl rfl ?_
    refine er_k (pc' := 75) (nI 40) rfl rfl rfl ?_
    refine er_loc (pc' := 76) rfl rfl rfl ?_
    refine er_imul (pc' := 77) rfl rfl ?_
    refine er_loc (pc' := 78) rfl rfl rfl ?_
    refine er_iadd (pc' := 79) rfl rfl ?_
    refine er_loc (pc' := 81) rfl rfl rfl ?_
    refine er_iadd (pc' := 82) rfl rfl ?_
    refine er_ia (pc' := 83) ((((40 * a) + i0) + i)) rfl rfl rfl (by simp only [nI_add, nI_mul]) (by omega) rfl rfl ?_
    refine er_isX (pc' := 84) ((((40 * p) + j0) + i)) rfl rfl (fun _ => rfl) (by simp only [nI_add, nI_mul]) (by omega) rfl rfl ?_
    refine er_loc (L' := [(7, .int (_ + nI 1)), (8, _), (0, _), (1, _), (2, _), (3, _), (4, _), (5, _)]) rfl rfl rfl ?_
    refine er_goto rfl ?_
    refine ER_loc [(0, _), (1, _), (2, _), (3, _), (4, _), (5, _), (7, _)] rfl (List.forall_mem_cons.mpr ⟨rfl, List.forall_mem_cons.mpr ⟨rfl, List.forall_mem_cons.mpr ⟨rfl, List.forall_mem_cons.mpr ⟨rfl, List.forall_mem_cons.mpr ⟨rfl, List.forall_mem_cons.mpr ⟨rfl, List.forall_mem_cons.mpr ⟨rfl, fun _ h => absurd h List.not_mem_nil⟩⟩⟩⟩⟩⟩⟩) rfl rfl ?_
    have ih := l_rMf_loop d X Z ha hp h1 h2 hge m (i + 1) _ (by omega) (nI_add i 1)
    rw [show ud (uc X 78 (cpf (X 78) (X 78) (40 * a + i0) (40 * p + j0) i)) 78 (40 * p + j0 + i) (uc X 78 (cpf (X 78) (X 78) (40 * a + i0) (40 * p + j0) i) 78 (40 * a + i0 + i)) = uc X 78 (cpf (X 78) (X 78) (40 * a + i0) (40 * p + j0) (i + 1)) from by unfold ud; rw [uc_uc, uc_same, mv_f (by omega)]]
    exact ih
theorem nI_s1n {n : Nat} (h : 1 ≤ n) : nI n - nI 1 = nI (n - 1) := nI_sub h
set_option maxRecDepth 100000 in
set_option maxHeartbeats 4000000 in
theorem l_rMb_loop (d : Nat) (X Z : Nat → Nat → Int32) {a p i0 j0 n : Nat} (ha : a < 4) (hp : p < 4) (h1 : i0 + n ≤ 40) (h2 : j0 + n ≤ 40) (hge : i0 < j0) : ∀ (m i : Nat) (x : Int32), i + m = n → x = nI i → ER (d + 1) tb_m216 28 [(0, .ref 63), (1, .int (nI a)), (2, .int (nI i0)), (3, .int (nI p)), (4, .int (nI j0)), (5, .int (nI n)), (7, .int x)] [] (Wd (uc X 78 (cpf (X 78) (X 78) (40 * a + i0 + m) (40 * p + j0 + m) i)) Z) (RI (nI n) (uc X 78 (cpf (X 78) (X 78) (40 * a + i0) (40 * p + j0) n)))
  | 0, i, x, hi, h0 => by
    have hi0 : i = n := by omega
    subst h0
    subst hi0
    refine er_loc (pc' := 30) rfl rfl rfl ?_
    refine er_loc (pc' := 32) rfl rfl rfl ?_
    refine er_cm_geT rfl (nI_nlt (by omega) (by omega)) ?_
    refine er_loc (pc' := 92) rfl rfl rfl ?_
    refine er_iret rfl rfl ?_
    exact RI_of rfl rfl
  | m + 1, i, x, hi, h0 => by
    subst h0
    refine er_loc (pc' := 30) rfl rfl rfl ?_
    refine er_loc (pc' := 32) rfl rfl rfl ?_
    refine er_cm_geF (pc' := 35) rfl (nI_lt (by omega) (by omega)) rfl ?_
    refine er_loc (pc' := 36) rfl rfl rfl ?_
    refine er_loc (pc' := 38) rfl rfl rfl ?_
    refine er_cm_geF (pc' := 41) rfl (nI_lt hge (by omega)) rfl ?_
    refine er_loc (pc' := 43) rfl rfl rfl ?_
    refine er_k (pc' := 44) (nI 1) rfl rfl rfl ?_
    refine er_isub rfl rfl ?_
    refine er_loc (pc' := 47) rfl rfl rfl ?_
    refine er_isub rfl rfl ?_
    rw [nI_s1n (show 1 ≤ n by omega), nI_sub (show i ≤ n - 1 by omega), show n - 1 - i = m by omega]
    refine er_goto rfl ?_
    refine er_loc (pc' := 55) (L' := [(8, _), (0, _), (1, _), (2, _), (3, _), (4, _), (5, _), (7, _)]) rfl rfl rfl ?_
    refine er_loc (pc' := 56) rfl rfl rfl ?_
    refine er_gf (pc' := 59) (_) rfl rfl rfl rfl rfl ?_
    refine er_k (pc' := 61) (nI 40) rfl rfl rfl ?_
    refine er_loc (pc' := 62) rfl rfl rfl ?_
    refine er_imul (pc' := 63) rfl rfl ?_
    refine er_loc (pc' := 65) rfl rfl rfl ?_
    refine er_iadd (pc' := 66) rfl rfl ?_
    refine er_loc (pc' := 68) rfl rfl rfl ?_
    refine er_iadd (pc' := 69) rfl rfl ?_
    refine er_loc (pc' := 70) rfl rfl rfl ?_
    refine er_gf (pc' := 73) (_) rfl rfl rfl rfl rfl ?_
    refine er_k (pc' := 75) (nI 40) rfl rfl rfl ?_
    refine er_loc (pc' := 76) rfl rfl rfl ?_
    refine er_imul (pc' := 77) rfl rfl ?_
    refine er_loc (pc' := 78) rfl rfl rfl ?_
    refine er_iadd (pc' := 79) rfl rfl ?_
    refine er_loc (pc' := 81) rfl rfl rfl ?_
    refine er_iadd (pc' := 82) rfl rfl ?_
    refine er_ia (pc' := 83) ((((40 * a) + i0) + m)) rfl rfl rfl (by simp only [nI_add, nI_mul]) (by omega) rfl rfl ?_
    refine er_isX (pc' := 84) ((((40 * p) + j0) + m)) rfl rfl (fun _ => rfl) (by simp only [nI_add, nI_mul]) (by omega) rfl rfl ?_
    refine er_loc (L' := [(7, .int (_ + nI 1)), (8, _), (0, _), (1, _), (2, _), (3, _), (4, _), (5, _)]) rfl rfl rfl ?_
    refine er_goto rfl ?_
    refine ER_loc [(0, _), (1, _), (2, _), (3, _), (4, _), (5, _), (7, _)] rfl (List.forall_mem_cons.mpr ⟨rfl, List.forall_mem_cons.mpr ⟨rfl, List.forall_mem_cons.mpr ⟨rfl, List.forall_mem_cons.mpr ⟨rfl, List.forall_mem_cons.mpr ⟨rfl, List.forall_mem_cons.mpr ⟨rfl, List.forall_mem_cons.mpr ⟨rfl, fun _ h => absurd h List.not_mem_nil⟩⟩⟩⟩⟩⟩⟩) rfl rfl ?_
    have ih := l_rMb_loop d X Z ha hp h1 h2 hge m (i + 1) _ (by omega) (nI_add i 1)
    rw [show ud (uc X 78 (cpf (X 78) (X 78) (40 * a + i0 + (m + 1)) (40 * p + j0 + (m + 1)) i)) 78 (40 * p + j0 + m) (uc X 78 (cpf (X 78) (X 78) (40 * a + i0 + (m + 1)) (40 * p + j0 + (m + 1)) i) 78 (40 * a + i0 + m)) = uc X 78 (cpf (X 78) (X 78) (40 * a + i0 + m) (40 * p + j0 + m) (i + 1)) from by unfold ud; rw [uc_uc, uc_same]; exact congrArg _ (mv_b (s := 40 * a + i0 + m) (q := 40 * p + j0 + m) (by omega))]
    exact ih
set_option maxRecDepth 100000 in
set_option maxHeartbeats 4000000 in
theorem l_rMove (d : Nat) (X Z : Nat → Nat → Int32) {a p : Nat} (ha : a < 4) (hp : p < 4) (i j n : Int32) (hb1 : ¬ X 76 a = 0) (hb2 : ¬ X 76 p = 0) (heq : X 76 a = X 76 p) {g e : Nat} (hg : X 77 a = nI g) (hg40 : g ≤ 40) (he : X 77 p = nI e) (he40 : e ≤ 40) (hm : (sStand g i n && sStand e j n) = true) : EC (d + 4) 216 [.ref 63, .int (nI a), .int i, .int (nI p), .int j, .int n] (Wd X Z) (RI n (uc X 78 (cpf (X 78) (X 78) (40 * a + nN i) (40 * p + nN j) (nN n)))) := by
  have hm2 := hm
  rw [Bool.and_eq_true] at hm2
  obtain ⟨i0, n0, q1, rfl, rfl⟩ := stand_ex hg40 hm2.1
  obtain ⟨j0, n1, q2, rfl, e1⟩ := stand_ex he40 hm2.2
  have hn01 : n0 = n1 := nIj (by omega) (by omega) e1
  rw [nN_nI (by omega), nN_nI (by omega), nN_nI (by omega)]
  refine er_enter (L := [(0, _), (1, _), (2, _), (3, _), (4, _), (5, _)]) rfl rfl rfl ?_
  refine er_loc (pc' := 1) rfl rfl rfl ?_
  refine er_loc (pc' := 2) rfl rfl rfl ?_
  refine er_loc (pc' := 3) rfl rfl rfl ?_
  refine er_loc (pc' := 4) rfl rfl rfl ?_
  refine er_loc (pc' := 6) rfl rfl rfl ?_
  refine er_loc (pc' := 8) rfl rfl rfl ?_
  refine er_cIi (pc' := 11) (rest := []) 12 rfl rfl rfl rfl rfl rfl (l_rNm _ _ _ ha hp _ _ _ hb1 hb2 heq hg he) ?_
  rw [may_eq hg40 he40, hm]
  refine er_loc (pc' := 13) (L' := [(6, _), (0, _), (1, _), (2, _), (3, _), (4, _), (5, _)]) rfl rfl rfl ?_
  refine er_loc (pc' := 15) rfl rfl rfl ?_
  refine er_if_eqT rfl (by decide +kernel) ?_
  refine er_k (pc' := 26) (nI 0) rfl rfl rfl ?_
  refine er_loc (pc' := 28) (L' := [(7, _), (6, _), (0, _), (1, _), (2, _), (3, _), (4, _), (5, _)]) rfl rfl rfl ?_
  refine ER_loc [(0, _), (1, _), (2, _), (3, _), (4, _), (5, _), (7, _)] rfl (List.forall_mem_cons.mpr ⟨rfl, List.forall_mem_cons.mpr ⟨rfl, List.forall_mem_cons.mpr ⟨rfl, List.forall_mem_cons.mpr ⟨rfl, List.forall_mem_cons.mpr ⟨rfl, List.forall_mem_cons.mpr ⟨rfl, List.forall_mem_cons.mpr ⟨rfl, fun _ h => absurd h List.not_mem_nil⟩⟩⟩⟩⟩⟩⟩) rfl rfl ?_
  rcases Nat.lt_or_ge i0 j0 with hlt | hge
  · have h := l_rMb_loop (d + 2) X Z ha hp (n := n0) (i0 := i0) (j0 := j0) (by omega) (by omega) hlt n0 0 (nI 0) (by omega) rfl
    rw [cpf_z, uc_id] at h
    exact h
  · have h := l_rMf_loop (d + 2) X Z ha hp (n := n0) (i0 := i0) (j0 := j0) (by omega) (by omega) hge n0 0 (nI 0) (by omega) rfl
    rw [cpf_z, uc_id] at h
    exact h
set_option maxRecDepth 100000 in
set_option maxHeartbeats 4000000 in
theorem l_rTrace (d : Nat) (X Z : Nat → Nat → Int32) (i : Int32) (g : Nat) (hg : X 63 21 = nI g) (h40 : g ≤ 40) : EC (d + 3) 212 [.ref 63, .int i] (Wd X Z) (fun r => if sIn i (nI 0) (nI g - nI 1) = true then RI (X 75 (nN i)) X r else RI (sErr 2) (yErr X 2) r) := by
  refine er_enter (L := [(0, _), (1, _)]) rfl rfl rfl ?_
  refine er_loc (pc' := 1) rfl rfl rfl ?_
  refine er_k (pc' := 2) (nI 0) rfl rfl rfl ?_
  refine er_loc (pc' := 3) rfl rfl rfl ?_
  refine er_gf (pc' := 6) (.int (X 63 21)) rfl rfl rfl rfl rfl ?_
  rw [hg]
  refine er_k (pc' := 7) (nI 1) rfl rfl rfl ?_
  refine er_isub (pc' := 8) rfl rfl ?_
  refine er_cSi (pc' := 11) (rest := []) rfl rfl rfl (l_in _ _ _ _ _) ?_
  refine er_if_eqb (pc' := 14) rfl rfl (fun h11 => ?_) (fun h11 => ?_)
  · refine er_loc (pc' := 24) rfl rfl rfl ?_
    refine er_ldc (pc' := 26) (-1000000002) rfl rfl rfl rfl rfl ?_
    refine er_cIz (pc' := 29) (rest := []) 12 rfl rfl rfl rfl rfl rfl (l_rError2 _ _ _) ?_
    intro Z9
    refine er_iret rfl rfl ?_
    rw [if_neg (by rw [h11]; decide)]
    exact RI_of rfl rfl
  · obtain ⟨j, hj, hij⟩ := sIn_lt (by omega) h11
    have hj2 : nN i = j := by rw [hij]; exact nN_nI (by omega)
    have hkn : i = nI (nN i) := by rw [hj2, hij]
    refine er_loc (pc' := 15) rfl rfl rfl ?_
    refine er_gf (pc' := 18) (_) rfl rfl rfl rfl rfl ?_
    refine er_loc (pc' := 19) rfl rfl rfl ?_
    refine er_ia (pc' := 20) (nN i) rfl rfl rfl hkn (by omega) rfl rfl ?_
    refine er_goto rfl ?_
    refine er_iret rfl rfl ?_
    rw [if_pos h11]
    exact RI_of rfl rfl
end
