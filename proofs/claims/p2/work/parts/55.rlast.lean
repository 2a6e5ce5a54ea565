/-! THE REFERENCE: how long, what may be -/
theorem nIj {a b : Nat} (ha : a < 2 ^ 31) (hb : b < 2 ^ 31) (h : nI a = nI b) : a = b := by
  have e := congrArg nN h
  rwa [nN_nI ha, nN_nI hb] at e
def jHas (J : Nat → Nat → Int32) (s : Int32) : Bool := !decide (s < 0) && decide (s < J 0 1)
theorem I_lt {x y : Int32} : (x < y) ↔ (x.toInt < y.toInt) := Int32.lt_iff_toInt_lt
theorem jHas_in {s : Int32} {n : Nat} (h : n ≤ 8) : sIn s (nI 0) (nI n - nI 1) = (!decide (s < 0) && decide (s < nI n)) := by
  unfold sIn
  have e0 : (nI 0 : Int32) = 0 := by decide +kernel
  rw [e0]
  by_cases h0 : s < 0
  · rw [decide_eq_true h0]; rfl
  · rw [decide_eq_false h0]
    have h1 : ¬ s.toInt < 0 := fun hh => h0 (I_lt.mpr hh)
    have en : (nI n).toInt = (n : Int) := nI_toInt (by omega)
    have em : (nI n - nI 1).toInt = (n : Int) - 1 := fin_le (m := 8) (p := fun n => (nI n - nI 1).toInt = (n : Int) - 1) h (by decide +kernel)
    have e : (!decide (nI n - nI 1 < s)) = decide (s < nI n) := by
      rw [← decide_not]
      apply decide_eq_decide.mpr
      rw [I_lt, I_lt, en, em]
      omega
    rw [e]
theorem jHas_t {T : Nat} {J : Nat → Nat → Int32} {k : Nat} (hI : IJ T J) (hk : k < jn J) : jHas J (nI k) = true := by
  unfold jHas
  have h8 := jn8 hI
  rw [show J 0 1 = nI (jn J) from hI.n.1, decide_eq_false (nI_pos (by omega)), decide_eq_true (nI_lt hk (by omega))]
  rfl
theorem sar_bt {x : Int32} {k : Nat} (h : k < 32) : ((x >>> (nI k &&& 31)) &&& nI 1) = nI 1 ↔ bt x k = true := by
  rw [nI1_and]
  have e : bt (x >>> (nI k &&& 31)) 0 = bt x k := by
    unfold bt
    rw [Int32.toBitVec_shiftRight, show ((nI k &&& 31).toBitVec.smod 32) = BitVec.ofNat 32 k from fin32 (p := fun k => ((nI k &&& 31).toBitVec.smod 32) = BitVec.ofNat 32 k) h (by decide +kernel)]
    show (x.toBitVec.sshiftRight (BitVec.ofNat 32 k).toNat).getLsbD 0 = _
    rw [BitVec.getLsbD_sshiftRight, BitVec.toNat_ofNat, Nat.mod_eq_of_lt (by omega)]
    simp [h]
  rw [e]
theorem tired_eq {T : Nat} {J : Nat → Nat → Int32} (h : IJ T J) (hT : T < 2 ^ 31) : sHeld (J 0 10 / nI 30) (nI 0) (nI 9) = sTired J := by
  obtain ⟨h1, h2⟩ := h.minute
  have hn : (J 0 10).toInt = (nN (J 0 10) : Int) := by
    conv => lhs; rw [h1]
    exact nI_toInt (by omega)
  have e30 : (nI 30).toInt = 30 := nI_toInt (by omega)
  have hv : (J 0 10 / nI 30).toInt = (J 0 10).toInt.tdiv 30 := by
    rw [Int32.toInt_div_of_ne_right _ _ (by decide +kernel), e30]
  have h0 : ¬ J 0 10 / nI 30 < nI 0 := by
    rw [I_lt, hv, hn, show (nI 0).toInt = 0 from nI_toInt (by omega)]
    have : (0 : Int) ≤ (nN (J 0 10) : Int).tdiv 30 := Int.tdiv_nonneg (by omega) (by omega)
    omega
  unfold sHeld sTired
  rw [if_neg h0]
  generalize J 0 10 / nI 30 = v at *
  by_cases h9 : nI 9 < v
  · rw [if_pos h9, if_neg (fun hh => by rw [I_lt] at h9 hh; omega)]
  · rw [if_neg h9]
    by_cases h8 : v < nI 9
    · rw [if_pos h8]
    · rw [if_neg h8]
      apply Int32.toInt_inj.mp
      rw [I_lt] at h9 h8
      omega
theorem l_rHas (d : Nat) (X Z : Nat → Nat → Int32) {T : Nat} (hI : RK T (X 64)) (s : Int32) : EC (d + 2) 132 [.ref 63, .int s] (Wd X Z) (PI (bI (jHas (jm (X 64)) s)) (Wd X Z)) := by
  refine (l_rIsStep d X Z s).mono (fun r hr => ?_)
  rw [show X 64 2 - nI 1 = nI (jn (jm (X 64))) - nI 1 from by rw [hI.n], jHas_in (n := jn (jm (X 64))) hI.n8] at hr
  rw [show jHas (jm (X 64)) s = (!decide (s < 0) && decide (s < nI (jn (jm (X 64))))) from by unfold jHas; rw [jm01, hI.n]]
  exact hr
theorem l_rHas_t (d : Nat) (X Z : Nat → Nat → Int32) {T : Nat} (hI : RK T (X 64)) {k : Nat} (hk : k < jn (jm (X 64))) : EC (d + 2) 132 [.ref 63, .int (nI k)] (Wd X Z) (PI (bI true) (Wd X Z)) := by
  have h := l_rHas d X Z hI (nI k)
  rw [jHas_t hI.ij hk] at h
  exact h
theorem l_rHas_f (d : Nat) (X Z : Nat → Nat → Int32) {T : Nat} (hI : RK T (X 64)) {s : Int32} (hs : jHas (jm (X 64)) s = false) : EC (d + 2) 132 [.ref 63, .int s] (Wd X Z) (PI (bI false) (Wd X Z)) := by
  have h := l_rHas d X Z hI s
  rw [hs] at h
  exact h
theorem l_of0 (d : Nat) (X Z : Nat → Nat → Int32) {T : Nat} (hI : RK T (X 64)) {k : Nat} (hk : k < 8) : EC (d + 1) 133 [.ref 63, .int (nI k), .int (nI 0)] (Wd X Z) (PI (nI (sKind (jm (X 64)) k)) (Wd X Z)) := by
  refine (l_rOf d X Z hk (show 0 < 6 by omega)).mono (fun r hr => ?_)
  rw [show nI (sKind (jm (X 64)) k) = jm (X 64) 1 k from (hI.ij.kind k).1.symm, jm1 hk]
  exact hr
theorem l_of1 (d : Nat) (X Z : Nat → Nat → Int32) {k : Nat} (hk : k < 8) : EC (d + 1) 133 [.ref 63, .int (nI k), .int (nI 1)] (Wd X Z) (PI (jm (X 64) 2 k) (Wd X Z)) := by
  refine (l_rOf d X Z hk (show 1 < 6 by omega)).mono (fun r hr => ?_)
  rw [jm2 hk, show 8 + 6 * k = 7 + 6 * k + 1 by omega]
  exact hr
theorem l_of2 (d : Nat) (X Z : Nat → Nat → Int32) {k : Nat} (hk : k < 8) : EC (d + 1) 133 [.ref 63, .int (nI k), .int (nI 2)] (Wd X Z) (PI (jm (X 64) 3 k) (Wd X Z)) := by
  refine (l_rOf d X Z hk (show 2 < 6 by omega)).mono (fun r hr => ?_)
  rw [jm3 hk, show 9 + 6 * k = 7 + 6 * k + 2 by omega]
  exact hr
theorem l_of3 (d : Nat) (X Z : Nat → Nat → Int32) {k : Nat} (hk : k < 8) : EC (d + 1) 133 [.ref 63, .int (nI k), .int (nI 3)] (Wd X Z) (PI (jm (X 64) 4 k) (Wd X Z)) := by
  refine (l_rOf d X Z hk (show 3 < 6 by omega)).mono (fun r hr => ?_)
  rw [jm4 hk, show 10 + 6 * k = 7 + 6 * k + 3 by omega]
  exact hr
theorem l_of4 (d : Nat) (X Z : Nat → Nat → Int32) {T : Nat} (hI : RK T (X 64)) {k : Nat} (hk : k < jn (jm (X 64))) : EC (d + 1) 133 [.ref 63, .int (nI k), .int (nI 4)] (Wd X Z) (PI (bI (sDone (jm (X 64)) k)) (Wd X Z)) := by
  have h8 := jn8 hI.ij
  refine (l_rOf d X Z (show k < 8 by omega) (show 4 < 6 by omega)).mono (fun r hr => ?_)
  rw [← hI.done hk, show 11 + 6 * k = 7 + 6 * k + 4 by omega]
  exact hr
theorem l_of5 (d : Nat) (X Z : Nat → Nat → Int32) {T : Nat} (hI : RK T (X 64)) {k : Nat} (hk : k < jn (jm (X 64))) : EC (d + 1) 133 [.ref 63, .int (nI k), .int (nI 5)] (Wd X Z) (PI (bI (sBit (jm (X 64) 0 7) (nI k))) (Wd X Z)) := by
  have h8 := jn8 hI.ij
  refine (l_rOf d X Z (show k < 8 by omega) (show 5 < 6 by omega)).mono (fun r hr => ?_)
  rw [← hI.wrong hk, show 12 + 6 * k = 7 + 6 * k + 5 by omega]
  exact hr
theorem l_rTiredJ (d : Nat) (X Z : Nat → Nat → Int32) {T : Nat} (hI : RK T (X 64)) (hT : T < 2 ^ 31) : EC (d + 2) 140 [.ref 63] (Wd X Z) (PI (sTired (jm (X 64))) (Wd X Z)) := by
  rw [← tired_eq hI.ij hT]
  exact l_rTired d X Z
set_option maxRecDepth 100000 in
set_option maxHeartbeats 4000000 in
theorem l_rLastsOf (d : Nat) (X Z : Nat → Nat → Int32) {T : Nat} (hI : RK T (X 64)) (hT : T < 2 ^ 31) {k : Nat} (hk : k < jn (jm (X 64))) : EC (d + 4) 139 [.ref 63, .int (nI k)] (Wd X Z) (RI (sLasts (jm (X 64)) k) X) := by
  refine er_enter (L := [(0, _), (1, _)]) rfl rfl rfl ?_
  have h8 := jn8 hI.ij
  have hk8 : k < 8 := by omega
  have hq := kind7 hI.ij k
  refine er_loc (pc' := 1) rfl rfl rfl ?_
  refine er_loc (pc' := 2) rfl rfl rfl ?_
  refine er_k (pc' := 3) (nI 2) rfl rfl rfl ?_
  refine er_cIi (pc' := 6) (rest := []) 12 rfl rfl rfl rfl rfl rfl (l_of2 _ X _ (by omega)) ?_
  refine er_loc (pc' := 7) (L' := [(2, _), (0, _), (1, _)]) rfl rfl rfl ?_
  refine er_loc (pc' := 8) rfl rfl rfl ?_
  refine er_loc (pc' := 9) rfl rfl rfl ?_
  refine er_k (pc' := 10) (nI 1) rfl rfl rfl ?_
  refine er_cIi (pc' := 13) (rest := []) 12 rfl rfl rfl rfl rfl rfl (l_of1 _ X _ (by omega)) ?_
  refine er_loc (pc' := 14) (L' := [(3, _), (2, _), (0, _), (1, _)]) rfl rfl rfl ?_
  refine er_loc (pc' := 15) rfl rfl rfl ?_
  refine er_k (pc' := 16) (nI 0) rfl rfl rfl ?_
  refine er_loc (pc' := 17) rfl rfl rfl ?_
  refine er_loc (pc' := 18) rfl rfl rfl ?_
  refine er_loc (pc' := 19) rfl rfl rfl ?_
  refine er_cIi (pc' := 22) (rest := [_, _, _, _]) 12 rfl rfl rfl rfl rfl rfl (l_rTiredJ _ X _ hI hT) ?_
  refine er_cIz (pc' := 25) (rest := []) 12 rfl rfl rfl rfl rfl rfl (l_rGives0 _ X _ hI _ _ _) ?_
  intro Z2
  refine er_loc (pc' := 27) (L' := [(4, _), (3, _), (2, _), (0, _), (1, _)]) rfl rfl rfl ?_
  refine er_loc (pc' := 28) rfl rfl rfl ?_
  refine er_gf (pc' := 31) (_) rfl rfl rfl rfl rfl ?_
  refine er_k (pc' := 32) (nI 3) rfl rfl rfl ?_
  refine er_ia (pc' := 33) (3) rfl rfl rfl rfl (by omega) rfl rfl ?_
  refine er_k (pc' := 34) (nI 1) rfl rfl rfl ?_
  refine er_cm_ne (pc' := 37) rfl rfl (fun h34 => ?_) (fun h34 => ?_)
  · refine er_loc rfl rfl rfl ?_
    refine er_loc (pc' := 48) (L' := [(5, _), (4, _), (3, _), (2, _), (0, _), (1, _)]) rfl rfl rfl ?_
    refine er_loc (pc' := 49) rfl rfl rfl ?_
    refine er_loc (pc' := 50) rfl rfl rfl ?_
    refine er_k (pc' := 51) (nI 0) rfl rfl rfl ?_
    refine er_cIi (pc' := 54) (rest := []) 12 rfl rfl rfl rfl rfl rfl (l_of0 _ X _ hI (by omega)) ?_
    rcases lt7 hq with e | e | e | e | e | e | e
    · rw [e]
      refine er_swT (0) rfl (by decide +kernel) rfl ?_
      refine er_loc (pc' := 128) rfl rfl rfl ?_
      refine er_iret rfl rfl ?_
      refine RI_of ?_ rfl
      unfold sLasts
      rw [e]
      rfl
    · rw [e]
      refine er_swT (1) rfl (by decide +kernel) rfl ?_
      refine er_loc (pc' := 94) rfl rfl rfl ?_
      refine er_k (pc' := 95) (nI 1) rfl rfl rfl ?_
      refine er_iadd (pc' := 96) rfl rfl ?_
      refine er_iret rfl rfl ?_
      refine RI_of ?_ rfl
      unfold sLasts
      rw [e]
      rfl
    · rw [e]
      refine er_swT (2) rfl (by decide +kernel) rfl ?_
      refine er_loc (pc' := 99) rfl rfl rfl ?_
      refine er_k (pc' := 100) (nI 2) rfl rfl rfl ?_
      refine er_iadd (pc' := 101) rfl rfl ?_
      refine er_iret rfl rfl ?_
      refine RI_of ?_ rfl
      unfold sLasts
      rw [e]
      rfl
    · rw [e]
      refine er_swT (3) rfl (by decide +kernel) rfl ?_
      refine er_loc (pc' := 104) rfl rfl rfl ?_
      refine er_iret rfl rfl ?_
      refine RI_of ?_ rfl
      unfold sLasts
      rw [e]
      show _ = (if jm (X 64) 0 8 = nI 1 then _ * nI 2 else _)
      rw [if_neg (show ¬ jm (X 64) 0 8 = nI 1 from h34)]
    · rw [e]
      refine er_swT (4) rfl (by decide +kernel) rfl ?_
      refine er_loc (pc' := 107) rfl rfl rfl ?_
      refine er_k (pc' := 108) (nI 1) rfl rfl rfl ?_
      refine er_iadd (pc' := 109) rfl rfl ?_
      refine er_loc (pc' := 110) rfl rfl rfl ?_
      refine er_k (pc' := 111) (nI 3) rfl rfl rfl ?_
      refine er_irem (pc' := 112) rfl rfl (by decide) ?_
      refine er_iadd (pc' := 113) rfl rfl ?_
      refine er_iret rfl rfl ?_
      refine RI_of ?_ rfl
      unfold sLasts
      rw [e]
      rfl
    · rw [e]
      refine er_swT (5) rfl (by decide +kernel) rfl ?_
      refine er_loc (pc' := 116) rfl rfl rfl ?_
      refine er_k (pc' := 117) (nI 2) rfl rfl rfl ?_
      refine er_iadd (pc' := 118) rfl rfl ?_
      refine er_loc (pc' := 119) rfl rfl rfl ?_
      refine er_iadd (pc' := 120) rfl rfl ?_
      refine er_iret rfl rfl ?_
      refine RI_of ?_ rfl
      unfold sLasts
      rw [e]
      rfl
    · rw [e]
      refine er_swT (6) rfl (by decide +kernel) rfl ?_
      refine er_loc (pc' := 123) rfl rfl rfl ?_
      refine er_loc (pc' := 124) rfl rfl rfl ?_
      refine er_iadd (pc' := 125) rfl rfl ?_
      refine er_iret rfl rfl ?_
      refine RI_of ?_ rfl
      unfold sLasts
      rw [e]
      show _ = (if jm (X 64) 0 8 = nI 1 then _ * nI 2 else _) + _
      rw [if_neg (show ¬ jm (X 64) 0 8 = nI 1 from h34)]
  · refine er_k (nI 2) rfl rfl rfl ?_
    refine er_loc (pc' := 40) rfl rfl rfl ?_
    refine er_imul (pc' := 41) rfl rfl ?_
    refine er_goto rfl ?_
    refine er_loc (pc' := 48) (L' := [(5, _), (4, _), (3, _), (2, _), (0, _), (1, _)]) rfl rfl rfl ?_
    refine er_loc (pc' := 49) rfl rfl rfl ?_
    refine er_loc (pc' := 50) rfl rfl rfl ?_
    refine er_k (pc' := 51) (nI 0) rfl rfl rfl ?_
    refine er_cIi (pc' := 54) (rest := []) 12 rfl rfl rfl rfl rfl rfl (l_of0 _ X _ hI (by omega)) ?_
    rcases lt7 hq with e | e | e | e | e | e | e
    · rw [e]
      refine er_swT (0) rfl (by decide +kernel) rfl ?_
      refine er_loc (pc' := 128) rfl rfl rfl ?_
      refine er_iret rfl rfl ?_
      refine RI_of ?_ rfl
      unfold sLasts
      rw [e]
      rfl
    · rw [e]
      refine er_swT (1) rfl (by decide +kernel) rfl ?_
      refine er_loc (pc' := 94) rfl rfl rfl ?_
      refine er_k (pc' := 95) (nI 1) rfl rfl rfl ?_
      refine er_iadd (pc' := 96) rfl rfl ?_
      refine er_iret rfl rfl ?_
      refine RI_of ?_ rfl
      unfold sLasts
      rw [e]
      rfl
    · rw [e]
      refine er_swT (2) rfl (by decide +kernel) rfl ?_
      refine er_loc (pc' := 99) rfl rfl rfl ?_
      refine er_k (pc' := 100) (nI 2) rfl rfl rfl ?_
      refine er_iadd (pc' := 101) rfl rfl ?_
      refine er_iret rfl rfl ?_
      refine RI_of ?_ rfl
      unfold sLasts
      rw [e]
      rfl
    · rw [e]
      refine er_swT (3) rfl (by decide +kernel) rfl ?_
      refine er_loc (pc' := 104) rfl rfl rfl ?_
      refine er_iret rfl rfl ?_
      refine RI_of ?_ rfl
      unfold sLasts
      rw [e]
      show _ = (if jm (X 64) 0 8 = nI 1 then _ * nI 2 else _)
      rw [if_pos (show jm (X 64) 0 8 = nI 1 from h34), Int32.mul_comm]
    · rw [e]
      refine er_swT (4) rfl (by decide +kernel) rfl ?_
      refine er_loc (pc' := 107) rfl rfl rfl ?_
      refine er_k (pc' := 108) (nI 1) rfl rfl rfl ?_
      refine er_iadd (pc' := 109) rfl rfl ?_
      refine er_loc (pc' := 110) rfl rfl rfl ?_
      refine er_k (pc' := 111) (nI 3) rfl rfl rfl ?_
      refine er_irem (pc' := 112) rfl rfl (by decide) ?_
      refine er_iadd (pc' := 113) rfl rfl ?_
      refine er_iret rfl rfl ?_
      refine RI_of ?_ rfl
      unfold sLasts
      rw [e]
      rfl
    · rw [e]
      refine er_swT (5) rfl (by decide +kernel) rfl ?_
      refine er_loc (pc' := 116) rfl rfl rfl ?_
      refine er_k (pc' := 117) (nI 2) rfl rfl rfl ?_
      refine er_iadd (pc' := 118) rfl rfl ?_
      refine er_loc (pc' := 119) rfl rfl rfl ?_
      refine er_iadd (pc' := 120) rfl rfl ?_
      refine er_iret rfl rfl ?_
      refine RI_of ?_ rfl
      unfold sLasts
      rw [e]
      rfl
    · rw [e]
      refine er_swT (6) rfl (by decide +kernel) rfl ?_
      refine er_loc (pc' := 123) rfl rfl rfl ?_
      refine er_loc (pc' := 124) rfl rfl rfl ?_
      refine er_iadd (pc' := 125) rfl rfl ?_
      refine er_iret rfl rfl ?_
      refine RI_of ?_ rfl
      unfold sLasts
      rw [e]
      show _ = (if jm (X 64) 0 8 = nI 1 then _ * nI 2 else _) + _
      rw [if_pos (show jm (X 64) 0 8 = nI 1 from h34), Int32.mul_comm]
set_option maxRecDepth 100000 in
set_option maxHeartbeats 4000000 in
theorem l_rBackOf (d : Nat) (X Z : Nat → Nat → Int32) {T : Nat} (hI : RK T (X 64)) (hT : T < 2 ^ 31) {k : Nat} (hk : k < jn (jm (X 64))) : EC (d + 5) 145 [.ref 63, .int (nI k)] (Wd X Z) (RI (sBack (jm (X 64)) k) X) := by
  refine er_enter (L := [(0, _), (1, _)]) rfl rfl rfl ?_
  have h8 := jn8 hI.ij
  have hk8 : k < 8 := by omega
  have hq := kind7 hI.ij k
  refine er_loc (pc' := 1) rfl rfl rfl ?_
  refine er_loc (pc' := 2) rfl rfl rfl ?_
  refine er_cIz (pc' := 5) (rest := []) 12 rfl rfl rfl rfl rfl rfl (l_rLastsOf _ X _ hI hT hk) ?_
  intro Z2
  refine er_loc (pc' := 6) (L' := [(2, _), (0, _), (1, _)]) rfl rfl rfl ?_
  refine er_loc (pc' := 7) rfl rfl rfl ?_
  refine er_loc (pc' := 8) rfl rfl rfl ?_
  refine er_k (pc' := 9) (nI 0) rfl rfl rfl ?_
  refine er_cIi (pc' := 12) (rest := []) 12 rfl rfl rfl rfl rfl rfl (l_of0 _ X _ hI (by omega)) ?_
  refine er_k (pc' := 13) (nI 3) rfl rfl rfl ?_
  refine er_cm_eq (pc' := 16) rfl rfl (fun h13 => ?_) (fun h13 => ?_)
  · have hb : sBackOf (sKind (jm (X 64)) k) (sLasts (jm (X 64)) k) = sLasts (jm (X 64)) k := if_pos (Or.inl (nIj (by omega) (by omega) h13))
    refine er_loc (pc' := 28) rfl rfl rfl ?_
    refine er_goto rfl ?_
    refine er_iret rfl rfl ?_
    exact RI_of hb.symm rfl
  · refine er_loc (pc' := 17) rfl rfl rfl ?_
    refine er_loc (pc' := 18) rfl rfl rfl ?_
    refine er_k (pc' := 19) (nI 0) rfl rfl rfl ?_
    refine er_cIi (pc' := 22) (rest := []) 12 rfl rfl rfl rfl rfl rfl (l_of0 _ X _ hI (by omega)) ?_
    refine er_k (pc' := 24) (nI 6) rfl rfl rfl ?_
    refine er_cm_ne (pc' := 27) rfl rfl (fun h24 => ?_) (fun h24 => ?_)
    · have hb : sBackOf (sKind (jm (X 64)) k) (sLasts (jm (X 64)) k) = sLasts (jm (X 64)) k / nI 2 := if_neg (fun hh => by rcases hh with hh | hh; exact h13 (by rw [hh]); exact h24 (by rw [hh]))
      refine er_loc (pc' := 32) rfl rfl rfl ?_
      refine er_k (pc' := 33) (nI 2) rfl rfl rfl ?_
      refine er_idiv (pc' := 34) rfl rfl (by decide) ?_
      refine er_iret rfl rfl ?_
      exact RI_of hb.symm rfl
    · have hb : sBackOf (sKind (jm (X 64)) k) (sLasts (jm (X 64)) k) = sLasts (jm (X 64)) k := if_pos (Or.inr (nIj (by omega) (by omega) h24))
      refine er_loc (pc' := 28) rfl rfl rfl ?_
      refine er_goto rfl ?_
      refine er_iret rfl rfl ?_
      exact RI_of hb.symm rfl
set_option maxRecDepth 100000 in
set_option maxHeartbeats 4000000 in
theorem l_rErrsOf (d : Nat) (X Z : Nat → Nat → Int32) {T : Nat} (hI : RK T (X 64)) {k : Nat} (hk8 : k < 8) (t : Int32) : EC (d + 4) 167 [.ref 63, .int (nI k), .int t] (Wd X Z) (RI (sErrsBy (jm (X 64)) (jm (X 64) 2 k) t (jm (X 64) 1 k)) X) := by
  refine er_enter (L := [(0, _), (1, _), (2, _)]) rfl rfl rfl ?_
  refine er_loc (pc' := 1) rfl rfl rfl ?_
  refine er_k (pc' := 2) (nI 1) rfl rfl rfl ?_
  refine er_loc (pc' := 3) rfl rfl rfl ?_
  refine er_loc (pc' := 4) rfl rfl rfl ?_
  refine er_k (pc' := 5) (nI 1) rfl rfl rfl ?_
  refine er_cIi (pc' := 8) (rest := [_, _]) 12 rfl rfl rfl rfl rfl rfl (l_of1 _ X _ (by omega)) ?_
  refine er_loc (pc' := 9) rfl rfl rfl ?_
  refine er_loc (pc' := 10) rfl rfl rfl ?_
  refine er_loc (pc' := 11) rfl rfl rfl ?_
  refine er_k (pc' := 12) (nI 0) rfl rfl rfl ?_
  refine er_cIi (pc' := 15) (rest := [_, _, _, _]) 12 rfl rfl rfl rfl rfl rfl (l_of0 _ X _ hI (by omega)) ?_
  refine er_cIz (pc' := 18) (rest := []) 12 rfl rfl rfl rfl rfl rfl (l_rGives1 _ X _ hI _ _ _) ?_
  intro Z2
  refine er_iret rfl rfl ?_
  refine RI_of ?_ rfl
  rw [show jm (X 64) 1 k = nI (sKind (jm (X 64)) k) from (hI.ij.kind k).1]
theorem mayDo_eq {J : Nat → Nat → Int32} {k : Nat} (hk : k < jn J) : sMayDo J k = (!sDone J k && (decide ((J 4 k &&& (J 0 6 ^^^ (-1))) = 0) && !decide (J 0 9 < J 3 k)) && !decide (J 0 8 < sHands (sKind J k))) := by
  unfold sMayDo sReady
  rw [decide_eq_true hk, Bool.true_and]
theorem hands_a {v : Int32} {q : Nat} (h : v = nI 1 ∨ v = nI 2) (hq : ¬ nI q = nI 6) : ¬ v < sHands q := by
  rw [show sHands q = nI 1 from if_neg (fun e => hq (by rw [e]))]
  rcases h with h | h <;> subst h <;> decide +kernel
theorem hands_b {v : Int32} {q : Nat} (h : v = nI 1 ∨ v = nI 2) (hq : q = 6) (h2 : ¬ v = nI 2) : v < sHands q := by
  rw [show sHands q = nI 2 from if_pos hq]
  rcases h with h | h
  · subst h; decide +kernel
  · exact absurd h h2
theorem hands_c {v : Int32} {q : Nat} (h2 : v = nI 2) : ¬ v < sHands q := by
  subst h2
  unfold sHands
  split <;> decide +kernel
def yNd (J : Nat → Nat → Int32) (s : Nat) : Nat → Int32
  | 0 => nI 0
  | i + 1 => yNd J s i ||| (if sDone J i = true ∧ bt (J 4 i) s = true then nI 1 <<< (nI i &&& 31) else nI 0)
theorem bt_yNd {J : Nat → Nat → Int32} {s : Nat} : ∀ {n : Nat}, n ≤ 8 → ∀ i, bt (yNd J s n) i = (decide (i < n) && sDone J i && bt (J 4 i) s)
  | 0, _, i => by
    rw [show yNd J s 0 = nI 0 from rfl, bt_0, decide_eq_false (by omega)]
    rfl
  | n + 1, hn, i => by
    rw [show yNd J s (n + 1) = yNd J s n ||| (if sDone J n = true ∧ bt (J 4 n) s = true then nI 1 <<< (nI n &&& 31) else nI 0) from rfl, bt_or, bt_yNd (by omega) i]
    have e : bt (if sDone J n = true ∧ bt (J 4 n) s = true then nI 1 <<< (nI n &&& 31) else nI 0) i = (decide (i = n) && sDone J n && bt (J 4 n) s) := by
      by_cases h : sDone J n = true ∧ bt (J 4 n) s = true
      · rw [if_pos h, bt_one (by omega), h.1, h.2]
        simp
      · rw [if_neg h, bt_0]
        cases h1 : sDone J n with
        | false => simp
        | true =>
          cases h2 : bt (J 4 n) s with
          | false => simp
          | true => exact absurd ⟨h1, h2⟩ h
    rw [e]
    by_cases hi : i = n
    · subst hi
      rw [decide_eq_false (Nat.lt_irrefl i), decide_eq_true rfl, decide_eq_true (Nat.lt_succ_self i)]
      simp
    · have e2 : decide (i < n + 1) = decide (i < n) := decide_eq_decide.mpr (by omega)
      rw [e2, decide_eq_false hi]
      simp
theorem sNeed_ex {J : Nat → Nat → Int32} {k : Nat} (hk : k < 32) : ∀ {n : Nat}, sNeed J k n = true ↔ ∃ i, i < n ∧ k < i ∧ sDone J i = true ∧ bt (J 4 i) k = true
  | 0 => ⟨fun h => (by cases h), fun ⟨i, h, _⟩ => (by omega)⟩
  | n + 1 => by
    rw [show sNeed J k (n + 1) = (sNeed J k n || (decide (k < n) && sDone J n && sBit (J 4 n) (nI k))) from rfl, Bool.or_eq_true, sNeed_ex hk, sBit_bt hk]
    simp only [Bool.and_eq_true, decide_eq_true_eq]
    constructor
    · rintro (⟨i, h1, h2⟩ | ⟨⟨h1, h2⟩, h3⟩)
      · exact ⟨i, by omega, h2⟩
      · exact ⟨n, by omega, h1, h2, h3⟩
    · rintro ⟨i, h1, h2, h3, h4⟩
      by_cases hi : i = n
      · subst hi; exact Or.inr ⟨⟨h2, h3⟩, h4⟩
      · exact Or.inl ⟨i, by omega, h2, h3, h4⟩
theorem yNd_0 {T : Nat} {J : Nat → Nat → Int32} (hI : IJ T J) {k : Nat} (hk : k < jn J) : (yNd J k (jn J) = 0) ↔ sNeed J k (jn J) = false := by
  have h8 := jn8 hI
  rw [show (0 : Int32) = nI 0 from by decide +kernel]
  constructor
  · intro h
    cases hs : sNeed J k (jn J) with
    | false => rfl
    | true =>
      obtain ⟨i, h1, h2, h3, h4⟩ := (sNeed_ex (by omega)).mp hs
      have h5 : bt (yNd J k (jn J)) i = bt (nI 0) i := by rw [h]
      rw [bt_yNd h8, bt_0, decide_eq_true h1, h3, h4] at h5
      cases h5
  · intro h
    apply bt_ext
    intro i _
    rw [bt_yNd h8, bt_0]
    cases hb : (decide (i < jn J) && sDone J i && bt (J 4 i) k) with
    | false => rfl
    | true =>
      simp only [Bool.and_eq_true, decide_eq_true_eq] at hb
      obtain ⟨⟨h1, h2⟩, h3⟩ := hb
      rw [(sNeed_ex (by omega)).mpr ⟨i, h1, hI.needs i k h3, h2, h3⟩] at h
      cases h
set_option maxRecDepth 100000 in
set_option maxHeartbeats 4000000 in
theorem l_rMayDo (d : Nat) (X Z : Nat → Nat → Int32) {T : Nat} (hI : RK T (X 64)) {k : Nat} (hk : k < jn (jm (X 64))) : EC (d + 3) 134 [.ref 63, .int (nI k)] (Wd X Z) (PI (bI (sMayDo (jm (X 64)) k)) (Wd X Z)) := by
  refine er_enter (L := [(0, _), (1, _)]) rfl rfl rfl ?_
  have h8 := jn8 hI.ij
  have hk8 : k < 8 := by omega
  have hq := kind7 hI.ij k
  have hh2 := hI.ij.hands
  refine er_loc (pc' := 1) rfl rfl rfl ?_
  refine er_loc (pc' := 2) rfl rfl rfl ?_
  refine er_k (pc' := 3) (nI 4) rfl rfl rfl ?_
  refine er_cIi (pc' := 6) (rest := []) 12 rfl rfl rfl rfl rfl rfl (l_of4 _ X _ hI (by omega)) ?_
  refine er_if_neb (pc' := 9) rfl rfl (fun h6 => ?_) (fun h6 => ?_)
  · have hw : sMayDo (jm (X 64)) k = false := by rw [mayDo_eq hk, h6]; rfl
    refine er_k (pc' := 30) (nI 0) rfl rfl rfl ?_
    refine er_loc (pc' := 31) (L' := [(2, _), (0, _), (1, _)]) rfl rfl rfl ?_
    refine er_loc (pc' := 32) rfl rfl rfl ?_
    refine er_if_eqT rfl (by decide +kernel) ?_
    refine er_k (pc' := 76) (nI 0) rfl rfl rfl ?_
    refine er_ret _ rfl rfl ?_
    exact PI_of (bI_eq0 hw)
  · refine er_loc (pc' := 10) rfl rfl rfl ?_
    refine er_loc (pc' := 11) rfl rfl rfl ?_
    refine er_k (pc' := 12) (nI 3) rfl rfl rfl ?_
    refine er_cIi (pc' := 15) (rest := []) 12 rfl rfl rfl rfl rfl rfl (l_of3 _ X _ (by omega)) ?_
    refine er_loc (pc' := 16) rfl rfl rfl ?_
    refine er_cIi (pc' := 19) (rest := [_]) 12 rfl rfl rfl rfl rfl rfl (l_rDone _ X _ (n := jn (jm (X 64))) hI.n hI.n8) ?_
    rw [show rB (X 64) 11 (jn (jm (X 64))) = jm (X 64) 0 6 from rfl]
    refine er_k (pc' := 20) (-1) rfl rfl rfl ?_
    refine er_ixor (pc' := 21) rfl rfl ?_
    refine er_iand (pc' := 22) rfl rfl ?_
    refine er_if_ne (pc' := 25) rfl rfl (fun h22 => ?_) (fun h22 => ?_)
    · have hw : sMayDo (jm (X 64)) k = false := by rw [mayDo_eq hk, decide_eq_false h22]; simp
      refine er_k (pc' := 30) (nI 0) rfl rfl rfl ?_
      refine er_loc (pc' := 31) (L' := [(2, _), (0, _), (1, _)]) rfl rfl rfl ?_
      refine er_loc (pc' := 32) rfl rfl rfl ?_
      refine er_if_eqT rfl (by decide +kernel) ?_
      refine er_k (pc' := 76) (nI 0) rfl rfl rfl ?_
      refine er_ret _ rfl rfl ?_
      exact PI_of (bI_eq0 hw)
    · refine er_k (pc' := 26) (nI 1) rfl rfl rfl ?_
      refine er_goto rfl ?_
      refine er_loc (pc' := 31) (L' := [(2, _), (0, _), (1, _)]) rfl rfl rfl ?_
      refine er_loc (pc' := 32) rfl rfl rfl ?_
      refine er_if_eqF (pc' := 35) rfl (by decide +kernel) rfl ?_
      refine er_loc (pc' := 36) rfl rfl rfl ?_
      refine er_gf (pc' := 39) (_) rfl rfl rfl rfl rfl ?_
      refine er_k (pc' := 40) (nI 4) rfl rfl rfl ?_
      refine er_ia (pc' := 41) (4) rfl rfl rfl rfl (by omega) rfl rfl ?_
      refine er_loc (pc' := 42) rfl rfl rfl ?_
      refine er_loc (pc' := 43) rfl rfl rfl ?_
      refine er_k (pc' := 44) (nI 2) rfl rfl rfl ?_
      refine er_cIi (pc' := 47) (rest := [_]) 12 rfl rfl rfl rfl rfl rfl (l_of2 _ X _ (by omega)) ?_
      refine er_cm_lt (pc' := 50) rfl rfl (fun h47 => ?_) (fun h47 => ?_)
      · have hw : sMayDo (jm (X 64)) k = false := by rw [mayDo_eq hk, show jm (X 64) 0 9 = X 64 4 from rfl, decide_eq_true h47]; simp
        refine er_k (pc' := 76) (nI 0) rfl rfl rfl ?_
        refine er_ret _ rfl rfl ?_
        exact PI_of (bI_eq0 hw)
      · refine er_loc (pc' := 51) rfl rfl rfl ?_
        refine er_loc (pc' := 52) rfl rfl rfl ?_
        refine er_k (pc' := 53) (nI 0) rfl rfl rfl ?_
        refine er_cIi (pc' := 56) (rest := []) 12 rfl rfl rfl rfl rfl rfl (l_of0 _ X _ hI (by omega)) ?_
        refine er_k (pc' := 58) (nI 6) rfl rfl rfl ?_
        refine er_cm_ne (pc' := 61) rfl rfl (fun h58 => ?_) (fun h58 => ?_)
        · have hw : sMayDo (jm (X 64)) k = true := by rw [mayDo_eq hk, h6, decide_eq_true h22, show jm (X 64) 0 9 = X 64 4 from rfl, decide_eq_false h47, decide_eq_false (hands_a hh2 h58)]; rfl
          refine er_k (pc' := 72) (nI 1) rfl rfl rfl ?_
          refine er_goto rfl ?_
          refine er_ret _ rfl rfl ?_
          exact PI_of (bI_eq1 hw)
        · refine er_loc (pc' := 62) rfl rfl rfl ?_
          refine er_gf (pc' := 65) (_) rfl rfl rfl rfl rfl ?_
          refine er_k (pc' := 66) (nI 3) rfl rfl rfl ?_
          refine er_ia (pc' := 67) (3) rfl rfl rfl rfl (by omega) rfl rfl ?_
          refine er_k (pc' := 68) (nI 2) rfl rfl rfl ?_
          refine er_cm_ne (pc' := 71) rfl rfl (fun h68 => ?_) (fun h68 => ?_)
          · have hw : sMayDo (jm (X 64)) k = false := by rw [mayDo_eq hk, decide_eq_true (hands_b hh2 (nIj (by omega) (by omega) h58) h68)]; simp
            refine er_k (pc' := 76) (nI 0) rfl rfl rfl ?_
            refine er_ret _ rfl rfl ?_
            exact PI_of (bI_eq0 hw)
          · have hw : sMayDo (jm (X 64)) k = true := by rw [mayDo_eq hk, h6, decide_eq_true h22, show jm (X 64) 0 9 = X 64 4 from rfl, decide_eq_false h47, decide_eq_false (hands_c (q := sKind (jm (X 64)) k) (show jm (X 64) 0 8 = nI 2 from h68))]; rfl
            refine er_k (pc' := 72) (nI 1) rfl rfl rfl ?_
            refine er_goto rfl ?_
            refine er_ret _ rfl rfl ?_
            exact PI_of (bI_eq1 hw)
set_option maxRecDepth 100000 in
set_option maxHeartbeats 4000000 in
theorem l_rNd_loop (d : Nat) (X Z : Nat → Nat → Int32) {T : Nat} (hI : RK T (X 64)) {s : Nat} (hs : s < 32) : ∀ (m i : Nat) (x v : Int32), i + m = jn (jm (X 64)) → x = nI i → v = yNd (jm (X 64)) s i → ER (d + 1) tb_m138 4 [(0, .ref 63), (1, .int (nI s)), (2, .int v), (3, .int x)] [] (Wd X Z) (PI (yNd (jm (X 64)) s (jn (jm (X 64)))) (Wd X Z))
  | 0, i, x, v, hi, hx, hv => by
    have h8 := jn8 hI.ij
    have hi : i = jn (jm (X 64)) := by omega
    subst hx
    subst hv
    subst hi
    refine er_loc (pc' := 5) rfl rfl rfl ?_
    refine er_loc (pc' := 6) rfl rfl rfl ?_
    refine er_gf (pc' := 9) (_) rfl rfl rfl rfl rfl ?_
    refine er_k (pc' := 10) (nI 2) rfl rfl rfl ?_
    refine er_ia (pc' := 11) (2) rfl rfl rfl rfl (by omega) rfl rfl ?_
    rw [hI.n]
    refine er_cm_geT rfl (nI_nlt (by omega) (by omega)) ?_
    refine er_loc (pc' := 55) rfl rfl rfl ?_
    refine er_iret rfl rfl ?_
    exact PI_of rfl
  | m + 1, i, x, v, hi, hx, hv => by
    have h8 := jn8 hI.ij
    have hi8 : i < 8 := by omega
    subst hx
    subst hv
    cases hdn : sDone (jm (X 64)) i with
    | false =>
      refine er_loc (pc' := 5) rfl rfl rfl ?_
      refine er_loc (pc' := 6) rfl rfl rfl ?_
      refine er_gf (pc' := 9) (_) rfl rfl rfl rfl rfl ?_
      refine er_k (pc' := 10) (nI 2) rfl rfl rfl ?_
      refine er_ia (pc' := 11) (2) rfl rfl rfl rfl (by omega) rfl rfl ?_
      rw [hI.n]
      refine er_cm_geF (pc' := 14) rfl (nI_lt (by omega) (by omega)) rfl ?_
      refine er_loc (pc' := 15) rfl rfl rfl ?_
      refine er_loc (pc' := 16) rfl rfl rfl ?_
      refine er_loc (pc' := 17) rfl rfl rfl ?_
      refine er_k (pc' := 18) (nI 4) rfl rfl rfl ?_
      refine er_cIi (pc' := 21) (rest := [_]) 12 rfl rfl rfl rfl rfl rfl (l_of4 _ X _ hI (by omega)) ?_
      rw [hdn]
      refine er_k (pc' := 22) (nI 1) rfl rfl rfl ?_
      refine er_cm_neT rfl (by decide +kernel) ?_
      refine er_k (nI 0) rfl rfl rfl ?_
      refine er_ior rfl rfl ?_
      refine er_loc (L' := [(2, _), (0, _), (1, _), (3, _)]) rfl rfl rfl ?_
      refine er_loc (L' := [(3, .int (_ + nI 1)), (2, _), (0, _), (1, _)]) rfl rfl rfl ?_
      refine er_goto rfl ?_
      refine ER_loc [(0, _), (1, _), (2, _), (3, _)] rfl (List.forall_mem_cons.mpr ⟨rfl, List.forall_mem_cons.mpr ⟨rfl, List.forall_mem_cons.mpr ⟨rfl, List.forall_mem_cons.mpr ⟨rfl, fun _ h => absurd h List.not_mem_nil⟩⟩⟩⟩) rfl rfl ?_
      refine l_rNd_loop d X Z hI hs m (i + 1) _ _ (by omega) (nI_add i 1) ?_
      show _ = yNd _ _ _ ||| (if _ then _ else _)
      rw [if_neg (fun hh => by rw [hdn] at hh; cases hh.1)]
    | true =>
      refine er_loc (pc' := 5) rfl rfl rfl ?_
      refine er_loc (pc' := 6) rfl rfl rfl ?_
      refine er_gf (pc' := 9) (_) rfl rfl rfl rfl rfl ?_
      refine er_k (pc' := 10) (nI 2) rfl rfl rfl ?_
      refine er_ia (pc' := 11) (2) rfl rfl rfl rfl (by omega) rfl rfl ?_
      rw [hI.n]
      refine er_cm_geF (pc' := 14) rfl (nI_lt (by omega) (by omega)) rfl ?_
      refine er_loc (pc' := 15) rfl rfl rfl ?_
      refine er_loc (pc' := 16) rfl rfl rfl ?_
      refine er_loc (pc' := 17) rfl rfl rfl ?_
      refine er_k (pc' := 18) (nI 4) rfl rfl rfl ?_
      refine er_cIi (pc' := 21) (rest := [_]) 12 rfl rfl rfl rfl rfl rfl (l_of4 _ X _ hI (by omega)) ?_
      rw [hdn]
      refine er_k (pc' := 22) (nI 1) rfl rfl rfl ?_
      refine er_cm_neF (pc' := 25) rfl (by decide +kernel) rfl ?_
      refine er_loc (pc' := 26) rfl rfl rfl ?_
      refine er_loc (pc' := 27) rfl rfl rfl ?_
      refine er_k (pc' := 28) (nI 3) rfl rfl rfl ?_
      refine er_cIi (pc' := 31) (rest := [_]) 12 rfl rfl rfl rfl rfl rfl (l_of3 _ X _ (by omega)) ?_
      refine er_loc (pc' := 32) rfl rfl rfl ?_
      refine er_ishr (pc' := 33) rfl rfl ?_
      refine er_k (pc' := 34) (nI 1) rfl rfl rfl ?_
      refine er_iand (pc' := 35) rfl rfl ?_
      refine er_k (pc' := 36) (nI 1) rfl rfl rfl ?_
      refine er_cm_ne (pc' := 39) rfl rfl (fun h36 => ?_) (fun h36 => ?_)
      · refine er_k (nI 0) rfl rfl rfl ?_
        refine er_ior rfl rfl ?_
        refine er_loc (L' := [(2, _), (0, _), (1, _), (3, _)]) rfl rfl rfl ?_
        refine er_loc (L' := [(3, .int (_ + nI 1)), (2, _), (0, _), (1, _)]) rfl rfl rfl ?_
        refine er_goto rfl ?_
        refine ER_loc [(0, _), (1, _), (2, _), (3, _)] rfl (List.forall_mem_cons.mpr ⟨rfl, List.forall_mem_cons.mpr ⟨rfl, List.forall_mem_cons.mpr ⟨rfl, List.forall_mem_cons.mpr ⟨rfl, fun _ h => absurd h List.not_mem_nil⟩⟩⟩⟩) rfl rfl ?_
        refine l_rNd_loop d X Z hI hs m (i + 1) _ _ (by omega) (nI_add i 1) ?_
        show _ = yNd _ _ _ ||| (if _ then _ else _)
        rw [if_neg (fun hh => h36 ((sar_bt (by omega)).mpr hh.2))]
      · refine er_k (nI 1) rfl rfl rfl ?_
        refine er_loc (pc' := 41) rfl rfl rfl ?_
        refine er_ishl (pc' := 42) rfl rfl ?_
        refine er_goto rfl ?_
        refine er_ior rfl rfl ?_
        refine er_loc (L' := [(2, _), (0, _), (1, _), (3, _)]) rfl rfl rfl ?_
        refine er_loc (L' := [(3, .int (_ + nI 1)), (2, _), (0, _), (1, _)]) rfl rfl rfl ?_
        refine er_goto rfl ?_
        refine ER_loc [(0, _), (1, _), (2, _), (3, _)] rfl (List.forall_mem_cons.mpr ⟨rfl, List.forall_mem_cons.mpr ⟨rfl, List.forall_mem_cons.mpr ⟨rfl, List.forall_mem_cons.mpr ⟨rfl, fun _ h => absurd h List.not_mem_nil⟩⟩⟩⟩) rfl rfl ?_
        refine l_rNd_loop d X Z hI hs m (i + 1) _ _ (by omega) (nI_add i 1) ?_
        show _ = yNd _ _ _ ||| (if _ then _ else _)
        rw [if_pos ⟨hdn, (sar_bt (by omega)).mp h36⟩]
set_option maxRecDepth 100000 in
set_option maxHeartbeats 4000000 in
theorem l_rNeeding (d : Nat) (X Z : Nat → Nat → Int32) {T : Nat} (hI : RK T (X 64)) {s : Nat} (hs : s < 32) : EC (d + 2) 138 [.ref 63, .int (nI s)] (Wd X Z) (PI (yNd (jm (X 64)) s (jn (jm (X 64)))) (Wd X Z)) := by
  refine er_enter (L := [(0, _), (1, _)]) rfl rfl rfl ?_
  refine er_k (pc' := 1) (nI 0) rfl rfl rfl ?_
  refine er_loc (pc' := 2) (L' := [(2, _), (0, _), (1, _)]) rfl rfl rfl ?_
  refine er_k (pc' := 3) (nI 0) rfl rfl rfl ?_
  refine er_loc (pc' := 4) (L' := [(3, _), (2, _), (0, _), (1, _)]) rfl rfl rfl ?_
  refine ER_loc [(0, _), (1, _), (2, _), (3, _)] rfl (List.forall_mem_cons.mpr ⟨rfl, List.forall_mem_cons.mpr ⟨rfl, List.forall_mem_cons.mpr ⟨rfl, List.forall_mem_cons.mpr ⟨rfl, fun _ h => absurd h List.not_mem_nil⟩⟩⟩⟩) rfl rfl ?_
  exact l_rNd_loop d X Z hI hs (jn (jm (X 64))) 0 _ _ (by omega) rfl rfl
theorem l_rNeverJ (d : Nat) (X Z : Nat → Nat → Int32) {T : Nat} (hI : RK T (X 64)) {k : Nat} (hk8 : k < 8) : EC (d + 2) 137 [.ref 63, .int (nI k)] (Wd X Z) (PI (bI (sNever (sKind (jm (X 64)) k))) (Wd X Z)) := by
  refine (l_rNever d X Z hk8).mono (fun r hr => ?_)
  have e : rNever (X 64) k = sNever (sKind (jm (X 64)) k) := by
    have hq := kind7 hI.ij k
    unfold rNever sNever
    rw [← jm1 (R := X 64) hk8, show jm (X 64) 1 k = nI (sKind (jm (X 64)) k) from (hI.ij.kind k).1]
    have e2 : decide (nI (sKind (jm (X 64)) k) = nI 2) = decide (sKind (jm (X 64)) k = 2) := decide_eq_decide.mpr ⟨fun h => nIj (by omega) (by omega) h, fun h => by rw [h]⟩
    have e5 : decide (nI (sKind (jm (X 64)) k) = nI 5) = decide (sKind (jm (X 64)) k = 5) := decide_eq_decide.mpr ⟨fun h => nIj (by omega) (by omega) h, fun h => by rw [h]⟩
    rw [e2, e5]
  rw [← e]
  exact hr
set_option maxRecDepth 100000 in
set_option maxHeartbeats 4000000 in
theorem l_rMayUn (d : Nat) (X Z : Nat → Nat → Int32) {T : Nat} (hI : RK T (X 64)) {k : Nat} (hk : k < jn (jm (X 64))) : EC (d + 3) 136 [.ref 63, .int (nI k)] (Wd X Z) (PI (bI (sMayUn (jm (X 64)) k)) (Wd X Z)) := by
  have h8 := jn8 hI.ij
  have hk8 : k < 8 := by omega
  have hq := kind7 hI.ij k
  cases hdn : sDone (jm (X 64)) k with
  | false =>
    refine er_enter (L := [(0, _), (1, _)]) rfl rfl rfl ?_
    refine er_loc (pc' := 1) rfl rfl rfl ?_
    refine er_loc (pc' := 2) rfl rfl rfl ?_
    refine er_k (pc' := 3) (nI 4) rfl rfl rfl ?_
    refine er_cIi (pc' := 6) (rest := []) 12 rfl rfl rfl rfl rfl rfl (l_of4 _ X _ hI hk) ?_
    rw [hdn]
    refine er_k (pc' := 7) (nI 1) rfl rfl rfl ?_
    refine er_cm_neT rfl (by decide +kernel) ?_
    refine er_k (pc' := 31) (nI 0) rfl rfl rfl ?_
    refine er_ret _ rfl rfl ?_
    have hw : sMayUn (jm (X 64)) k = false := by unfold sMayUn; rw [hdn]; simp
    exact PI_of (bI_eq0 hw)
  | true =>
    refine er_enter (L := [(0, _), (1, _)]) rfl rfl rfl ?_
    refine er_loc (pc' := 1) rfl rfl rfl ?_
    refine er_loc (pc' := 2) rfl rfl rfl ?_
    refine er_k (pc' := 3) (nI 4) rfl rfl rfl ?_
    refine er_cIi (pc' := 6) (rest := []) 12 rfl rfl rfl rfl rfl rfl (l_of4 _ X _ hI hk) ?_
    rw [hdn]
    refine er_k (pc' := 7) (nI 1) rfl rfl rfl ?_
    refine er_cm_neF (pc' := 10) rfl (by decide +kernel) rfl ?_
    refine er_loc (pc' := 11) rfl rfl rfl ?_
    refine er_loc (pc' := 12) rfl rfl rfl ?_
    refine er_cIi (pc' := 15) (rest := []) 12 rfl rfl rfl rfl rfl rfl (l_rNeverJ _ X _ hI (by omega)) ?_
    refine er_if_neb (pc' := 18) rfl rfl (fun h15 => ?_) (fun h15 => ?_)
    · have hw : sMayUn (jm (X 64)) k = false := by unfold sMayUn; rw [decide_eq_true hk, hdn, h15]; simp
      refine er_k (pc' := 31) (nI 0) rfl rfl rfl ?_
      refine er_ret _ rfl rfl ?_
      exact PI_of (bI_eq0 hw)
    · refine er_loc (pc' := 19) rfl rfl rfl ?_
      refine er_loc (pc' := 20) rfl rfl rfl ?_
      refine er_cIi (pc' := 23) (rest := []) 12 rfl rfl rfl rfl rfl rfl (l_rNeeding _ X _ hI (by omega)) ?_
      refine er_if_ne (pc' := 26) rfl rfl (fun h23 => ?_) (fun h23 => ?_)
      · have hw : sMayUn (jm (X 64)) k = false := by unfold sMayUn; rw [decide_eq_true hk, hdn, (by cases hb : sNeed (jm (X 64)) k (jn (jm (X 64))) with | true => rfl | false => exact absurd ((yNd_0 hI.ij hk).mpr hb) h23 : sNeed (jm (X 64)) k (jn (jm (X 64))) = true)]; simp
        refine er_k (pc' := 31) (nI 0) rfl rfl rfl ?_
        refine er_ret _ rfl rfl ?_
        exact PI_of (bI_eq0 hw)
      · have hw : sMayUn (jm (X 64)) k = true := by unfold sMayUn; rw [decide_eq_true hk, hdn, h15, (yNd_0 hI.ij hk).mp h23]; rfl
        refine er_k (pc' := 27) (nI 1) rfl rfl rfl ?_
        refine er_goto rfl ?_
        refine er_ret _ rfl rfl ?_
        exact PI_of (bI_eq1 hw)
