/-! THE FACE: draws, the tape -/
theorem sMayDo_no {J : Nat → Nat → Int32} {k : Nat} (h : ¬ k < jn J) : sMayDo J k = false := by
  unfold sMayDo
  rw [decide_eq_false h]
  rfl
theorem sMayUn_no {J : Nat → Nat → Int32} {k : Nat} (h : ¬ k < jn J) : sMayUn J k = false := by
  unfold sMayUn
  rw [decide_eq_false h]
  rfl
set_option maxRecDepth 100000 in
set_option maxHeartbeats 4000000 in
theorem l_mayBeDone_f (d : Nat) {b : Nat} (hb : jb b) (X Z : Nat → Nat → Int32) {T : Nat} (hI : IJ T (jx X b)) {k : Nat} (hk : ¬ k < jn (jx X b)) (h100 : k < 100) : EC (d + 3) 41 [.ref b, .int (nI k)] (Wd X Z) (PI (bI (sMayDo (jx X b) k)) (Wd X Z)) := by
  refine er_enter (L := [(0, _), (1, _)]) rfl rfl rfl ?_
  refine er_loc (pc' := 1) rfl rfl rfl ?_
  refine er_loc (pc' := 2) rfl rfl rfl ?_
  refine er_cIi (pc' := 5) (rest := []) 7 rfl rfl rfl (blt_J hb 0 rfl) (cO_J0 hb _ _) rfl (l_has_f _ hb _ _ hI hk h100) ?_
  refine er_if_eqT rfl (by decide +kernel) ?_
  refine er_k (pc' := 17) (nI 0) rfl rfl rfl ?_
  refine er_ret _ rfl rfl ?_
  exact PI_of (bI_eq0 (sMayDo_no hk))
theorem l_mayBeDone8 (d : Nat) {b : Nat} (hb : jb b) (X Z : Nat → Nat → Int32) {T : Nat} (hI : IJ T (jx X b)) {k : Nat} (h8 : k < 8) : EC (d + 3) 41 [.ref b, .int (nI k)] (Wd X Z) (PI (bI (sMayDo (jx X b) k)) (Wd X Z)) := by
  by_cases hk : k < jn (jx X b)
  · exact l_mayBeDone d hb X Z hI hk
  · exact l_mayBeDone_f d hb X Z hI hk (by omega)
set_option maxRecDepth 100000 in
set_option maxHeartbeats 4000000 in
theorem l_mayBeUndone_f (d : Nat) {b : Nat} (hb : jb b) (X Z : Nat → Nat → Int32) {T : Nat} (hI : IJ T (jx X b)) {k : Nat} (hk : ¬ k < jn (jx X b)) (h100 : k < 100) : EC (d + 3) 42 [.ref b, .int (nI k)] (Wd X Z) (PI (bI (sMayUn (jx X b) k)) (Wd X Z)) := by
  refine er_enter (L := [(0, _), (1, _)]) rfl rfl rfl ?_
  refine er_loc (pc' := 1) rfl rfl rfl ?_
  refine er_loc (pc' := 2) rfl rfl rfl ?_
  refine er_cIi (pc' := 5) (rest := []) 7 rfl rfl rfl (blt_J hb 0 rfl) (cO_J0 hb _ _) rfl (l_has_f _ hb _ _ hI hk h100) ?_
  refine er_if_eqT rfl (by decide +kernel) ?_
  refine er_k (pc' := 28) (nI 0) rfl rfl rfl ?_
  refine er_ret _ rfl rfl ?_
  exact PI_of (bI_eq0 (sMayUn_no hk))
theorem l_mayBeUndone8 (d : Nat) {b : Nat} (hb : jb b) (X Z : Nat → Nat → Int32) {T : Nat} (hI : IJ T (jx X b)) {k : Nat} (h8 : k < 8) : EC (d + 3) 42 [.ref b, .int (nI k)] (Wd X Z) (PI (bI (sMayUn (jx X b) k)) (Wd X Z)) := by
  by_cases hk : k < jn (jx X b)
  · exact l_mayBeUndone d hb X Z hI hk
  · exact l_mayBeUndone_f d hb X Z hI hk (by omega)
def O9 (X X' : Nat → Nat → Int32) : Prop := ∀ c, (c < 9 ∨ 9 + 12 < c) → X' c = X c
theorem O9.rf (X : Nat → Nat → Int32) : O9 X X := fun _ _ => rfl
theorem O9.ud {X X' : Nat → Nat → Int32} (h : O9 X X') {c k : Nat} {v : Int32} (hc : 9 ≤ c ∧ c ≤ 21) : O9 X (ud X' c k v) := fun q hq => by rw [ud_ne (by omega)]; exact h q hq
theorem O9.fin {X X' : Nat → Nat → Int32} (h : O9 X X') {k : Nat} : O9 X (xFin X' 9 k) := fun q hq => by rw [xFin_off (by omega)]; exact h q hq
theorem O9.apart {X X' : Nat → Nat → Int32} (h : O9 X X') {k : Nat} : O9 X (xApart X' 9 k) := fun q hq => by rw [xApart_off (by omega)]; exact h q hq
theorem IJ.loS {T : Nat} {J : Nat → Nat → Int32} (h : IJ T J) (hT : T < 1000000000) (k : Nat) (c : Int32) : IJ (T + 300) (loS J k c).1 := by
  show IJ (T + 300) (if _ then _ else if _ then _ else _ : (Nat → Nat → Int32) × Int32).1
  split
  · rename_i hm; exact h.fin (by omega) hm
  · split
    · rename_i hm; exact h.apart (by omega) hm
    · exact h.uMin ((h.minute.add (isN.of (Nat.le_refl 1) (by omega)) (by omega)).mono (by omega))
set_option maxRecDepth 100000 in
set_option maxHeartbeats 4000000 in
theorem l_loose_loop (d : Nat) {X : Nat → Nat → Int32} (P : ab_R → Prop) (n : Nat) : ∀ (m i T : Nat) (X1 Z : Nat → Nat → Int32) (c x : Int32), i + m = n ∧ n ≤ 40 → x = nI i → O9 X X1 → IJ T (jx X1 9) → T + 300 * m < 1000000 → (∀ r, RJ (itN loT m (jx X1 9, c)).2 (itN loT m (jx X1 9, c)).1 X r → P r) → ER (d + 6) tb_m93 44 [(0, .ref 0), (1, .int (nI n)), (2, .int c), (3, .int x)] [] (Wd X1 Z) P
  | 0, i, T, X1, Z, c, x, hi, hx, ho, hI1, hb, hP => by
    have hi0 : i = n := by omega
    subst hx
    subst hi0
    refine er_loc (pc' := 45) rfl rfl rfl ?_
    refine er_loc (pc' := 46) rfl rfl rfl ?_
    refine er_cm_geT rfl (nI_nlt (by omega) (by omega)) ?_
    refine er_loc (pc' := 132) rfl rfl rfl ?_
    refine er_iret rfl rfl ?_
    exact hP _ ⟨X1, Z, rfl, rfl, ho⟩
  | m + 1, i, T, X1, Z, c, x, hi, hx, ho, hI1, hb, hP => by
    subst hx
    refine er_loc (pc' := 45) rfl rfl rfl ?_
    refine er_loc (pc' := 46) rfl rfl rfl ?_
    refine er_cm_geF (pc' := 49) rfl (nI_lt (by omega) (by omega)) rfl ?_
    refine er_loc (pc' := 50) rfl rfl rfl ?_
    refine er_gf (pc' := 53) (_) rfl rfl rfl rfl rfl ?_
    refine er_cIz (pc' := 56) (rest := []) 7 rfl rfl rfl rfl rfl rfl (l_draw _ j9 _ _) ?_
    intro Z1
    obtain ⟨Y, hY⟩ : ∃ Y, Y = ud X1 9 17 (sZ (X1 9 17)) := ⟨_, rfl⟩
    have hjY : jx Y 9 = jZ (jx X1 9) := by rw [hY, jx_ud0 rfl]; unfold jZ; rw [jx017]
    have hIY : IJ T (jx Y 9) := by rw [hjY]; exact hI1.uZ
    have hoY : O9 X Y := by rw [hY]; exact ho.ud (by omega)
    obtain ⟨k, hk8, hk⟩ := pick8 (sZ (X1 9 17))
    have hks : nN (sPick (sZ (jx X1 9 0 17))) = k := by rw [jx017, hk]; exact nN_nI (by omega)
    have eT : loT (jx X1 9, c) = loS (jx Y 9) k c := by
      unfold loT
      rw [hks, ← hjY]
    rw [← hY]
    refine er_k (pc' := 58) (nI 8) rfl rfl rfl ?_
    refine er_irem (pc' := 59) rfl rfl (by decide) ?_
    rw [show sDraw (sZ (X1 9 17)) - sDraw (sZ (X1 9 17)) / nI 8 * nI 8 = nI k from hk]
    refine er_loc (L' := [(4, _), (0, _), (1, _), (2, _), (3, _)]) (pc' := 61) rfl rfl rfl ?_
    refine er_loc (pc' := 62) rfl rfl rfl ?_
    refine er_gf (pc' := 65) (_) rfl rfl rfl rfl rfl ?_
    refine er_loc (pc' := 67) rfl rfl rfl ?_
    refine er_cIi (pc' := 70) (rest := []) 7 rfl rfl rfl rfl rfl rfl (l_mayBeDone8 _ j9 _ _ hIY hk8) ?_
    refine er_if_eqb (pc' := 73) rfl rfl (fun h70 => ?_) (fun h70 => ?_)
    · refine er_loc (pc' := 89) rfl rfl rfl ?_
      refine er_gf (pc' := 92) (_) rfl rfl rfl rfl rfl ?_
      refine er_loc (pc' := 94) rfl rfl rfl ?_
      refine er_cIi (pc' := 97) (rest := []) 7 rfl rfl rfl rfl rfl rfl (l_mayBeUndone8 _ j9 _ _ hIY hk8) ?_
      refine er_if_eqb (pc' := 100) rfl rfl (fun h97 => ?_) (fun h97 => ?_)
      · have e2 : loS (jx Y 9) k c = (ud (jx Y 9) 0 10 (jx Y 9 0 10 + nI 1), c) := by
          unfold loS
          rw [if_neg (by rw [h70]; decide), if_neg (by rw [h97]; decide)]
        refine er_loc (pc' := 113) rfl rfl rfl ?_
        refine er_gf (pc' := 116) (_) rfl rfl rfl rfl rfl ?_
        refine er_pure (pc' := 117) rfl rfl rfl ?_
        refine er_gf (pc' := 120) (.int (Y 9 10)) rfl rfl rfl rfl rfl ?_
        refine er_k (pc' := 121) (nI 1) rfl rfl rfl ?_
        refine er_iadd (pc' := 122) rfl rfl ?_
        refine er_pfIX (pc' := 125) 10 rfl rfl rfl rfl rfl rfl ?_
        refine er_loc (L' := [(3, .int (_ + nI 1)), (4, _), (0, _), (1, _), (2, _)]) (pc' := 128) rfl rfl rfl ?_
        refine er_goto rfl ?_
        refine ER_loc [(0, _), (1, _), (2, _), (3, _)] rfl (List.forall_mem_cons.mpr ⟨rfl, List.forall_mem_cons.mpr ⟨rfl, List.forall_mem_cons.mpr ⟨rfl, List.forall_mem_cons.mpr ⟨rfl, fun _ h => absurd h List.not_mem_nil⟩⟩⟩⟩) rfl rfl ?_
        have hj3 : jx (ud Y 9 10 (Y 9 10 + nI 1)) 9 = (loS (jx Y 9) k c).1 := by
          rw [e2, jx_ud0 rfl, jx010]
        refine l_loose_loop d P n m (i + 1) (T + 300) _ _ c _ (by omega) (nI_add i 1) (hoY.ud (by omega)) ?_ (by omega) (fun r hr => hP r ?_)
        · rw [hj3]; exact IJ.loS hIY (by omega) _ _
        · rw [itN_succ, eT, e2, ← show jx (ud Y 9 10 (Y 9 10 + nI 1)) 9 = ud (jx Y 9) 0 10 (jx Y 9 0 10 + nI 1) from by rw [jx_ud0 rfl, jx010]]
          exact hr
      · have e2 : loS (jx Y 9) k c = (jApart (jx Y 9) k, c) := by
          unfold loS
          rw [if_neg (by rw [h70]; decide), if_pos h97]
        refine er_loc (pc' := 101) rfl rfl rfl ?_
        refine er_gf (pc' := 104) (_) rfl rfl rfl rfl rfl ?_
        refine er_loc (pc' := 106) rfl rfl rfl ?_
        refine er_cIv (pc' := 109) (rest := []) 7 rfl rfl rfl rfl rfl rfl (l_takeApart _ j9 _ _ hIY (k := k) (mayUn_k h97).1) ?_
        intro Z7
        refine er_goto rfl ?_
        refine er_loc (L' := [(3, .int (_ + nI 1)), (4, _), (0, _), (1, _), (2, _)]) (pc' := 128) rfl rfl rfl ?_
        refine er_goto rfl ?_
        refine ER_loc [(0, _), (1, _), (2, _), (3, _)] rfl (List.forall_mem_cons.mpr ⟨rfl, List.forall_mem_cons.mpr ⟨rfl, List.forall_mem_cons.mpr ⟨rfl, List.forall_mem_cons.mpr ⟨rfl, fun _ h => absurd h List.not_mem_nil⟩⟩⟩⟩) rfl rfl ?_
        have hj3 : jx (xApart Y 9 k) 9 = (loS (jx Y 9) k c).1 := by
          rw [e2, jx_xApart hk8]
        refine l_loose_loop d P n m (i + 1) (T + 300) _ _ c _ (by omega) (nI_add i 1) hoY.apart ?_ (by omega) (fun r hr => hP r ?_)
        · rw [hj3]; exact IJ.loS hIY (by omega) _ _
        · rw [itN_succ, eT, e2, ← jx_xApart hk8]
          exact hr
    · have e2 : loS (jx Y 9) k c = (jFin (jx Y 9) k, c + nI 1) := by
        unfold loS
        rw [if_pos h70]
      refine er_loc (pc' := 74) rfl rfl rfl ?_
      refine er_gf (pc' := 77) (_) rfl rfl rfl rfl rfl ?_
      refine er_loc (pc' := 79) rfl rfl rfl ?_
      refine er_cIv (pc' := 82) (rest := []) 7 rfl rfl rfl rfl rfl rfl (l_finish _ j9 _ _ hIY (k := k) (mayDo_k h70).1) ?_
      intro Z7
      refine er_loc (L' := [(2, .int (_ + nI 1)), (4, _), (0, _), (1, _), (3, _)]) (pc' := 85) rfl rfl rfl ?_
      refine er_goto rfl ?_
      refine er_loc (L' := [(3, .int (_ + nI 1)), (2, _), (4, _), (0, _), (1, _)]) (pc' := 128) rfl rfl rfl ?_
      refine er_goto rfl ?_
      refine ER_loc [(0, _), (1, _), (2, _), (3, _)] rfl (List.forall_mem_cons.mpr ⟨rfl, List.forall_mem_cons.mpr ⟨rfl, List.forall_mem_cons.mpr ⟨rfl, List.forall_mem_cons.mpr ⟨rfl, fun _ h => absurd h List.not_mem_nil⟩⟩⟩⟩) rfl rfl ?_
      have hj3 : jx (xFin Y 9 k) 9 = (loS (jx Y 9) k c).1 := by
        rw [e2, jx_xFin hk8]
      refine l_loose_loop d P n m (i + 1) (T + 300) _ _ (c + nI 1) _ (by omega) (nI_add i 1) hoY.fin ?_ (by omega) (fun r hr => hP r ?_)
      · rw [hj3]; exact IJ.loS hIY (by omega) _ _
      · rw [itN_succ, eT, e2, ← jx_xFin hk8]
        exact hr
def sLooseOk (J : Nat → Nat → Int32) (n : Int32) : Bool := !decide (99999 < J 0 10 + n * nI 300)
set_option maxRecDepth 100000 in
set_option maxHeartbeats 4000000 in
theorem l_loose (d : Nat) (X Z : Nat → Nat → Int32) {t : Nat} (hI : IJ t (jx X 9)) (ht : t < 100000) (n : Int32) : EC (d + 7) 93 [.ref 0, .int n] (Wd X Z) (fun r => if sIn n (nI 1) (nI 40) = true then (if sLooseOk (jx X 9) n = true then RJ (itN loT (nN n) (jx X 9, nI 0)).2 (itN loT (nN n) (jx X 9, nI 0)).1 X r else RI (sErr 3) (xErr X 3) r) else RI (sErr 1) (xErr X 1) r) := by
  refine er_enter (L := [(0, _), (1, _)]) rfl rfl rfl ?_
  refine er_loc (pc' := 1) rfl rfl rfl ?_
  refine er_k (pc' := 2) (nI 1) rfl rfl rfl ?_
  refine er_k (pc' := 4) (nI 40) rfl rfl rfl ?_
  refine er_cSi (pc' := 7) (rest := []) rfl rfl rfl (l_within _ _ _ _ _) ?_
  refine er_if_neb (pc' := 10) rfl rfl (fun h7 => ?_) (fun h7 => ?_)
  · refine er_loc (pc' := 17) rfl rfl rfl ?_
    refine er_gf (pc' := 20) (_) rfl rfl rfl rfl rfl ?_
    refine er_gf (pc' := 23) (.int (X 9 10)) rfl rfl rfl rfl rfl ?_
    refine er_loc (pc' := 24) rfl rfl rfl ?_
    refine er_k (pc' := 27) (nI 300) rfl rfl rfl ?_
    refine er_imul (pc' := 28) rfl rfl ?_
    refine er_iadd (pc' := 29) rfl rfl ?_
    refine er_ldc (pc' := 31) (99999) rfl rfl rfl rfl rfl ?_
    refine er_cm_le (pc' := 34) rfl rfl (fun h31 => ?_) (fun h31 => ?_)
    · refine er_k (pc' := 41) (nI 0) rfl rfl rfl ?_
      refine er_loc (pc' := 42) (L' := [(2, _), (0, _), (1, _)]) rfl rfl rfl ?_
      refine er_k (pc' := 43) (nI 0) rfl rfl rfl ?_
      refine er_loc (pc' := 44) (L' := [(3, _), (2, _), (0, _), (1, _)]) rfl rfl rfl ?_
      obtain ⟨j, h1j, h40j, hj⟩ := sIn_ex (by omega) (by omega) h7
      subst hj
      refine ER_loc [(0, _), (1, _), (2, _), (3, _)] rfl (List.forall_mem_cons.mpr ⟨rfl, List.forall_mem_cons.mpr ⟨rfl, List.forall_mem_cons.mpr ⟨rfl, List.forall_mem_cons.mpr ⟨rfl, fun _ h => absurd h List.not_mem_nil⟩⟩⟩⟩) rfl rfl ?_
      refine l_loose_loop d _ j j 0 t X Z (nI 0) _ ⟨by omega, h40j⟩ rfl (O9.rf X) hI (by omega) (fun r hr => ?_)
      rw [if_pos h7, if_pos (by unfold sLooseOk; rw [jx010]; simp [h31]), nN_nI (by omega)]
      exact hr
    · refine er_loc (pc' := 35) rfl rfl rfl ?_
      refine er_k (pc' := 36) (nI 3) rfl rfl rfl ?_
      refine er_cIz (pc' := 39) (rest := []) 11 rfl rfl rfl rfl rfl rfl (l_error _ _ _ 3 (by decide)) ?_
      intro Z9
      refine er_iret rfl rfl ?_
      rw [if_pos h7, if_neg (by unfold sLooseOk; rw [jx010]; simp [h31])]
      exact RI_of rfl rfl
  · refine er_loc (pc' := 11) rfl rfl rfl ?_
    refine er_k (pc' := 12) (nI 1) rfl rfl rfl ?_
    refine er_cIz (pc' := 15) (rest := []) 11 rfl rfl rfl rfl rfl rfl (l_error _ _ _ 1 (by decide)) ?_
    intro Z9
    refine er_iret rfl rfl ?_
    rw [if_neg (by rw [h7]; decide)]
    exact RI_of rfl rfl
