/-! JOBS: what is needed, what rests on it, doing and undoing -/
def sNeed (J : Nat → Nat → Int32) (k : Nat) : Nat → Bool
  | 0 => false
  | i + 1 => sNeed J k i || (decide (k < i) && sDone J i && sBit (J 4 i) (nI k))
def sMayUn (J : Nat → Nat → Int32) (k : Nat) : Bool := decide (k < jn J) && sDone J k && !sNever (sKind J k) && !sNeed J k (jn J)
def sRest (J : Nat → Nat → Int32) (k : Nat) : Nat → Int32
  | 0 => nI 0
  | i + 1 => if k < i then sWith (sRest J k i) (nI i) (!decide ((J 4 i &&& sWith (sRest J k i) (nI k) true) = 0) && sDone J i) else sRest J k i
def sSum (J : Nat → Nat → Int32) (s : Int32) : Nat → Int32
  | 0 => nI 0
  | i + 1 => sSum J s i + (if sBit s (nI i) = true then J 3 i else nI 0)
def sFirst (J : Nat → Nat → Int32) : Nat → Nat → Option Nat
  | 0, _ => none
  | m + 1, i => if sMayDo J i = true then some i else sFirst J m (i + 1)
def fI (q : Option Nat) : Int32 := match q with
  | none => -1
  | some k => nI k
theorem sNeed_low {J : Nat → Nat → Int32} {k : Nat} : ∀ {i : Nat}, i ≤ k + 1 → sNeed J k i = false
  | 0, _ => rfl
  | i + 1, h => by
    unfold sNeed
    rw [sNeed_low (by omega), decide_eq_false (by omega)]
    rfl
theorem sRest_low {J : Nat → Nat → Int32} {k : Nat} : ∀ {i : Nat}, i ≤ k + 1 → sRest J k i = nI 0
  | 0, _ => rfl
  | i + 1, h => by
    unfold sRest
    rw [if_neg (by omega), sRest_low (by omega)]
set_option maxRecDepth 100000 in
set_option maxHeartbeats 4000000 in
theorem l_mbu_loop (d : Nat) {b : Nat} (hb : jb b) (X Z : Nat → Nat → Int32) {T : Nat} (hI : IJ T (jx X b)) {k : Nat} (hk : k < jn (jx X b)) : ∀ (m i : Nat) (x v : Int32), i + m = jn (jx X b) → k < i → x = nI i → v = bI (sNeed (jx X b) k i) → ER (d + 2) tb_m42 35 [(0, .ref b), (1, .int (nI k)), (2, .int v), (3, .int x)] [] (Wd X Z) (PI (bI (!sNeed (jx X b) k (jn (jx X b)))) (Wd X Z))
  | 0, i, x, v, hi, hki, hx, hv => by
    have h8 := jn8 hI
    have hi : i = jn (jx X b) := by omega
    subst hx
    subst hv
    subst hi
    refine er_loc (pc' := 36) rfl rfl rfl ?_
    refine er_loc (pc' := 37) rfl rfl rfl ?_
    refine er_gf (pc' := 40) (_) rfl (blt_J hb 0 rfl) (cO_J0 hb _ _) rfl rfl ?_
    rw [show X b 1 = nI (jn (jx X b)) from hI.n.1]
    refine er_cm_geT rfl (nI_nlt (by omega) (by omega)) ?_
    refine er_loc (pc' := 81) rfl rfl rfl ?_
    refine er_if_neb (pc' := 84) rfl rfl (fun h81 => ?_) (fun h81 => ?_)
    · refine er_k (pc' := 89) (nI 0) rfl rfl rfl ?_
      refine er_ret _ rfl rfl ?_
      exact PI_of (bI_eq0 (by simp [*]))
    · refine er_k (pc' := 85) (nI 1) rfl rfl rfl ?_
      refine er_goto rfl ?_
      refine er_ret _ rfl rfl ?_
      exact PI_of (bI_eq1 (by simp [*]))
  | m + 1, i, x, v, hi, hki, hx, hv => by
    have h8 := jn8 hI
    have hi8 : i < 8 := by omega
    subst hx
    subst hv
    refine er_loc (pc' := 36) rfl rfl rfl ?_
    refine er_loc (pc' := 37) rfl rfl rfl ?_
    refine er_gf (pc' := 40) (_) rfl (blt_J hb 0 rfl) (cO_J0 hb _ _) rfl rfl ?_
    rw [show X b 1 = nI (jn (jx X b)) from hI.n.1]
    refine er_cm_geF (pc' := 43) rfl (nI_lt (by omega) (by omega)) rfl ?_
    refine er_loc (pc' := 44) rfl rfl rfl ?_
    refine er_if_neb (pc' := 47) rfl rfl (fun h44 => ?_) (fun h44 => ?_)
    · refine er_k (pc' := 69) (nI 1) rfl rfl rfl ?_
      refine er_goto rfl ?_
      refine er_loc (L' := [(2, _), (0, _), (1, _), (3, _)]) rfl rfl rfl ?_
      refine er_loc (L' := [(3, .int (_ + nI 1)), (2, _), (0, _), (1, _)]) rfl rfl rfl ?_
      refine er_goto rfl ?_
      refine ER_loc [(0, _), (1, _), (2, _), (3, _)] rfl (List.forall_mem_cons.mpr ⟨rfl, List.forall_mem_cons.mpr ⟨rfl, List.forall_mem_cons.mpr ⟨rfl, List.forall_mem_cons.mpr ⟨rfl, fun _ h => absurd h List.not_mem_nil⟩⟩⟩⟩) rfl rfl ?_
      refine l_mbu_loop d hb X Z hI hk m (i + 1) _ _ (by omega) (by omega) (nI_add i 1) (bI_eq1 ?_)
      simp only [sNeed, sDone, jx4 hi8, jx06]
      simp [*]
    · refine er_loc (pc' := 48) rfl rfl rfl ?_
      refine er_loc (pc' := 49) rfl rfl rfl ?_
      refine er_cIi (pc' := 52) (rest := []) 7 rfl rfl rfl (blt_J hb 0 rfl) (cO_J0 hb _ _) rfl (l_isDone _ hb _ _ _) ?_
      refine er_if_eqb (pc' := 55) rfl rfl (fun h52 => ?_) (fun h52 => ?_)
      · refine er_k (pc' := 73) (nI 0) rfl rfl rfl ?_
        refine er_loc (L' := [(2, _), (0, _), (1, _), (3, _)]) rfl rfl rfl ?_
        refine er_loc (L' := [(3, .int (_ + nI 1)), (2, _), (0, _), (1, _)]) rfl rfl rfl ?_
        refine er_goto rfl ?_
        refine ER_loc [(0, _), (1, _), (2, _), (3, _)] rfl (List.forall_mem_cons.mpr ⟨rfl, List.forall_mem_cons.mpr ⟨rfl, List.forall_mem_cons.mpr ⟨rfl, List.forall_mem_cons.mpr ⟨rfl, fun _ h => absurd h List.not_mem_nil⟩⟩⟩⟩) rfl rfl ?_
        refine l_mbu_loop d hb X Z hI hk m (i + 1) _ _ (by omega) (by omega) (nI_add i 1) (bI_eq0 ?_)
        simp only [sNeed, sDone, jx4 hi8, jx06]
        simp [*]
      · refine er_loc (pc' := 56) rfl rfl rfl ?_
        refine er_gf (pc' := 59) (_) rfl (blt_J hb 0 rfl) (cO_J0 hb _ _) rfl rfl ?_
        refine er_loc (pc' := 60) rfl rfl rfl ?_
        refine er_ia (pc' := 61) (i) rfl (blt_J hb 4 rfl) (cO_J4 hb _ _) rfl (by omega) rfl rfl ?_
        refine er_loc (pc' := 62) rfl rfl rfl ?_
        refine er_cSi (pc' := 65) (rest := []) rfl rfl rfl (l_isIn _ _ _ _) ?_
        refine er_if_eqb (pc' := 68) rfl rfl (fun h65 => ?_) (fun h65 => ?_)
        · refine er_k (pc' := 73) (nI 0) rfl rfl rfl ?_
          refine er_loc (L' := [(2, _), (0, _), (1, _), (3, _)]) rfl rfl rfl ?_
          refine er_loc (L' := [(3, .int (_ + nI 1)), (2, _), (0, _), (1, _)]) rfl rfl rfl ?_
          refine er_goto rfl ?_
          refine ER_loc [(0, _), (1, _), (2, _), (3, _)] rfl (List.forall_mem_cons.mpr ⟨rfl, List.forall_mem_cons.mpr ⟨rfl, List.forall_mem_cons.mpr ⟨rfl, List.forall_mem_cons.mpr ⟨rfl, fun _ h => absurd h List.not_mem_nil⟩⟩⟩⟩) rfl rfl ?_
          refine l_mbu_loop d hb X Z hI hk m (i + 1) _ _ (by omega) (by omega) (nI_add i 1) (bI_eq0 ?_)
          simp only [sNeed, sDone, jx4 hi8, jx06]
          simp [*]
        · refine er_k (pc' := 69) (nI 1) rfl rfl rfl ?_
          refine er_goto rfl ?_
          refine er_loc (L' := [(2, _), (0, _), (1, _), (3, _)]) rfl rfl rfl ?_
          refine er_loc (L' := [(3, .int (_ + nI 1)), (2, _), (0, _), (1, _)]) rfl rfl rfl ?_
          refine er_goto rfl ?_
          refine ER_loc [(0, _), (1, _), (2, _), (3, _)] rfl (List.forall_mem_cons.mpr ⟨rfl, List.forall_mem_cons.mpr ⟨rfl, List.forall_mem_cons.mpr ⟨rfl, List.forall_mem_cons.mpr ⟨rfl, fun _ h => absurd h List.not_mem_nil⟩⟩⟩⟩) rfl rfl ?_
          refine l_mbu_loop d hb X Z hI hk m (i + 1) _ _ (by omega) (by omega) (nI_add i 1) (bI_eq1 ?_)
          simp only [sNeed, sDone, jx4 hi8, jx06]
          simp [*]
set_option maxRecDepth 100000 in
set_option maxHeartbeats 4000000 in
theorem l_mayBeUndone (d : Nat) {b : Nat} (hb : jb b) (X Z : Nat → Nat → Int32) {T : Nat} (hI : IJ T (jx X b)) {k : Nat} (hk : k < jn (jx X b)) : EC (d + 3) 42 [.ref b, .int (nI k)] (Wd X Z) (PI (bI (sMayUn (jx X b) k)) (Wd X Z)) := by
  refine er_enter (L := [(0, _), (1, _)]) rfl rfl rfl ?_
  have h8 := jn8 hI
  have hk8 : k < 8 := by omega
  have hq := kind7 hI k
  refine er_loc (pc' := 1) rfl rfl rfl ?_
  refine er_loc (pc' := 2) rfl rfl rfl ?_
  refine er_cIi (pc' := 5) (rest := []) 7 rfl rfl rfl (blt_J hb 0 rfl) (cO_J0 hb _ _) rfl (l_has_t _ hb _ _ hI hk) ?_
  refine er_if_eqF (pc' := 8) rfl (by decide +kernel) rfl ?_
  refine er_loc (pc' := 9) rfl rfl rfl ?_
  refine er_loc (pc' := 10) rfl rfl rfl ?_
  refine er_cIi (pc' := 13) (rest := []) 7 rfl rfl rfl (blt_J hb 0 rfl) (cO_J0 hb _ _) rfl (l_isDone _ hb _ _ _) ?_
  refine er_if_eqb (pc' := 16) rfl rfl (fun h13 => ?_) (fun h13 => ?_)
  · refine er_k (pc' := 28) (nI 0) rfl rfl rfl ?_
    refine er_ret _ rfl rfl ?_
    exact PI_of (bI_eq0 (by simp only [sMayUn, sDone, jx06]; simp [*]))
  · refine er_loc (pc' := 17) rfl rfl rfl ?_
    refine er_loc (pc' := 18) rfl rfl rfl ?_
    refine er_cIr (pc' := 21) (rest := []) 7 rfl rfl rfl (blt_J hb 0 rfl) (cO_J0 hb _ _) rfl (l_kindOf _ hb _ _ hI hk) ?_
    refine er_cIi (pc' := 24) (rest := []) (sKind (jx X b) k) rfl rfl (by rcases lt7 hq with e | e | e | e | e | e | e <;> rw [e] <;> rfl) (blt_S hq) (cO_S hq _ _) rfl (l_neverOf _ _ _ hq) ?_
    refine er_if_eqb (pc' := 27) rfl rfl (fun h24 => ?_) (fun h24 => ?_)
    · refine er_k (pc' := 30) (nI 0) rfl rfl rfl ?_
      refine er_loc (pc' := 31) (L' := [(2, _), (0, _), (1, _)]) rfl rfl rfl ?_
      refine er_loc (pc' := 32) rfl rfl rfl ?_
      refine er_k (pc' := 33) (nI 1) rfl rfl rfl ?_
      refine er_iadd (pc' := 34) rfl rfl ?_
      refine er_loc (pc' := 35) (L' := [(3, _), (2, _), (0, _), (1, _)]) rfl rfl rfl ?_
      refine ER.mono (Q := PI (bI (sMayUn (jx X b) k)) (Wd X Z)) ?_ (fun _ h => h)
      have e : sMayUn (jx X b) k = !sNeed (jx X b) k (jn (jx X b)) := by
        simp only [sMayUn, sDone, jx06]
        simp [*]
      rw [e]
      refine ER_loc [(0, _), (1, _), (2, _), (3, _)] rfl (List.forall_mem_cons.mpr ⟨rfl, List.forall_mem_cons.mpr ⟨rfl, List.forall_mem_cons.mpr ⟨rfl, List.forall_mem_cons.mpr ⟨rfl, fun _ h => absurd h List.not_mem_nil⟩⟩⟩⟩) rfl rfl ?_
      exact l_mbu_loop d hb X Z hI hk (jn (jx X b) - (k + 1)) (k + 1) _ _ (by omega) (by omega) (nI_add k 1) (bI_eq0 (sNeed_low (Nat.le_refl _)))
    · refine er_k (pc' := 28) (nI 0) rfl rfl rfl ?_
      refine er_ret _ rfl rfl ?_
      exact PI_of (bI_eq0 (by simp only [sMayUn, sDone, jx06]; simp [*]))
set_option maxRecDepth 100000 in
set_option maxHeartbeats 4000000 in
theorem l_least_loop (d : Nat) {b : Nat} (hb : jb b) (X Z : Nat → Nat → Int32) {T : Nat} (hI : IJ T (jx X b)) : ∀ (m i : Nat) (x : Int32), i + m = jn (jx X b) → x = nI i → ER (d + 3) tb_m49 2 [(0, .ref b), (1, .int x)] [] (Wd X Z) (PI (fI (sFirst (jx X b) m i)) (Wd X Z))
  | 0, i, x, hi, hx => by
    have h8 := jn8 hI
    have hi : i = jn (jx X b) := by omega
    subst hx
    subst hi
    refine er_loc (pc' := 3) rfl rfl rfl ?_
    refine er_loc (pc' := 4) rfl rfl rfl ?_
    refine er_gf (pc' := 7) (_) rfl (blt_J hb 0 rfl) (cO_J0 hb _ _) rfl rfl ?_
    rw [show X b 1 = nI (jn (jx X b)) from hI.n.1]
    refine er_cm_geT rfl (nI_nlt (by omega) (by omega)) ?_
    refine er_k (pc' := 27) (-1) rfl rfl rfl ?_
    refine er_iret rfl rfl ?_
    exact PI_of rfl
  | m + 1, i, x, hi, hx => by
    have h8 := jn8 hI
    have hi8 : i < 8 := by omega
    subst hx
    refine er_loc (pc' := 3) rfl rfl rfl ?_
    refine er_loc (pc' := 4) rfl rfl rfl ?_
    refine er_gf (pc' := 7) (_) rfl (blt_J hb 0 rfl) (cO_J0 hb _ _) rfl rfl ?_
    rw [show X b 1 = nI (jn (jx X b)) from hI.n.1]
    refine er_cm_geF (pc' := 10) rfl (nI_lt (by omega) (by omega)) rfl ?_
    refine er_loc (pc' := 11) rfl rfl rfl ?_
    refine er_loc (pc' := 12) rfl rfl rfl ?_
    refine er_cIi (pc' := 15) (rest := []) 7 rfl rfl rfl (blt_J hb 0 rfl) (cO_J0 hb _ _) rfl (l_mayBeDone _ hb _ _ hI (k := i) (by omega)) ?_
    refine er_if_eqb (pc' := 18) rfl rfl (fun h15 => ?_) (fun h15 => ?_)
    · refine er_loc (pc' := 23) (L' := [(1, .int (_ + nI 1)), (0, _)]) rfl rfl rfl ?_
      refine er_goto rfl ?_
      refine ER_loc [(0, _), (1, _)] rfl (List.forall_mem_cons.mpr ⟨rfl, List.forall_mem_cons.mpr ⟨rfl, fun _ h => absurd h List.not_mem_nil⟩⟩) rfl rfl ?_
      have e : sFirst (jx X b) (m + 1) i = sFirst (jx X b) m (i + 1) := by
        show (if _ then _ else _) = _
        rw [if_neg (by rw [h15]; decide)]
      rw [e]
      exact l_least_loop d hb X Z hI m (i + 1) _ (by omega) (nI_add i 1)
    · refine er_loc (pc' := 19) rfl rfl rfl ?_
      refine er_iret rfl rfl ?_
      exact PI_of (by show nI i = fI (if _ then _ else _); rw [if_pos h15]; rfl)
set_option maxRecDepth 100000 in
set_option maxHeartbeats 4000000 in
theorem l_leastThatMay (d : Nat) {b : Nat} (hb : jb b) (X Z : Nat → Nat → Int32) {T : Nat} (hI : IJ T (jx X b)) : EC (d + 4) 49 [.ref b] (Wd X Z) (PI (fI (sFirst (jx X b) (jn (jx X b)) 0)) (Wd X Z)) := by
  refine er_enter (L := [(0, _)]) rfl rfl rfl ?_
  refine er_k (pc' := 1) (nI 0) rfl rfl rfl ?_
  refine er_loc (pc' := 2) (L' := [(1, _), (0, _)]) rfl rfl rfl ?_
  refine ER_loc [(0, _), (1, _)] rfl (List.forall_mem_cons.mpr ⟨rfl, List.forall_mem_cons.mpr ⟨rfl, fun _ h => absurd h List.not_mem_nil⟩⟩) rfl rfl ?_
  exact l_least_loop d hb X Z hI _ 0 _ (by omega) rfl
set_option maxRecDepth 100000 in
set_option maxHeartbeats 4000000 in
theorem l_rest_loop (d : Nat) {b : Nat} (hb : jb b) (X Z : Nat → Nat → Int32) {T : Nat} (hI : IJ T (jx X b)) {k : Nat} (hk : k < jn (jx X b)) : ∀ (m i : Nat) (x v : Int32), i + m = jn (jx X b) → k < i → x = nI i → v = sRest (jx X b) k i → ER (d + 2) tb_m52 6 [(0, .ref b), (1, .int (nI k)), (2, .int v), (3, .int x)] [] (Wd X Z) (PI (sRest (jx X b) k (jn (jx X b))) (Wd X Z))
  | 0, i, x, v, hi, hki, hx, hv => by
    have h8 := jn8 hI
    have hi : i = jn (jx X b) := by omega
    subst hx
    subst hv
    subst hi
    refine er_loc (pc' := 7) rfl rfl rfl ?_
    refine er_loc (pc' := 8) rfl rfl rfl ?_
    refine er_gf (pc' := 11) (_) rfl (blt_J hb 0 rfl) (cO_J0 hb _ _) rfl rfl ?_
    rw [show X b 1 = nI (jn (jx X b)) from hI.n.1]
    refine er_cm_geT rfl (nI_nlt (by omega) (by omega)) ?_
    refine er_loc (pc' := 68) rfl rfl rfl ?_
    refine er_iret rfl rfl ?_
    exact PI_of rfl
  | m + 1, i, x, v, hi, hki, hx, hv => by
    have h8 := jn8 hI
    have hi8 : i < 8 := by omega
    subst hx
    subst hv
    refine er_loc (pc' := 7) rfl rfl rfl ?_
    refine er_loc (pc' := 8) rfl rfl rfl ?_
    refine er_gf (pc' := 11) (_) rfl (blt_J hb 0 rfl) (cO_J0 hb _ _) rfl rfl ?_
    rw [show X b 1 = nI (jn (jx X b)) from hI.n.1]
    refine er_cm_geF (pc' := 14) rfl (nI_lt (by omega) (by omega)) rfl ?_
    refine er_loc (pc' := 15) rfl rfl rfl ?_
    refine er_gf (pc' := 18) (_) rfl (blt_J hb 0 rfl) (cO_J0 hb _ _) rfl rfl ?_
    refine er_loc (pc' := 19) rfl rfl rfl ?_
    refine er_ia (pc' := 20) (i) rfl (blt_J hb 4 rfl) (cO_J4 hb _ _) rfl (by omega) rfl rfl ?_
    refine er_loc (pc' := 21) rfl rfl rfl ?_
    refine er_loc (pc' := 22) rfl rfl rfl ?_
    refine er_k (pc' := 23) (nI 1) rfl rfl rfl ?_
    refine er_cSi (pc' := 26) (rest := [_]) rfl rfl rfl (l_with _ _ _ true _) ?_
    refine er_iand (pc' := 27) rfl rfl ?_
    refine er_if_eq (pc' := 30) rfl rfl (fun h27 => ?_) (fun h27 => ?_)
    · refine er_k (pc' := 35) (nI 0) rfl rfl rfl ?_
      refine er_loc (pc' := 37) (L' := [(4, _), (0, _), (1, _), (2, _), (3, _)]) rfl rfl rfl ?_
      refine er_loc (pc' := 38) rfl rfl rfl ?_
      refine er_loc (pc' := 39) rfl rfl rfl ?_
      refine er_loc (pc' := 41) rfl rfl rfl ?_
      refine er_if_eqT rfl (by decide +kernel) ?_
      refine er_k (pc' := 57) (nI 0) rfl rfl rfl ?_
      refine er_cSi (rest := []) rfl rfl rfl (l_with _ _ _ false _) ?_
      refine er_loc (L' := [(2, _), (4, _), (0, _), (1, _), (3, _)]) rfl rfl rfl ?_
      refine er_loc (L' := [(3, .int (_ + nI 1)), (2, _), (4, _), (0, _), (1, _)]) rfl rfl rfl ?_
      refine er_goto rfl ?_
      refine ER_loc [(0, _), (1, _), (2, _), (3, _)] rfl (List.forall_mem_cons.mpr ⟨rfl, List.forall_mem_cons.mpr ⟨rfl, List.forall_mem_cons.mpr ⟨rfl, List.forall_mem_cons.mpr ⟨rfl, fun _ h => absurd h List.not_mem_nil⟩⟩⟩⟩) rfl rfl ?_
      refine l_rest_loop d hb X Z hI hk m (i + 1) _ _ (by omega) (by omega) (nI_add i 1) ?_
      have e : (!decide ((jx X b 4 i &&& sWith (sRest (jx X b) k i) (nI k) true) = 0) && sDone (jx X b) i) = false := by
        simp only [sDone, jx4 hi8, jx06]
        simp [*]
      show sWith _ _ _ = (if _ then _ else _)
      rw [if_pos hki, e]
    · refine er_k (pc' := 31) (nI 1) rfl rfl rfl ?_
      refine er_goto rfl ?_
      refine er_loc (pc' := 37) (L' := [(4, _), (0, _), (1, _), (2, _), (3, _)]) rfl rfl rfl ?_
      refine er_loc (pc' := 38) rfl rfl rfl ?_
      refine er_loc (pc' := 39) rfl rfl rfl ?_
      refine er_loc (pc' := 41) rfl rfl rfl ?_
      refine er_if_eqF (pc' := 44) rfl (by decide +kernel) rfl ?_
      refine er_loc (pc' := 45) rfl rfl rfl ?_
      refine er_loc (pc' := 46) rfl rfl rfl ?_
      refine er_cIi (pc' := 49) (rest := [_, _]) 7 rfl rfl rfl (blt_J hb 0 rfl) (cO_J0 hb _ _) rfl (l_isDone _ hb _ _ _) ?_
      refine er_if_eqb (pc' := 52) rfl rfl (fun h49 => ?_) (fun h49 => ?_)
      · refine er_k (pc' := 57) (nI 0) rfl rfl rfl ?_
        refine er_cSi (rest := []) rfl rfl rfl (l_with _ _ _ false _) ?_
        refine er_loc (L' := [(2, _), (4, _), (0, _), (1, _), (3, _)]) rfl rfl rfl ?_
        refine er_loc (L' := [(3, .int (_ + nI 1)), (2, _), (4, _), (0, _), (1, _)]) rfl rfl rfl ?_
        refine er_goto rfl ?_
        refine ER_loc [(0, _), (1, _), (2, _), (3, _)] rfl (List.forall_mem_cons.mpr ⟨rfl, List.forall_mem_cons.mpr ⟨rfl, List.forall_mem_cons.mpr ⟨rfl, List.forall_mem_cons.mpr ⟨rfl, fun _ h => absurd h List.not_mem_nil⟩⟩⟩⟩) rfl rfl ?_
        refine l_rest_loop d hb X Z hI hk m (i + 1) _ _ (by omega) (by omega) (nI_add i 1) ?_
        have e : (!decide ((jx X b 4 i &&& sWith (sRest (jx X b) k i) (nI k) true) = 0) && sDone (jx X b) i) = false := by
          simp only [sDone, jx4 hi8, jx06]
          simp [*]
        show sWith _ _ _ = (if _ then _ else _)
        rw [if_pos hki, e]
      · refine er_k (pc' := 53) (nI 1) rfl rfl rfl ?_
        refine er_goto rfl ?_
        refine er_cSi (rest := []) rfl rfl rfl (l_with _ _ _ true _) ?_
        refine er_loc (L' := [(2, _), (4, _), (0, _), (1, _), (3, _)]) rfl rfl rfl ?_
        refine er_loc (L' := [(3, .int (_ + nI 1)), (2, _), (4, _), (0, _), (1, _)]) rfl rfl rfl ?_
        refine er_goto rfl ?_
        refine ER_loc [(0, _), (1, _), (2, _), (3, _)] rfl (List.forall_mem_cons.mpr ⟨rfl, List.forall_mem_cons.mpr ⟨rfl, List.forall_mem_cons.mpr ⟨rfl, List.forall_mem_cons.mpr ⟨rfl, fun _ h => absurd h List.not_mem_nil⟩⟩⟩⟩) rfl rfl ?_
        refine l_rest_loop d hb X Z hI hk m (i + 1) _ _ (by omega) (by omega) (nI_add i 1) ?_
        have e : (!decide ((jx X b 4 i &&& sWith (sRest (jx X b) k i) (nI k) true) = 0) && sDone (jx X b) i) = true := by
          simp only [sDone, jx4 hi8, jx06]
          simp [*]
        show sWith _ _ _ = (if _ then _ else _)
        rw [if_pos hki, e]
set_option maxRecDepth 100000 in
set_option maxHeartbeats 4000000 in
theorem l_restingOn (d : Nat) {b : Nat} (hb : jb b) (X Z : Nat → Nat → Int32) {T : Nat} (hI : IJ T (jx X b)) {k : Nat} (hk : k < jn (jx X b)) : EC (d + 3) 52 [.ref b, .int (nI k)] (Wd X Z) (PI (sRest (jx X b) k (jn (jx X b))) (Wd X Z)) := by
  refine er_enter (L := [(0, _), (1, _)]) rfl rfl rfl ?_
  refine er_k (pc' := 1) (nI 0) rfl rfl rfl ?_
  refine er_loc (pc' := 2) (L' := [(2, _), (0, _), (1, _)]) rfl rfl rfl ?_
  refine er_loc (pc' := 3) rfl rfl rfl ?_
  refine er_k (pc' := 4) (nI 1) rfl rfl rfl ?_
  refine er_iadd (pc' := 5) rfl rfl ?_
  refine er_loc (pc' := 6) (L' := [(3, _), (2, _), (0, _), (1, _)]) rfl rfl rfl ?_
  refine ER_loc [(0, _), (1, _), (2, _), (3, _)] rfl (List.forall_mem_cons.mpr ⟨rfl, List.forall_mem_cons.mpr ⟨rfl, List.forall_mem_cons.mpr ⟨rfl, List.forall_mem_cons.mpr ⟨rfl, fun _ h => absurd h List.not_mem_nil⟩⟩⟩⟩) rfl rfl ?_
  exact l_rest_loop d hb X Z hI hk (jn (jx X b) - (k + 1)) (k + 1) _ _ (by omega) (by omega) (nI_add k 1) (sRest_low (Nat.le_refl _)).symm
set_option maxRecDepth 100000 in
set_option maxHeartbeats 4000000 in
theorem l_sum_loop (d : Nat) {b : Nat} (hb : jb b) (X Z : Nat → Nat → Int32) {T : Nat} (hI : IJ T (jx X b)) (s : Int32) : ∀ (m i : Nat) (x v : Int32), i + m = jn (jx X b) → x = nI i → v = sSum (jx X b) s i → ER (d + 1) tb_m53 4 [(0, .ref b), (1, .int s), (2, .int v), (3, .int x)] [] (Wd X Z) (PI (sSum (jx X b) s (jn (jx X b))) (Wd X Z))
  | 0, i, x, v, hi, hx, hv => by
    have h8 := jn8 hI
    have hi : i = jn (jx X b) := by omega
    subst hx
    subst hv
    subst hi
    refine er_loc (pc' := 5) rfl rfl rfl ?_
    refine er_loc (pc' := 6) rfl rfl rfl ?_
    refine er_gf (pc' := 9) (_) rfl (blt_J hb 0 rfl) (cO_J0 hb _ _) rfl rfl ?_
    rw [show X b 1 = nI (jn (jx X b)) from hI.n.1]
    refine er_cm_geT rfl (nI_nlt (by omega) (by omega)) ?_
    refine er_loc (pc' := 40) rfl rfl rfl ?_
    refine er_iret rfl rfl ?_
    exact PI_of rfl
  | m + 1, i, x, v, hi, hx, hv => by
    have h8 := jn8 hI
    have hi8 : i < 8 := by omega
    subst hx
    subst hv
    refine er_loc (pc' := 5) rfl rfl rfl ?_
    refine er_loc (pc' := 6) rfl rfl rfl ?_
    refine er_gf (pc' := 9) (_) rfl (blt_J hb 0 rfl) (cO_J0 hb _ _) rfl rfl ?_
    rw [show X b 1 = nI (jn (jx X b)) from hI.n.1]
    refine er_cm_geF (pc' := 12) rfl (nI_lt (by omega) (by omega)) rfl ?_
    refine er_loc (pc' := 13) rfl rfl rfl ?_
    refine er_loc (pc' := 14) rfl rfl rfl ?_
    refine er_loc (pc' := 15) rfl rfl rfl ?_
    refine er_cSi (pc' := 18) (rest := [_]) rfl rfl rfl (l_isIn _ _ _ _) ?_
    refine er_if_eqb (pc' := 21) rfl rfl (fun h18 => ?_) (fun h18 => ?_)
    · refine er_k (pc' := 31) (nI 0) rfl rfl rfl ?_
      refine er_iadd rfl rfl ?_
      refine er_loc (L' := [(2, _), (0, _), (1, _), (3, _)]) rfl rfl rfl ?_
      refine er_loc (L' := [(3, .int (_ + nI 1)), (2, _), (0, _), (1, _)]) rfl rfl rfl ?_
      refine er_goto rfl ?_
      refine ER_loc [(0, _), (1, _), (2, _), (3, _)] rfl (List.forall_mem_cons.mpr ⟨rfl, List.forall_mem_cons.mpr ⟨rfl, List.forall_mem_cons.mpr ⟨rfl, List.forall_mem_cons.mpr ⟨rfl, fun _ h => absurd h List.not_mem_nil⟩⟩⟩⟩) rfl rfl ?_
      refine l_sum_loop d hb X Z hI s m (i + 1) _ _ (by omega) (nI_add i 1) ?_
      show _ = sSum _ _ _ + (if _ then _ else _)
      rw [if_neg (by rw [h18]; decide)]
    · refine er_loc (pc' := 22) rfl rfl rfl ?_
      refine er_gf (pc' := 25) (_) rfl (blt_J hb 0 rfl) (cO_J0 hb _ _) rfl rfl ?_
      refine er_loc (pc' := 26) rfl rfl rfl ?_
      refine er_ia (pc' := 27) (i) rfl (blt_J hb 3 rfl) (cO_J3 hb _ _) rfl (by omega) rfl rfl ?_
      refine er_goto rfl ?_
      refine er_iadd rfl rfl ?_
      refine er_loc (L' := [(2, _), (0, _), (1, _), (3, _)]) rfl rfl rfl ?_
      refine er_loc (L' := [(3, .int (_ + nI 1)), (2, _), (0, _), (1, _)]) rfl rfl rfl ?_
      refine er_goto rfl ?_
      refine ER_loc [(0, _), (1, _), (2, _), (3, _)] rfl (List.forall_mem_cons.mpr ⟨rfl, List.forall_mem_cons.mpr ⟨rfl, List.forall_mem_cons.mpr ⟨rfl, List.forall_mem_cons.mpr ⟨rfl, fun _ h => absurd h List.not_mem_nil⟩⟩⟩⟩) rfl rfl ?_
      refine l_sum_loop d hb X Z hI s m (i + 1) _ _ (by omega) (nI_add i 1) ?_
      show _ = sSum _ _ _ + (if _ then _ else _)
      rw [if_pos h18, jx3 hi8]
set_option maxRecDepth 100000 in
set_option maxHeartbeats 4000000 in
theorem l_screwsOf (d : Nat) {b : Nat} (hb : jb b) (X Z : Nat → Nat → Int32) {T : Nat} (hI : IJ T (jx X b)) (s : Int32) : EC (d + 2) 53 [.ref b, .int s] (Wd X Z) (PI (sSum (jx X b) s (jn (jx X b))) (Wd X Z)) := by
  refine er_enter (L := [(0, _), (1, _)]) rfl rfl rfl ?_
  refine er_k (pc' := 1) (nI 0) rfl rfl rfl ?_
  refine er_loc (pc' := 2) (L' := [(2, _), (0, _), (1, _)]) rfl rfl rfl ?_
  refine er_k (pc' := 3) (nI 0) rfl rfl rfl ?_
  refine er_loc (pc' := 4) (L' := [(3, _), (2, _), (0, _), (1, _)]) rfl rfl rfl ?_
  refine ER_loc [(0, _), (1, _), (2, _), (3, _)] rfl (List.forall_mem_cons.mpr ⟨rfl, List.forall_mem_cons.mpr ⟨rfl, List.forall_mem_cons.mpr ⟨rfl, List.forall_mem_cons.mpr ⟨rfl, fun _ h => absurd h List.not_mem_nil⟩⟩⟩⟩) rfl rfl ?_
  exact l_sum_loop d hb X Z hI s (jn (jx X b)) 0 _ _ (by omega) rfl rfl
def pop1 (x : Int32) : Int32 := x - ((x.toUInt32 >>> ((nI 1 : Int32).toUInt32 &&& Int32.toUInt32 31)).toInt32 &&& 1431655765)
def pop2 (x : Int32) : Int32 := (x &&& 858993459) + ((x.toUInt32 >>> ((nI 2 : Int32).toUInt32 &&& Int32.toUInt32 31)).toInt32 &&& 858993459)
def pop3 (x : Int32) : Int32 := x + (x.toUInt32 >>> ((nI 4 : Int32).toUInt32 &&& Int32.toUInt32 31)).toInt32 &&& 252645135
def pop4 (x : Int32) : Int32 := x + (x.toUInt32 >>> ((nI 8 : Int32).toUInt32 &&& Int32.toUInt32 31)).toInt32
def pop5 (x : Int32) : Int32 := x + (x.toUInt32 >>> ((nI 16 : Int32).toUInt32 &&& Int32.toUInt32 31)).toInt32
def sPop (x : Int32) : Int32 := pop5 (pop4 (pop3 (pop2 (pop1 x)))) &&& nI 63
def sOpen (J : Nat → Nat → Int32) : Int32 := J 0 1 - sPop (J 0 6)
set_option maxRecDepth 100000 in
set_option maxHeartbeats 4000000 in
theorem l_bitCount (d : Nat) (x : Int32) (w : ab_W) : EC (d + 1) 226 [.int x] w (PI (sPop x) w) := by
  refine er_enter (L := [(0, _)]) rfl rfl rfl ?_
  refine er_loc (pc' := 1) rfl rfl rfl ?_
  refine er_loc (pc' := 2) rfl rfl rfl ?_
  refine er_k (pc' := 3) (nI 1) rfl rfl rfl ?_
  refine er_iushr (pc' := 4) rfl rfl ?_
  refine er_ldc (pc' := 7) (1431655765) rfl rfl rfl rfl rfl ?_
  refine er_iand (pc' := 8) rfl rfl ?_
  refine er_isub (pc' := 9) rfl rfl ?_
  refine er_loc (pc' := 10) (L' := [(0, _)]) rfl rfl rfl ?_
  refine er_loc (pc' := 11) rfl rfl rfl ?_
  refine er_ldc (pc' := 14) (858993459) rfl rfl rfl rfl rfl ?_
  refine er_iand (pc' := 15) rfl rfl ?_
  refine er_loc (pc' := 16) rfl rfl rfl ?_
  refine er_k (pc' := 17) (nI 2) rfl rfl rfl ?_
  refine er_iushr (pc' := 18) rfl rfl ?_
  refine er_ldc (pc' := 21) (858993459) rfl rfl rfl rfl rfl ?_
  refine er_iand (pc' := 22) rfl rfl ?_
  refine er_iadd (pc' := 23) rfl rfl ?_
  refine er_loc (pc' := 24) (L' := [(0, _)]) rfl rfl rfl ?_
  refine er_loc (pc' := 25) rfl rfl rfl ?_
  refine er_loc (pc' := 26) rfl rfl rfl ?_
  refine er_k (pc' := 27) (nI 4) rfl rfl rfl ?_
  refine er_iushr (pc' := 28) rfl rfl ?_
  refine er_iadd (pc' := 29) rfl rfl ?_
  refine er_ldc (pc' := 32) (252645135) rfl rfl rfl rfl rfl ?_
  refine er_iand (pc' := 33) rfl rfl ?_
  refine er_loc (pc' := 34) (L' := [(0, _)]) rfl rfl rfl ?_
  refine er_loc (pc' := 35) rfl rfl rfl ?_
  refine er_loc (pc' := 36) rfl rfl rfl ?_
  refine er_k (pc' := 38) (nI 8) rfl rfl rfl ?_
  refine er_iushr (pc' := 39) rfl rfl ?_
  refine er_iadd (pc' := 40) rfl rfl ?_
  refine er_loc (pc' := 41) (L' := [(0, _)]) rfl rfl rfl ?_
  refine er_loc (pc' := 42) rfl rfl rfl ?_
  refine er_loc (pc' := 43) rfl rfl rfl ?_
  refine er_k (pc' := 45) (nI 16) rfl rfl rfl ?_
  refine er_iushr (pc' := 46) rfl rfl ?_
  refine er_iadd (pc' := 47) rfl rfl ?_
  refine er_loc (pc' := 48) (L' := [(0, _)]) rfl rfl rfl ?_
  refine er_loc (pc' := 49) rfl rfl rfl ?_
  refine er_k (pc' := 51) (nI 63) rfl rfl rfl ?_
  refine er_iand (pc' := 52) rfl rfl ?_
  refine er_iret rfl rfl ?_
  exact PI_of rfl
set_option maxRecDepth 100000 in
set_option maxHeartbeats 4000000 in
theorem l_howManyOpen (d : Nat) {b : Nat} (hb : jb b) (X Z : Nat → Nat → Int32) : EC (d + 2) 50 [.ref b] (Wd X Z) (PI (sOpen (jx X b)) (Wd X Z)) := by
  refine er_enter (L := [(0, _)]) rfl rfl rfl ?_
  refine er_loc (pc' := 1) rfl rfl rfl ?_
  refine er_gf (pc' := 4) (_) rfl (blt_J hb 0 rfl) (cO_J0 hb _ _) rfl rfl ?_
  refine er_loc (pc' := 5) rfl rfl rfl ?_
  refine er_gf (pc' := 8) (_) rfl (blt_J hb 0 rfl) (cO_J0 hb _ _) rfl rfl ?_
  refine er_cSi (pc' := 11) (rest := [_]) rfl rfl rfl (l_bitCount _ _ _) ?_
  refine er_isub (pc' := 12) rfl rfl ?_
  refine er_iret rfl rfl ?_
  exact PI_of rfl
