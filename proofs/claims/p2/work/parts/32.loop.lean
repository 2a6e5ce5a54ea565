/-! THE FACE: loops over the STEPS -/
def sSetOf (p : Nat → Bool) : Nat → Int32
  | 0 => nI 0
  | i + 1 => sWith (sSetOf p i) (nI i) (p i)
def sLeft (J : Nat → Nat → Int32) : Nat → Int32
  | 0 => J 0 9
  | i + 1 => sLeft J i - (if sDone J i = true then nI 0 else J 3 i)
def sAny (p : Nat → Bool) (a : Nat) : Nat → Bool
  | 0 => false
  | i + 1 => sAny p a i || (decide (a ≤ i) && p i)
theorem sAny_low {p : Nat → Bool} {a : Nat} : ∀ {i : Nat}, i ≤ a → sAny p a i = false
  | 0, _ => rfl
  | i + 1, h => by
    unfold sAny
    rw [sAny_low (by omega), decide_eq_false (by omega)]
    rfl
def sPn (J : Nat → Nat → Int32) (w : Int32) (i : Nat) : Bool := if w = 0 then sMayDo J i else sMayUn J i
set_option maxRecDepth 100000 in
set_option maxHeartbeats 4000000 in
theorem l_next_loop (d : Nat) {X Z : Nat → Nat → Int32} {T : Nat} (hI : IJ T (jx X 9)) (w : Int32) : ∀ (m i : Nat) (x : Int32) (v : Int32), i + m = jn (jx X 9) → x = nI i → v = sSetOf (sPn (jx X 9) w) i → ER (d + 3) tb_m94 19 [(0, .ref 0), (1, .int w), (2, .int v), (3, .int x)] [] (Wd X Z) (PI (sSetOf (sPn (jx X 9) w) (jn (jx X 9))) (Wd X Z))
  | 0, i, x, v, hi, h0, h1 => by
    have h8 := jn8 hI
    have hi0 : i = jn (jx X 9) := by omega
    subst h0
    subst h1
    subst hi0
    refine er_loc (pc' := 20) rfl rfl rfl ?_
    refine er_loc (pc' := 21) rfl rfl rfl ?_
    refine er_gf (pc' := 24) (_) rfl rfl rfl rfl rfl ?_
    refine er_gf (pc' := 27) (.int (X 9 1)) rfl rfl rfl rfl rfl ?_
    rw [show X 9 1 = nI (jn (jx X 9)) from hI.n.1]
    refine er_cm_geT rfl (nI_nlt (by omega) (by omega)) ?_
    refine er_loc (pc' := 70) rfl rfl rfl ?_
    refine er_iret rfl rfl ?_
    exact PI_of rfl
  | m + 1, i, x, v, hi, h0, h1 => by
    have h8 := jn8 hI
    have hi8 : i < 8 := by omega
    subst h0
    subst h1
    refine er_loc (pc' := 20) rfl rfl rfl ?_
    refine er_loc (pc' := 21) rfl rfl rfl ?_
    refine er_gf (pc' := 24) (_) rfl rfl rfl rfl rfl ?_
    refine er_gf (pc' := 27) (.int (X 9 1)) rfl rfl rfl rfl rfl ?_
    rw [show X 9 1 = nI (jn (jx X 9)) from hI.n.1]
    refine er_cm_geF (pc' := 30) rfl (nI_lt (by omega) (by omega)) rfl ?_
    refine er_loc (pc' := 31) rfl rfl rfl ?_
    refine er_if_ne (pc' := 34) rfl rfl (fun h31 => ?_) (fun h31 => ?_)
    · refine er_loc (pc' := 46) rfl rfl rfl ?_
      refine er_gf (pc' := 49) (_) rfl rfl rfl rfl rfl ?_
      refine er_loc (pc' := 50) rfl rfl rfl ?_
      refine er_cIi (pc' := 53) (rest := []) 7 rfl rfl rfl rfl rfl rfl (l_mayBeUndone _ j9 _ _ hI (k := i) (by omega)) ?_
      refine er_loc (pc' := 55) (L' := [(4, _), (0, _), (1, _), (2, _), (3, _)]) rfl rfl rfl ?_
      refine er_loc (pc' := 56) rfl rfl rfl ?_
      refine er_loc (pc' := 57) rfl rfl rfl ?_
      refine er_loc (pc' := 59) rfl rfl rfl ?_
      refine er_cSi (pc' := 62) (rest := []) rfl rfl rfl (l_with _ _ _ _ _) ?_
      refine er_loc (pc' := 63) (L' := [(2, _), (4, _), (0, _), (1, _), (3, _)]) rfl rfl rfl ?_
      refine er_loc (L' := [(3, .int (_ + nI 1)), (2, _), (4, _), (0, _), (1, _)]) rfl rfl rfl ?_
      refine er_goto rfl ?_
      refine ER_loc [(0, _), (1, _), (2, _), (3, _)] rfl (List.forall_mem_cons.mpr ⟨rfl, List.forall_mem_cons.mpr ⟨rfl, List.forall_mem_cons.mpr ⟨rfl, List.forall_mem_cons.mpr ⟨rfl, fun _ h => absurd h List.not_mem_nil⟩⟩⟩⟩) rfl rfl ?_
      refine l_next_loop d hI w m (i + 1) _ _ (by omega) (nI_add i 1) ?_
      show _ = sWith _ _ (if _ then _ else _)
      first | rw [if_pos h31] | rw [if_neg h31]
    · refine er_loc (pc' := 35) rfl rfl rfl ?_
      refine er_gf (pc' := 38) (_) rfl rfl rfl rfl rfl ?_
      refine er_loc (pc' := 39) rfl rfl rfl ?_
      refine er_cIi (pc' := 42) (rest := []) 7 rfl rfl rfl rfl rfl rfl (l_mayBeDone _ j9 _ _ hI (k := i) (by omega)) ?_
      refine er_goto rfl ?_
      refine er_loc (pc' := 55) (L' := [(4, _), (0, _), (1, _), (2, _), (3, _)]) rfl rfl rfl ?_
      refine er_loc (pc' := 56) rfl rfl rfl ?_
      refine er_loc (pc' := 57) rfl rfl rfl ?_
      refine er_loc (pc' := 59) rfl rfl rfl ?_
      refine er_cSi (pc' := 62) (rest := []) rfl rfl rfl (l_with _ _ _ _ _) ?_
      refine er_loc (pc' := 63) (L' := [(2, _), (4, _), (0, _), (1, _), (3, _)]) rfl rfl rfl ?_
      refine er_loc (L' := [(3, .int (_ + nI 1)), (2, _), (4, _), (0, _), (1, _)]) rfl rfl rfl ?_
      refine er_goto rfl ?_
      refine ER_loc [(0, _), (1, _), (2, _), (3, _)] rfl (List.forall_mem_cons.mpr ⟨rfl, List.forall_mem_cons.mpr ⟨rfl, List.forall_mem_cons.mpr ⟨rfl, List.forall_mem_cons.mpr ⟨rfl, fun _ h => absurd h List.not_mem_nil⟩⟩⟩⟩) rfl rfl ?_
      refine l_next_loop d hI w m (i + 1) _ _ (by omega) (nI_add i 1) ?_
      show _ = sWith _ _ (if _ then _ else _)
      first | rw [if_pos h31] | rw [if_neg h31]
set_option maxRecDepth 100000 in
set_option maxHeartbeats 4000000 in
theorem l_next (d : Nat) (X Z : Nat → Nat → Int32) {T : Nat} (hI : IJ T (jx X 9)) (w : Int32) : EC (d + 4) 94 [.ref 0, .int w] (Wd X Z) (fun r => if sIn w (nI 0) (nI 1) = true then RI (sSetOf (sPn (jx X 9) w) (jn (jx X 9))) X r else RI (sErr 1) (xErr X 1) r) := by
  refine er_enter (L := [(0, _), (1, _)]) rfl rfl rfl ?_
  refine er_loc (pc' := 1) rfl rfl rfl ?_
  refine er_k (pc' := 2) (nI 0) rfl rfl rfl ?_
  refine er_k (pc' := 3) (nI 1) rfl rfl rfl ?_
  refine er_cSi (pc' := 6) (rest := []) rfl rfl rfl (l_within _ _ _ _ _) ?_
  refine er_if_neb (pc' := 9) rfl rfl (fun h6 => ?_) (fun h6 => ?_)
  · refine er_k (pc' := 16) (nI 0) rfl rfl rfl ?_
    refine er_loc (pc' := 17) (L' := [(2, _), (0, _), (1, _)]) rfl rfl rfl ?_
    refine er_k (pc' := 18) (nI 0) rfl rfl rfl ?_
    refine er_loc (pc' := 19) (L' := [(3, _), (2, _), (0, _), (1, _)]) rfl rfl rfl ?_
    refine ER_loc [(0, _), (1, _), (2, _), (3, _)] rfl (List.forall_mem_cons.mpr ⟨rfl, List.forall_mem_cons.mpr ⟨rfl, List.forall_mem_cons.mpr ⟨rfl, List.forall_mem_cons.mpr ⟨rfl, fun _ h => absurd h List.not_mem_nil⟩⟩⟩⟩) rfl rfl ?_
    refine ER.mono (l_next_loop (d := d) hI w (jn (jx X 9)) 0 _ _ (by omega) rfl rfl) ?_
    rintro r rfl
    rw [if_pos h6]
    exact ⟨Z, rfl⟩
  · refine er_loc (pc' := 10) rfl rfl rfl ?_
    refine er_k (pc' := 11) (nI 1) rfl rfl rfl ?_
    refine er_cIz (pc' := 14) (rest := []) 11 rfl rfl rfl rfl rfl rfl (l_error _ _ _ 1 (by decide)) ?_
    intro Z9
    refine er_iret rfl rfl ?_
    rw [if_neg (by rw [h6]; decide)]
    exact RI_of rfl rfl
set_option maxRecDepth 100000 in
set_option maxHeartbeats 4000000 in
theorem l_left_loop (d : Nat) {X Z : Nat → Nat → Int32} {T : Nat} (hI : IJ T (jx X 9)) : ∀ (m i : Nat) (x : Int32) (v : Int32), i + m = jn (jx X 9) → x = nI i → v = sLeft (jx X 9) i → ER (d + 2) tb_m102 10 [(0, .ref 0), (1, .int v), (2, .int x)] [] (Wd X Z) (PI (sLeft (jx X 9) (jn (jx X 9))) (Wd X Z))
  | 0, i, x, v, hi, h0, h1 => by
    have h8 := jn8 hI
    have hi0 : i = jn (jx X 9) := by omega
    subst h0
    subst h1
    subst hi0
    refine er_loc (pc' := 11) rfl rfl rfl ?_
    refine er_loc (pc' := 12) rfl rfl rfl ?_
    refine er_gf (pc' := 15) (_) rfl rfl rfl rfl rfl ?_
    refine er_gf (pc' := 18) (.int (X 9 1)) rfl rfl rfl rfl rfl ?_
    rw [show X 9 1 = nI (jn (jx X 9)) from hI.n.1]
    refine er_cm_geT rfl (nI_nlt (by omega) (by omega)) ?_
    refine er_loc (pc' := 55) rfl rfl rfl ?_
    refine er_iret rfl rfl ?_
    exact PI_of rfl
  | m + 1, i, x, v, hi, h0, h1 => by
    have h8 := jn8 hI
    have hi8 : i < 8 := by omega
    subst h0
    subst h1
    refine er_loc (pc' := 11) rfl rfl rfl ?_
    refine er_loc (pc' := 12) rfl rfl rfl ?_
    refine er_gf (pc' := 15) (_) rfl rfl rfl rfl rfl ?_
    refine er_gf (pc' := 18) (.int (X 9 1)) rfl rfl rfl rfl rfl ?_
    rw [show X 9 1 = nI (jn (jx X 9)) from hI.n.1]
    refine er_cm_geF (pc' := 21) rfl (nI_lt (by omega) (by omega)) rfl ?_
    refine er_loc (pc' := 22) rfl rfl rfl ?_
    refine er_loc (pc' := 23) rfl rfl rfl ?_
    refine er_gf (pc' := 26) (_) rfl rfl rfl rfl rfl ?_
    refine er_loc (pc' := 27) rfl rfl rfl ?_
    refine er_cIi (pc' := 30) (rest := [_]) 7 rfl rfl rfl rfl rfl rfl (l_isDone _ j9 _ _ _) ?_
    refine er_if_eqb (pc' := 33) rfl rfl (fun h30 => ?_) (fun h30 => ?_)
    · refine er_loc (pc' := 38) rfl rfl rfl ?_
      refine er_gf (pc' := 41) (_) rfl rfl rfl rfl rfl ?_
      refine er_gf (pc' := 44) (_) rfl rfl rfl rfl rfl ?_
      refine er_loc (pc' := 45) rfl rfl rfl ?_
      refine er_ia (pc' := 46) (i) rfl rfl rfl rfl (by omega) rfl rfl ?_
      refine er_isub rfl rfl ?_
      refine er_loc (L' := [(1, _), (0, _), (2, _)]) rfl rfl rfl ?_
      refine er_loc (L' := [(2, .int (_ + nI 1)), (1, _), (0, _)]) rfl rfl rfl ?_
      refine er_goto rfl ?_
      refine ER_loc [(0, _), (1, _), (2, _)] rfl (List.forall_mem_cons.mpr ⟨rfl, List.forall_mem_cons.mpr ⟨rfl, List.forall_mem_cons.mpr ⟨rfl, fun _ h => absurd h List.not_mem_nil⟩⟩⟩) rfl rfl ?_
      refine l_left_loop d hI m (i + 1) _ _ (by omega) (nI_add i 1) ?_
      show _ = sLeft _ _ - (if _ then _ else _)
      first | rw [if_pos (show sDone (jx X 9) i = true from h30)] | rw [if_neg (show ¬ sDone (jx X 9) i = true from by unfold sDone; rw [show jx X 9 0 6 = X 9 6 from rfl, h30]; decide), jx3 hi8]
    · refine er_k (pc' := 34) (nI 0) rfl rfl rfl ?_
      refine er_goto rfl ?_
      refine er_isub rfl rfl ?_
      refine er_loc (L' := [(1, _), (0, _), (2, _)]) rfl rfl rfl ?_
      refine er_loc (L' := [(2, .int (_ + nI 1)), (1, _), (0, _)]) rfl rfl rfl ?_
      refine er_goto rfl ?_
      refine ER_loc [(0, _), (1, _), (2, _)] rfl (List.forall_mem_cons.mpr ⟨rfl, List.forall_mem_cons.mpr ⟨rfl, List.forall_mem_cons.mpr ⟨rfl, fun _ h => absurd h List.not_mem_nil⟩⟩⟩) rfl rfl ?_
      refine l_left_loop d hI m (i + 1) _ _ (by omega) (nI_add i 1) ?_
      show _ = sLeft _ _ - (if _ then _ else _)
      first | rw [if_pos (show sDone (jx X 9) i = true from h30)] | rw [if_neg (show ¬ sDone (jx X 9) i = true from by unfold sDone; rw [show jx X 9 0 6 = X 9 6 from rfl, h30]; decide), jx3 hi8]
set_option maxRecDepth 100000 in
set_option maxHeartbeats 4000000 in
theorem l_left (d : Nat) (X Z : Nat → Nat → Int32) {T : Nat} (hI : IJ T (jx X 9)) : EC (d + 3) 102 [.ref 0] (Wd X Z) (RI (sLeft (jx X 9) (jn (jx X 9))) X) := by
  refine er_enter (L := [(0, _)]) rfl rfl rfl ?_
  refine er_loc (pc' := 1) rfl rfl rfl ?_
  refine er_gf (pc' := 4) (_) rfl rfl rfl rfl rfl ?_
  refine er_gf (pc' := 7) (.int (X 9 9)) rfl rfl rfl rfl rfl ?_
  refine er_loc (pc' := 8) (L' := [(1, _), (0, _)]) rfl rfl rfl ?_
  refine er_k (pc' := 9) (nI 0) rfl rfl rfl ?_
  refine er_loc (pc' := 10) (L' := [(2, _), (1, _), (0, _)]) rfl rfl rfl ?_
  refine ER_loc [(0, _), (1, _), (2, _)] rfl (List.forall_mem_cons.mpr ⟨rfl, List.forall_mem_cons.mpr ⟨rfl, List.forall_mem_cons.mpr ⟨rfl, fun _ h => absurd h List.not_mem_nil⟩⟩⟩) rfl rfl ?_
  refine ER.mono (l_left_loop (d := d) hI (jn (jx X 9)) 0 _ _ (by omega) rfl rfl) ?_
  rintro r rfl
  exact ⟨Z, rfl⟩
def sGoSet (J : Nat → Nat → Int32) (k : Nat) : Int32 := sWith (sRest J k (jn J)) (nI k) true
def sBp (J : Nat → Nat → Int32) (s : Int32) (i : Nat) : Bool := sBit s (nI i) && sNever (sKind J i)
def sBlocked (J : Nat → Nat → Int32) (k : Nat) : Bool := sAny (sBp J (sGoSet J k)) k (jn J)
set_option maxRecDepth 100000 in
set_option maxHeartbeats 4000000 in
theorem l_blk_loop (d : Nat) {X Z : Nat → Nat → Int32} {T : Nat} (hI : IJ T (jx X 9)) (s : Int32) (k : Nat) : ∀ (m i : Nat) (x : Int32) (v : Int32), i + m = jn (jx X 9) → x = nI i → v = bI (sAny (sBp (jx X 9) s) k i) → k ≤ i → ER (d + 3) tb_m101 19 [(0, .ref 0), (2, .int s), (3, .int v), (4, .int x)] [] (Wd X Z) (PI (bI (sAny (sBp (jx X 9) s) k (jn (jx X 9)))) (Wd X Z))
  | 0, i, x, v, hi, h0, h1, h2 => by
    have h8 := jn8 hI
    have hi0 : i = jn (jx X 9) := by omega
    subst h0
    subst h1
    subst hi0
    refine er_loc (pc' := 21) rfl rfl rfl ?_
    refine er_loc (pc' := 22) rfl rfl rfl ?_
    refine er_gf (pc' := 25) (_) rfl rfl rfl rfl rfl ?_
    refine er_gf (pc' := 28) (.int (X 9 1)) rfl rfl rfl rfl rfl ?_
    rw [show X 9 1 = nI (jn (jx X 9)) from hI.n.1]
    refine er_cm_geT rfl (nI_nlt (by omega) (by omega)) ?_
    refine er_loc (pc' := 72) rfl rfl rfl ?_
    refine er_zret rfl rfl ?_
    exact PI_of rfl
  | m + 1, i, x, v, hi, h0, h1, h2 => by
    have h8 := jn8 hI
    have hi8 : i < 8 := by omega
    subst h0
    subst h1
    have hq := kind7 hI i
    refine er_loc (pc' := 21) rfl rfl rfl ?_
    refine er_loc (pc' := 22) rfl rfl rfl ?_
    refine er_gf (pc' := 25) (_) rfl rfl rfl rfl rfl ?_
    refine er_gf (pc' := 28) (.int (X 9 1)) rfl rfl rfl rfl rfl ?_
    rw [show X 9 1 = nI (jn (jx X 9)) from hI.n.1]
    refine er_cm_geF (pc' := 31) rfl (nI_lt (by omega) (by omega)) rfl ?_
    refine er_loc (pc' := 32) rfl rfl rfl ?_
    refine er_if_neb (pc' := 35) rfl rfl (fun h32 => ?_) (fun h32 => ?_)
    · refine er_k (pc' := 60) (nI 1) rfl rfl rfl ?_
      refine er_goto rfl ?_
      refine er_loc (L' := [(3, _), (0, _), (2, _), (4, _)]) rfl rfl rfl ?_
      refine er_loc (L' := [(4, .int (_ + nI 1)), (3, _), (0, _), (2, _)]) rfl rfl rfl ?_
      refine er_goto rfl ?_
      refine ER_loc [(0, _), (2, _), (3, _), (4, _)] rfl (List.forall_mem_cons.mpr ⟨rfl, List.forall_mem_cons.mpr ⟨rfl, List.forall_mem_cons.mpr ⟨rfl, List.forall_mem_cons.mpr ⟨rfl, fun _ h => absurd h List.not_mem_nil⟩⟩⟩⟩) rfl rfl ?_
      refine l_blk_loop d hI s k m (i + 1) _ _ (by omega) (nI_add i 1) (bI_eq1 ?_) (by omega)
      simp only [sAny, sBp, decide_eq_true h2, Bool.true_and]
      simp [*]
    · refine er_loc (pc' := 36) rfl rfl rfl ?_
      refine er_loc (pc' := 38) rfl rfl rfl ?_
      refine er_cSi (pc' := 41) (rest := []) rfl rfl rfl (l_isIn _ _ _ _) ?_
      refine er_if_eqb (pc' := 44) rfl rfl (fun h41 => ?_) (fun h41 => ?_)
      · refine er_k (pc' := 64) (nI 0) rfl rfl rfl ?_
        refine er_loc (L' := [(3, _), (0, _), (2, _), (4, _)]) rfl rfl rfl ?_
        refine er_loc (L' := [(4, .int (_ + nI 1)), (3, _), (0, _), (2, _)]) rfl rfl rfl ?_
        refine er_goto rfl ?_
        refine ER_loc [(0, _), (2, _), (3, _), (4, _)] rfl (List.forall_mem_cons.mpr ⟨rfl, List.forall_mem_cons.mpr ⟨rfl, List.forall_mem_cons.mpr ⟨rfl, List.forall_mem_cons.mpr ⟨rfl, fun _ h => absurd h List.not_mem_nil⟩⟩⟩⟩) rfl rfl ?_
        refine l_blk_loop d hI s k m (i + 1) _ _ (by omega) (nI_add i 1) (bI_eq0 ?_) (by omega)
        simp only [sAny, sBp, decide_eq_true h2, Bool.true_and]
        simp [*]
      · refine er_loc (pc' := 45) rfl rfl rfl ?_
        refine er_gf (pc' := 48) (_) rfl rfl rfl rfl rfl ?_
        refine er_loc (pc' := 50) rfl rfl rfl ?_
        refine er_cIr (pc' := 53) (rest := []) 7 rfl rfl rfl rfl rfl rfl (l_kindOf _ j9 _ _ hI (k := i) (by omega)) ?_
        refine er_cIi (pc' := 56) (rest := []) (sKind (jx X 9) i) rfl rfl (by rcases lt7 hq with e | e | e | e | e | e | e <;> rw [e] <;> rfl) (blt_S hq) (cO_S hq _ _) rfl (l_neverOf _ _ _ hq) ?_
        refine er_if_eqb (pc' := 59) rfl rfl (fun h56 => ?_) (fun h56 => ?_)
        · refine er_k (pc' := 64) (nI 0) rfl rfl rfl ?_
          refine er_loc (L' := [(3, _), (0, _), (2, _), (4, _)]) rfl rfl rfl ?_
          refine er_loc (L' := [(4, .int (_ + nI 1)), (3, _), (0, _), (2, _)]) rfl rfl rfl ?_
          refine er_goto rfl ?_
          refine ER_loc [(0, _), (2, _), (3, _), (4, _)] rfl (List.forall_mem_cons.mpr ⟨rfl, List.forall_mem_cons.mpr ⟨rfl, List.forall_mem_cons.mpr ⟨rfl, List.forall_mem_cons.mpr ⟨rfl, fun _ h => absurd h List.not_mem_nil⟩⟩⟩⟩) rfl rfl ?_
          refine l_blk_loop d hI s k m (i + 1) _ _ (by omega) (nI_add i 1) (bI_eq0 ?_) (by omega)
          simp only [sAny, sBp, decide_eq_true h2, Bool.true_and]
          simp [*]
        · refine er_k (pc' := 60) (nI 1) rfl rfl rfl ?_
          refine er_goto rfl ?_
          refine er_loc (L' := [(3, _), (0, _), (2, _), (4, _)]) rfl rfl rfl ?_
          refine er_loc (L' := [(4, .int (_ + nI 1)), (3, _), (0, _), (2, _)]) rfl rfl rfl ?_
          refine er_goto rfl ?_
          refine ER_loc [(0, _), (2, _), (3, _), (4, _)] rfl (List.forall_mem_cons.mpr ⟨rfl, List.forall_mem_cons.mpr ⟨rfl, List.forall_mem_cons.mpr ⟨rfl, List.forall_mem_cons.mpr ⟨rfl, fun _ h => absurd h List.not_mem_nil⟩⟩⟩⟩) rfl rfl ?_
          refine l_blk_loop d hI s k m (i + 1) _ _ (by omega) (nI_add i 1) (bI_eq1 ?_) (by omega)
          simp only [sAny, sBp, decide_eq_true h2, Bool.true_and]
          simp [*]
set_option maxRecDepth 100000 in
set_option maxHeartbeats 4000000 in
theorem l_isBlocked (d : Nat) (X Z : Nat → Nat → Int32) {T : Nat} (hI : IJ T (jx X 9)) {k : Nat} (hk : k < jn (jx X 9)) : EC (d + 4) 101 [.ref 0, .int (nI k)] (Wd X Z) (PI (bI (sBlocked (jx X 9) k)) (Wd X Z)) := by
  refine er_enter (L := [(0, _), (1, _)]) rfl rfl rfl ?_
  refine er_loc (pc' := 1) rfl rfl rfl ?_
  refine er_gf (pc' := 4) (_) rfl rfl rfl rfl rfl ?_
  refine er_loc (pc' := 5) rfl rfl rfl ?_
  refine er_cIi (pc' := 8) (rest := []) 7 rfl rfl rfl rfl rfl rfl (l_restingOn _ j9 _ _ hI hk) ?_
  refine er_loc (pc' := 9) rfl rfl rfl ?_
  refine er_k (pc' := 10) (nI 1) rfl rfl rfl ?_
  refine er_cSi (pc' := 13) (rest := []) rfl rfl rfl (l_with _ _ _ true _) ?_
  refine er_loc (pc' := 14) (L' := [(2, _), (0, _), (1, _)]) rfl rfl rfl ?_
  refine er_k (pc' := 15) (nI 0) rfl rfl rfl ?_
  refine er_loc (pc' := 16) (L' := [(3, _), (2, _), (0, _), (1, _)]) rfl rfl rfl ?_
  refine er_loc (pc' := 17) rfl rfl rfl ?_
  refine er_loc (pc' := 19) (L' := [(4, _), (3, _), (2, _), (0, _), (1, _)]) rfl rfl rfl ?_
  refine ER_loc [(0, _), (2, _), (3, _), (4, _)] rfl (List.forall_mem_cons.mpr ⟨rfl, List.forall_mem_cons.mpr ⟨rfl, List.forall_mem_cons.mpr ⟨rfl, List.forall_mem_cons.mpr ⟨rfl, fun _ h => absurd h List.not_mem_nil⟩⟩⟩⟩) rfl rfl ?_
  exact l_blk_loop (d := d) hI (sGoSet (jx X 9) k) k (jn (jx X 9) - k) k _ _ (by omega) rfl (bI_eq0 (sAny_low (Nat.le_refl _))) (Nat.le_refl _)
