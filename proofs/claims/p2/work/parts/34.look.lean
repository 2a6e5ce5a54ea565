/-! THE FACE: going back, looking, odds, whose -/
set_option maxRecDepth 100000 in
set_option maxHeartbeats 4000000 in
theorem l_goBack (d : Nat) (X Z : Nat → Nat → Int32) {T : Nat} (hI : IJ T (jx X 9)) {k : Nat} (hk : k < jn (jx X 9)) (hT9 : T < 1000000) (w : Int32) : EC (d + 7) 99 [.ref 0, .int (nI k), .int w] (Wd X Z) (fun r => if sIn w (nI 0) (nI 1) = true then (if sDone (jx X 9) k = true then (if w = 0 then RO (sGoM (jx X 9) k) X r else RI (bI (sBlocked (jx X 9) k)) X r) else RI (sErr 3) (xErr X 3) r) else RI (sErr 1) (xErr X 1) r) := by
  refine er_enter (L := [(0, _), (1, _), (2, _)]) rfl rfl rfl ?_
  have h8 := jn8 hI
  have hk8 : k < 8 := by omega
  refine er_loc (pc' := 1) rfl rfl rfl ?_
  refine er_gf (pc' := 4) (_) rfl rfl rfl rfl rfl ?_
  refine er_loc (pc' := 5) rfl rfl rfl ?_
  refine er_cIi (pc' := 8) (rest := []) 7 rfl rfl rfl rfl rfl rfl (l_has_t _ j9 _ _ hI hk) ?_
  refine er_if_eqF (pc' := 11) rfl (by decide +kernel) rfl ?_
  refine er_loc (pc' := 12) rfl rfl rfl ?_
  refine er_k (pc' := 13) (nI 0) rfl rfl rfl ?_
  refine er_k (pc' := 14) (nI 1) rfl rfl rfl ?_
  refine er_cSi (pc' := 17) (rest := []) rfl rfl rfl (l_within _ _ _ _ _) ?_
  refine er_if_neb (pc' := 20) rfl rfl (fun h17 => ?_) (fun h17 => ?_)
  · refine er_loc (pc' := 27) rfl rfl rfl ?_
    refine er_gf (pc' := 30) (_) rfl rfl rfl rfl rfl ?_
    refine er_loc (pc' := 31) rfl rfl rfl ?_
    refine er_cIi (pc' := 34) (rest := []) 7 rfl rfl rfl rfl rfl rfl (l_isDone _ j9 _ _ _) ?_
    refine er_if_neb (pc' := 37) rfl rfl (fun h34 => ?_) (fun h34 => ?_)
    · refine er_loc (pc' := 44) rfl rfl rfl ?_
      refine er_if_ne (pc' := 47) rfl rfl (fun h44 => ?_) (fun h44 => ?_)
      · refine er_loc (pc' := 54) rfl rfl rfl ?_
        refine er_loc (pc' := 55) rfl rfl rfl ?_
        refine er_cIi (pc' := 58) (rest := []) 11 rfl rfl rfl rfl rfl rfl (l_isBlocked _ _ _ hI hk) ?_
        refine er_if_eqb (pc' := 61) rfl rfl (fun h58 => ?_) (fun h58 => ?_)
        · refine er_k (pc' := 66) (nI 0) rfl rfl rfl ?_
          refine er_iret rfl rfl ?_
          rw [if_pos h17, if_pos (show sDone (jx X 9) k = true from h34)]
          rw [if_neg h44]
          exact RI_of (bI_eq0 h58) rfl
        · refine er_k (pc' := 62) (nI 1) rfl rfl rfl ?_
          refine er_goto rfl ?_
          refine er_iret rfl rfl ?_
          rw [if_pos h17, if_pos (show sDone (jx X 9) k = true from h34)]
          rw [if_neg h44]
          exact RI_of (bI_eq1 h58) rfl
      · refine er_loc (pc' := 48) rfl rfl rfl ?_
        refine er_loc (pc' := 49) rfl rfl rfl ?_
        refine er_cIo (pc' := 52) (rest := []) 11 rfl rfl rfl rfl rfl rfl (l_minutesBackTo _ hI hT9 hk) ?_
        intro X2 Z2 ho2
        refine er_iret rfl rfl ?_
        rw [if_pos h17, if_pos (show sDone (jx X 9) k = true from h34)]
        rw [if_pos h44]
        exact RO_of rfl ho2
    · refine er_loc (pc' := 38) rfl rfl rfl ?_
      refine er_k (pc' := 39) (nI 3) rfl rfl rfl ?_
      refine er_cIz (pc' := 42) (rest := []) 11 rfl rfl rfl rfl rfl rfl (l_error _ _ _ 3 (by decide)) ?_
      intro Z9
      refine er_iret rfl rfl ?_
      rw [if_pos h17, if_neg (by unfold sDone; rw [show jx X 9 0 6 = X 9 6 from rfl, h34]; decide)]
      exact RI_of rfl rfl
  · refine er_loc (pc' := 21) rfl rfl rfl ?_
    refine er_k (pc' := 22) (nI 1) rfl rfl rfl ?_
    refine er_cIz (pc' := 25) (rest := []) 11 rfl rfl rfl rfl rfl rfl (l_error _ _ _ 1 (by decide)) ?_
    intro Z9
    refine er_iret rfl rfl ?_
    rw [if_neg (by rw [h17]; decide)]
    exact RI_of rfl rfl
def lkF (J : Nat → Nat → Int32) : Nat → Nat → Int32 → Int32 → Int32
  | 0, _, f, _ => f
  | m + 1, i, f, l => if (sBit (J 0 7) (nI i) && !sBlocked J i) = true then (if f < 0 ∨ sGoM J i < l then lkF J m (i + 1) (nI i) (sGoM J i) else lkF J m (i + 1) f l) else lkF J m (i + 1) f l
def RX (v : Int32) (X Y : Nat → Nat → Int32) : ab_R → Prop := fun r => ∃ X' Z', r = (some (.int v), Wd X' Z') ∧ OT Y X'
theorem sBlocked_ot {X X' : Nat → Nat → Int32} (h : OT X X') {k : Nat} : sBlocked (jx X' 9) k = sBlocked (jx X 9) k := by rw [h.j9]
def LkP (X : Nat → Nat → Int32) (f : Int32) : ab_R → Prop := fun r => if f < 0 then (∃ X' Z', r = (some (.int (sErr 2)), Wd X' Z') ∧ ∃ X1, OT X X1 ∧ X' = xErr X1 2) else RO f X r
set_option maxRecDepth 100000 in
set_option maxHeartbeats 4000000 in
theorem l_look_loop (d : Nat) {X : Nat → Nat → Int32} {T : Nat} (hI : IJ T (jx X 9)) (hT9 : T < 1000000) (P : ab_R → Prop) : ∀ (m i : Nat) (X1 Z : Nat → Nat → Int32) (f l x : Int32), i + m = jn (jx X 9) → x = nI i → OT X X1 → (∀ r, LkP X (lkF (jx X 9) m i f l) r → P r) → ER (d + 6) tb_m104 6 [(0, .ref 0), (1, .int f), (2, .int l), (3, .int x)] [] (Wd X1 Z) P
  | 0, i, X1, Z, f, l, x, hi, hx, ho, hP => by
    have h8 := jn8 hI
    have hi0 : i = jn (jx X 9) := by omega
    subst hx
    subst hi0
    refine er_loc (pc' := 7) rfl rfl rfl ?_
    refine er_loc (pc' := 8) rfl rfl rfl ?_
    refine er_gf (pc' := 11) (_) rfl rfl rfl rfl rfl ?_
    refine er_gf (pc' := 14) (.int (X1 9 1)) rfl rfl rfl rfl rfl ?_
    rw [show X1 9 1 = nI (jn (jx X 9)) from by rw [ho 9 (by omega)]; exact hI.n.1]
    refine er_cm_geT rfl (nI_nlt (by omega) (by omega)) ?_
    refine er_loc (pc' := 65) rfl rfl rfl ?_
    refine er_if_lt (pc' := 68) rfl rfl (fun h65 => ?_) (fun h65 => ?_)
    · refine er_loc (pc' := 73) rfl rfl rfl ?_
      refine er_k (pc' := 74) (nI 2) rfl rfl rfl ?_
      refine er_cIz (pc' := 77) (rest := []) 11 rfl rfl rfl rfl rfl rfl (l_error _ _ _ 2 (by decide)) ?_
      intro Z9
      refine er_iret rfl rfl ?_
      apply hP
      show LkP X f _
      unfold LkP
      rw [if_pos h65]
      exact ⟨_, _, rfl, X1, ho, rfl⟩
    · refine er_loc (pc' := 69) rfl rfl rfl ?_
      refine er_goto rfl ?_
      refine er_iret rfl rfl ?_
      apply hP
      show LkP X f _
      unfold LkP
      rw [if_neg h65]
      exact RO_of rfl ho
  | m + 1, i, X1, Z, f, l, x, hi, hx, ho, hP => by
    have h8 := jn8 hI
    have hi8 : i < 8 := by omega
    have hI1 : IJ T (jx X1 9) := by rw [ho.j9]; exact hI
    subst hx
    refine er_loc (pc' := 7) rfl rfl rfl ?_
    refine er_loc (pc' := 8) rfl rfl rfl ?_
    refine er_gf (pc' := 11) (_) rfl rfl rfl rfl rfl ?_
    refine er_gf (pc' := 14) (.int (X1 9 1)) rfl rfl rfl rfl rfl ?_
    rw [show X1 9 1 = nI (jn (jx X 9)) from by rw [ho 9 (by omega)]; exact hI.n.1]
    refine er_cm_geF (pc' := 17) rfl (nI_lt (by omega) (by omega)) rfl ?_
    refine er_loc (pc' := 18) rfl rfl rfl ?_
    refine er_gf (pc' := 21) (_) rfl rfl rfl rfl rfl ?_
    refine er_loc (pc' := 22) rfl rfl rfl ?_
    refine er_cIi (pc' := 25) (rest := []) 7 rfl rfl rfl rfl rfl rfl (l_isWrong _ j9 _ _ _) ?_
    have hw0 : sBit (jx X 9 0 7) (nI i) = sBit (X1 9 7) (nI i) := by rw [jx07, ho 9 (by omega)]
    refine er_if_eqb (pc' := 28) rfl rfl (fun h25 => ?_) (fun h25 => ?_)
    · refine er_loc (L' := [(3, .int (_ + nI 1)), (0, _), (1, _), (2, _)]) rfl rfl rfl ?_
      refine er_goto rfl ?_
      refine ER_loc [(0, _), (1, _), (2, _), (3, _)] rfl (List.forall_mem_cons.mpr ⟨rfl, List.forall_mem_cons.mpr ⟨rfl, List.forall_mem_cons.mpr ⟨rfl, List.forall_mem_cons.mpr ⟨rfl, fun _ h => absurd h List.not_mem_nil⟩⟩⟩⟩) rfl rfl ?_
      refine l_look_loop d hI hT9 P m (i + 1) _ _ _ _ _ (by omega) (nI_add i 1) ho ?_
      intro r hr; apply hP
      have e2 : lkF (jx X 9) (m + 1) i f l = lkF (jx X 9) m (i + 1) f l := by
        show (if _ then (if _ then _ else _) else _) = _
        rw [if_neg (by rw [hw0, h25]; simp)]
      rw [e2]
      exact hr
    · refine er_loc (pc' := 29) rfl rfl rfl ?_
      refine er_loc (pc' := 30) rfl rfl rfl ?_
      refine er_cIi (pc' := 33) (rest := []) 11 rfl rfl rfl rfl rfl rfl (l_isBlocked _ X1 Z (k := i) hI1 (by rw [ho.j9]; omega)) ?_
      have hb0 : sBlocked (jx X 9) i = sBlocked (jx X1 9) i := (sBlocked_ot ho).symm
      refine er_if_neb (pc' := 36) rfl rfl (fun h33 => ?_) (fun h33 => ?_)
      · refine er_loc (L' := [(3, .int (_ + nI 1)), (0, _), (1, _), (2, _)]) rfl rfl rfl ?_
        refine er_goto rfl ?_
        refine ER_loc [(0, _), (1, _), (2, _), (3, _)] rfl (List.forall_mem_cons.mpr ⟨rfl, List.forall_mem_cons.mpr ⟨rfl, List.forall_mem_cons.mpr ⟨rfl, List.forall_mem_cons.mpr ⟨rfl, fun _ h => absurd h List.not_mem_nil⟩⟩⟩⟩) rfl rfl ?_
        refine l_look_loop d hI hT9 P m (i + 1) _ _ _ _ _ (by omega) (nI_add i 1) ho ?_
        intro r hr; apply hP
        have e2 : lkF (jx X 9) (m + 1) i f l = lkF (jx X 9) m (i + 1) f l := by
          show (if _ then (if _ then _ else _) else _) = _
          rw [if_neg (by rw [hw0, h25, hb0, h33]; simp)]
        rw [e2]
        exact hr
      · refine er_loc (pc' := 37) rfl rfl rfl ?_
        refine er_loc (pc' := 38) rfl rfl rfl ?_
        refine er_cIo (pc' := 41) (rest := []) 11 rfl rfl rfl rfl rfl rfl (l_minutesBackTo _ hI1 hT9 (k := i) (by rw [ho.j9]; omega)) ?_
        intro X2 Z2 ho2
        have hg0 : sGoM (jx X 9) i = sGoM (jx X1 9) i := by rw [ho.j9]
        refine er_loc (pc' := 43) (L' := [(4, _), (0, _), (1, _), (2, _), (3, _)]) rfl rfl rfl ?_
        refine er_loc (pc' := 44) rfl rfl rfl ?_
        refine er_if_lt (pc' := 47) rfl rfl (fun h44 => ?_) (fun h44 => ?_)
        · refine er_loc (pc' := 54) rfl rfl rfl ?_
          refine er_loc (pc' := 55) (L' := [(1, _), (4, _), (0, _), (2, _), (3, _)]) rfl rfl rfl ?_
          refine er_loc (pc' := 57) rfl rfl rfl ?_
          refine er_loc (pc' := 58) (L' := [(2, _), (1, _), (4, _), (0, _), (3, _)]) rfl rfl rfl ?_
          refine er_loc (L' := [(3, .int (_ + nI 1)), (2, _), (1, _), (4, _), (0, _)]) rfl rfl rfl ?_
          refine er_goto rfl ?_
          refine ER_loc [(0, _), (1, _), (2, _), (3, _)] rfl (List.forall_mem_cons.mpr ⟨rfl, List.forall_mem_cons.mpr ⟨rfl, List.forall_mem_cons.mpr ⟨rfl, List.forall_mem_cons.mpr ⟨rfl, fun _ h => absurd h List.not_mem_nil⟩⟩⟩⟩) rfl rfl ?_
          refine l_look_loop d hI hT9 P m (i + 1) _ _ _ _ _ (by omega) (nI_add i 1) (ho.trans ho2) ?_
          intro r hr; apply hP
          have e2 : lkF (jx X 9) (m + 1) i f l = lkF (jx X 9) m (i + 1) (nI i) (sGoM (jx X 9) i) := by
            show (if _ then (if _ then _ else _) else _) = _
            rw [if_pos (by rw [hw0, h25, hb0, h33]; rfl), if_pos (Or.inl h44)]
          rw [e2, hg0]
          exact hr
        · refine er_loc (pc' := 49) rfl rfl rfl ?_
          refine er_loc (pc' := 50) rfl rfl rfl ?_
          refine er_cm_ge (pc' := 53) rfl rfl (fun h50 => ?_) (fun h50 => ?_)
          · refine er_loc (L' := [(3, .int (_ + nI 1)), (4, _), (0, _), (1, _), (2, _)]) rfl rfl rfl ?_
            refine er_goto rfl ?_
            refine ER_loc [(0, _), (1, _), (2, _), (3, _)] rfl (List.forall_mem_cons.mpr ⟨rfl, List.forall_mem_cons.mpr ⟨rfl, List.forall_mem_cons.mpr ⟨rfl, List.forall_mem_cons.mpr ⟨rfl, fun _ h => absurd h List.not_mem_nil⟩⟩⟩⟩) rfl rfl ?_
            refine l_look_loop d hI hT9 P m (i + 1) _ _ _ _ _ (by omega) (nI_add i 1) (ho.trans ho2) ?_
            intro r hr; apply hP
            have e2 : lkF (jx X 9) (m + 1) i f l = lkF (jx X 9) m (i + 1) f l := by
              show (if _ then (if _ then _ else _) else _) = _
              rw [if_pos (by rw [hw0, h25, hb0, h33]; rfl), if_neg (by rw [hg0]; exact fun q => q.elim h44 h50)]
            rw [e2]
            exact hr
          · refine er_loc (pc' := 54) rfl rfl rfl ?_
            refine er_loc (pc' := 55) (L' := [(1, _), (4, _), (0, _), (2, _), (3, _)]) rfl rfl rfl ?_
            refine er_loc (pc' := 57) rfl rfl rfl ?_
            refine er_loc (pc' := 58) (L' := [(2, _), (1, _), (4, _), (0, _), (3, _)]) rfl rfl rfl ?_
            refine er_loc (L' := [(3, .int (_ + nI 1)), (2, _), (1, _), (4, _), (0, _)]) rfl rfl rfl ?_
            refine er_goto rfl ?_
            refine ER_loc [(0, _), (1, _), (2, _), (3, _)] rfl (List.forall_mem_cons.mpr ⟨rfl, List.forall_mem_cons.mpr ⟨rfl, List.forall_mem_cons.mpr ⟨rfl, List.forall_mem_cons.mpr ⟨rfl, fun _ h => absurd h List.not_mem_nil⟩⟩⟩⟩) rfl rfl ?_
            refine l_look_loop d hI hT9 P m (i + 1) _ _ _ _ _ (by omega) (nI_add i 1) (ho.trans ho2) ?_
            intro r hr; apply hP
            have e2 : lkF (jx X 9) (m + 1) i f l = lkF (jx X 9) m (i + 1) (nI i) (sGoM (jx X 9) i) := by
              show (if _ then (if _ then _ else _) else _) = _
              rw [if_pos (by rw [hw0, h25, hb0, h33]; rfl), if_pos (Or.inr (by rw [hg0]; exact h50))]
            rw [e2, hg0]
            exact hr
set_option maxRecDepth 100000 in
set_option maxHeartbeats 4000000 in
theorem l_lookAt (d : Nat) (X Z : Nat → Nat → Int32) {T : Nat} (hI : IJ T (jx X 9)) (hT9 : T < 1000000) : EC (d + 7) 104 [.ref 0] (Wd X Z) (LkP X (lkF (jx X 9) (jn (jx X 9)) 0 (-1) (nI 0))) := by
  refine er_enter (L := [(0, _)]) rfl rfl rfl ?_
  refine er_k (pc' := 1) (-1) rfl rfl rfl ?_
  refine er_loc (pc' := 2) (L' := [(1, _), (0, _)]) rfl rfl rfl ?_
  refine er_k (pc' := 3) (nI 0) rfl rfl rfl ?_
  refine er_loc (pc' := 4) (L' := [(2, _), (1, _), (0, _)]) rfl rfl rfl ?_
  refine er_k (pc' := 5) (nI 0) rfl rfl rfl ?_
  refine er_loc (pc' := 6) (L' := [(3, _), (2, _), (1, _), (0, _)]) rfl rfl rfl ?_
  refine ER_loc [(0, _), (1, _), (2, _), (3, _)] rfl (List.forall_mem_cons.mpr ⟨rfl, List.forall_mem_cons.mpr ⟨rfl, List.forall_mem_cons.mpr ⟨rfl, List.forall_mem_cons.mpr ⟨rfl, fun _ h => absurd h List.not_mem_nil⟩⟩⟩⟩) rfl rfl ?_
  exact l_look_loop d hI hT9 _ (jn (jx X 9)) 0 X Z _ _ _ (by omega) rfl (OT.rf X) (fun _ h => h)
def sRight (J : Nat → Nat → Int32) (k : Nat) : Nat → Int32
  | 0 => nI 0
  | i + 1 => sRight J k i + (nI 1 - sErrsBy J (J 2 k) (nI i) (J 1 k))
def sRem (x y : Int32) : Int32 := x - x / y * y
def sRed : Nat → Int32 → Int32 → Int32 × Int32
  | 0, a, b => (a, b)
  | m + 1, a, b => if sRem a (nI (m + 2)) = 0 ∧ sRem b (nI (m + 2)) = 0 then sRed m (a / nI (m + 2)) (b / nI (m + 2)) else sRed m a b
def sOdds (J : Nat → Nat → Int32) (k : Nat) : Int32 × Int32 := sRed 9 (sRight J k 10) (nI 10)
set_option maxRecDepth 100000 in
set_option maxHeartbeats 4000000 in
theorem l_odd_loop (d : Nat) {X : Nat → Nat → Int32} {T : Nat} (hI : IJ T (jx X 9)) {k : Nat} (hk : k < jn (jx X 9)) (w : Int32) (P : ab_R → Prop) : ∀ (m i : Nat) (Z : Nat → Nat → Int32) (v x : Int32), i + m = 10 → x = nI i → v = sRight (jx X 9) k i → (∀ Z2 x2, ER (d + 3) tb_m108 76 [(0, .ref 0), (1, .int (nI k)), (2, .int w), (3, .int (sRight (jx X 9) k 10)), (4, .int x2)] [] (Wd X Z2) P) → ER (d + 3) tb_m108 31 [(0, .ref 0), (1, .int (nI k)), (2, .int w), (3, .int v), (4, .int x)] [] (Wd X Z) P
  | 0, i, Z, v, x, hi, hx, hv, hP => by
    have hi0 : i = 10 := by omega
    subst hx
    subst hv
    subst hi0
    refine er_loc (pc' := 33) rfl rfl rfl ?_
    refine er_k (pc' := 35) (nI 9) rfl rfl rfl ?_
    refine er_cm_gtT rfl (nI_lt (by omega) (by omega)) ?_
    exact hP Z _
  | m + 1, i, Z, v, x, hi, hx, hv, hP => by
    have h8 := jn8 hI
    have hk8 : k < 8 := by omega
    subst hx
    subst hv
    refine er_loc (pc' := 33) rfl rfl rfl ?_
    refine er_k (pc' := 35) (nI 9) rfl rfl rfl ?_
    refine er_cm_gtF (pc' := 38) rfl (nI_nlt (by omega) (by omega)) rfl ?_
    refine er_loc (pc' := 39) rfl rfl rfl ?_
    refine er_k (pc' := 40) (nI 1) rfl rfl rfl ?_
    refine er_loc (pc' := 41) rfl rfl rfl ?_
    refine er_gf (pc' := 44) (_) rfl rfl rfl rfl rfl ?_
    refine er_loc (pc' := 45) rfl rfl rfl ?_
    refine er_gf (pc' := 48) (_) rfl rfl rfl rfl rfl ?_
    refine er_gf (pc' := 51) (_) rfl rfl rfl rfl rfl ?_
    refine er_loc (pc' := 52) rfl rfl rfl ?_
    refine er_ia (pc' := 53) (k) rfl rfl rfl rfl (by omega) rfl rfl ?_
    refine er_loc (pc' := 55) rfl rfl rfl ?_
    refine er_loc (pc' := 56) rfl rfl rfl ?_
    refine er_gf (pc' := 59) (_) rfl rfl rfl rfl rfl ?_
    refine er_gf (pc' := 62) (_) rfl rfl rfl rfl rfl ?_
    refine er_loc (pc' := 63) rfl rfl rfl ?_
    refine er_ia (pc' := 64) (k) rfl rfl rfl rfl (by omega) rfl rfl ?_
    refine er_cIz (pc' := 67) (rest := [_, _]) 7 rfl rfl rfl rfl rfl rfl (l_errsBy _ j9 _ _ hI _ _ _) ?_
    intro Z1
    refine er_isub (pc' := 68) rfl rfl ?_
    refine er_iadd (pc' := 69) rfl rfl ?_
    refine er_loc (pc' := 70) (L' := [(3, _), (0, _), (1, _), (2, _), (4, _)]) rfl rfl rfl ?_
    refine er_loc (L' := [(4, .int (_ + nI 1)), (3, _), (0, _), (1, _), (2, _)]) rfl rfl rfl ?_
    refine er_goto rfl ?_
    refine ER_loc [(0, _), (1, _), (2, _), (3, _), (4, _)] rfl (List.forall_mem_cons.mpr ⟨rfl, List.forall_mem_cons.mpr ⟨rfl, List.forall_mem_cons.mpr ⟨rfl, List.forall_mem_cons.mpr ⟨rfl, List.forall_mem_cons.mpr ⟨rfl, fun _ h => absurd h List.not_mem_nil⟩⟩⟩⟩⟩) rfl rfl ?_
    refine l_odd_loop d hI hk w P m (i + 1) _ _ _ (by omega) (nI_add i 1) ?_ hP
    show _ = _ + (nI 1 - _)
    rw [jx2 hk8, jx1 hk8]
set_option maxRecDepth 100000 in
set_option maxHeartbeats 4000000 in
theorem l_red_loop (d : Nat) {X : Nat → Nat → Int32} (w : Int32) (P : ab_R → Prop) : ∀ (m : Nat) (p q x : Int32) (Z : Nat → Nat → Int32), x = nI (m + 1) → (∀ r, RI (if w = 0 then (sRed m p q).1 else (sRed m p q).2) X r → P r) ∧ m ≤ 9 → ER (d + 3) tb_m108 84 [(0, .ref 0), (2, .int w), (3, .int p), (4, .int q), (5, .int x)] [] (Wd X Z) P
  | 0, p, q, x, Z, hx, hP => by
    subst hx
    refine er_loc (pc' := 86) rfl rfl rfl ?_
    refine er_k (pc' := 87) (nI 1) rfl rfl rfl ?_
    refine er_cm_leT rfl (nI_nlt (by omega) (by omega)) ?_
    refine er_loc (pc' := 124) rfl rfl rfl ?_
    refine er_if_ne (pc' := 127) rfl rfl (fun h124 => ?_) (fun h124 => ?_)
    · refine er_loc (pc' := 133) rfl rfl rfl ?_
      refine er_iret rfl rfl ?_
      apply hP.1
      rw [if_neg h124]
      exact RI_of rfl rfl
    · refine er_loc (pc' := 128) rfl rfl rfl ?_
      refine er_goto rfl ?_
      refine er_iret rfl rfl ?_
      apply hP.1
      rw [if_pos h124]
      exact RI_of rfl rfl
  | m + 1, p, q, x, Z, hx, hP => by
    have hm9 := hP.2
    subst hx
    refine er_loc (pc' := 86) rfl rfl rfl ?_
    refine er_k (pc' := 87) (nI 1) rfl rfl rfl ?_
    refine er_cm_leF (pc' := 90) rfl (nI_lt (by omega) (by omega)) rfl ?_
    refine er_loc (pc' := 91) rfl rfl rfl ?_
    refine er_loc (pc' := 93) rfl rfl rfl ?_
    refine er_irem (pc' := 94) rfl rfl (by have := nI_ne0 (n := m + 2) (by omega) (by omega); exact this) ?_
    refine er_if_ne (pc' := 97) rfl rfl (fun h94 => ?_) (fun h94 => ?_)
    · refine er_loc (L' := [(5, .int (_ + (-1))), (0, _), (2, _), (3, _), (4, _)]) rfl rfl rfl ?_
      refine er_goto rfl ?_
      refine ER_loc [(0, _), (2, _), (3, _), (4, _), (5, _)] rfl (List.forall_mem_cons.mpr ⟨rfl, List.forall_mem_cons.mpr ⟨rfl, List.forall_mem_cons.mpr ⟨rfl, List.forall_mem_cons.mpr ⟨rfl, List.forall_mem_cons.mpr ⟨rfl, fun _ h => absurd h List.not_mem_nil⟩⟩⟩⟩⟩) rfl rfl ?_
      refine l_red_loop d w P m _ _ _ Z (by rw [nI_addm1 (by omega)]; rfl) ?_
      have e2 : sRed (m + 1) p q = sRed m p q := by
        show (if _ then _ else _) = _
        rw [if_neg (fun c => h94 c.1)]
      rw [← e2]
      exact ⟨hP.1, by omega⟩
    · refine er_loc (pc' := 99) rfl rfl rfl ?_
      refine er_loc (pc' := 101) rfl rfl rfl ?_
      refine er_irem (pc' := 102) rfl rfl (by have := nI_ne0 (n := m + 2) (by omega) (by omega); exact this) ?_
      refine er_if_ne (pc' := 105) rfl rfl (fun h102 => ?_) (fun h102 => ?_)
      · refine er_loc (L' := [(5, .int (_ + (-1))), (0, _), (2, _), (3, _), (4, _)]) rfl rfl rfl ?_
        refine er_goto rfl ?_
        refine ER_loc [(0, _), (2, _), (3, _), (4, _), (5, _)] rfl (List.forall_mem_cons.mpr ⟨rfl, List.forall_mem_cons.mpr ⟨rfl, List.forall_mem_cons.mpr ⟨rfl, List.forall_mem_cons.mpr ⟨rfl, List.forall_mem_cons.mpr ⟨rfl, fun _ h => absurd h List.not_mem_nil⟩⟩⟩⟩⟩) rfl rfl ?_
        refine l_red_loop d w P m _ _ _ Z (by rw [nI_addm1 (by omega)]; rfl) ?_
        have e2 : sRed (m + 1) p q = sRed m p q := by
          show (if _ then _ else _) = _
          rw [if_neg (fun c => h102 c.2)]
        rw [← e2]
        exact ⟨hP.1, by omega⟩
      · refine er_loc (pc' := 106) rfl rfl rfl ?_
        refine er_loc (pc' := 108) rfl rfl rfl ?_
        refine er_idiv (pc' := 109) rfl rfl (by have := nI_ne0 (n := m + 2) (by omega) (by omega); exact this) ?_
        refine er_loc (pc' := 110) (L' := [(3, _), (0, _), (2, _), (4, _), (5, _)]) rfl rfl rfl ?_
        refine er_loc (pc' := 112) rfl rfl rfl ?_
        refine er_loc (pc' := 114) rfl rfl rfl ?_
        refine er_idiv (pc' := 115) rfl rfl (by have := nI_ne0 (n := m + 2) (by omega) (by omega); exact this) ?_
        refine er_loc (pc' := 117) (L' := [(4, _), (3, _), (0, _), (2, _), (5, _)]) rfl rfl rfl ?_
        refine er_loc (L' := [(5, .int (_ + (-1))), (4, _), (3, _), (0, _), (2, _)]) rfl rfl rfl ?_
        refine er_goto rfl ?_
        refine ER_loc [(0, _), (2, _), (3, _), (4, _), (5, _)] rfl (List.forall_mem_cons.mpr ⟨rfl, List.forall_mem_cons.mpr ⟨rfl, List.forall_mem_cons.mpr ⟨rfl, List.forall_mem_cons.mpr ⟨rfl, List.forall_mem_cons.mpr ⟨rfl, fun _ h => absurd h List.not_mem_nil⟩⟩⟩⟩⟩) rfl rfl ?_
        refine l_red_loop d w P m _ _ _ Z (by rw [nI_addm1 (by omega)]; rfl) ?_
        have e2 : sRed (m + 1) p q = sRed m (p / nI (m + 2)) (q / nI (m + 2)) := by
          show (if _ then _ else _) = _
          rw [if_pos ⟨h94, h102⟩]
        rw [← e2]
        exact ⟨hP.1, by omega⟩
set_option maxRecDepth 100000 in
set_option maxHeartbeats 4000000 in
theorem l_odds (d : Nat) (X Z : Nat → Nat → Int32) {T : Nat} (hI : IJ T (jx X 9)) {k : Nat} (hk : k < jn (jx X 9)) (w : Int32) : EC (d + 4) 108 [.ref 0, .int (nI k), .int w] (Wd X Z) (fun r => if sIn w (nI 0) (nI 1) = true then RI (if w = 0 then (sOdds (jx X 9) k).1 else (sOdds (jx X 9) k).2) X r else RI (sErr 1) (xErr X 1) r) := by
  refine er_enter (L := [(0, _), (1, _), (2, _)]) rfl rfl rfl ?_
  refine er_loc (pc' := 1) rfl rfl rfl ?_
  refine er_gf (pc' := 4) (_) rfl rfl rfl rfl rfl ?_
  refine er_loc (pc' := 5) rfl rfl rfl ?_
  refine er_cIi (pc' := 8) (rest := []) 7 rfl rfl rfl rfl rfl rfl (l_has_t _ j9 _ _ hI hk) ?_
  refine er_if_eqF (pc' := 11) rfl (by decide +kernel) rfl ?_
  refine er_loc (pc' := 12) rfl rfl rfl ?_
  refine er_k (pc' := 13) (nI 0) rfl rfl rfl ?_
  refine er_k (pc' := 14) (nI 1) rfl rfl rfl ?_
  refine er_cSi (pc' := 17) (rest := []) rfl rfl rfl (l_within _ _ _ _ _) ?_
  refine er_if_neb (pc' := 20) rfl rfl (fun h17 => ?_) (fun h17 => ?_)
  · refine er_k (pc' := 27) (nI 0) rfl rfl rfl ?_
    refine er_loc (pc' := 28) (L' := [(3, _), (0, _), (1, _), (2, _)]) rfl rfl rfl ?_
    refine er_k (pc' := 29) (nI 0) rfl rfl rfl ?_
    refine er_loc (pc' := 31) (L' := [(4, _), (3, _), (0, _), (1, _), (2, _)]) rfl rfl rfl ?_
    refine ER_loc [(0, _), (1, _), (2, _), (3, _), (4, _)] rfl (List.forall_mem_cons.mpr ⟨rfl, List.forall_mem_cons.mpr ⟨rfl, List.forall_mem_cons.mpr ⟨rfl, List.forall_mem_cons.mpr ⟨rfl, List.forall_mem_cons.mpr ⟨rfl, fun _ h => absurd h List.not_mem_nil⟩⟩⟩⟩⟩) rfl rfl ?_
    refine l_odd_loop d hI hk w _ 10 0 Z _ _ (by omega) rfl rfl ?_
    intro Z2 x2
    refine er_k (pc' := 78) (nI 10) rfl rfl rfl ?_
    refine er_loc (L' := [(4, _), (0, _), (1, _), (2, _), (3, _)]) (pc' := 80) rfl rfl rfl ?_
    refine er_loc (pc' := 82) rfl rfl rfl ?_
    refine er_loc (L' := [(5, _), (4, _), (0, _), (1, _), (2, _), (3, _)]) (pc' := 84) rfl rfl rfl ?_
    refine ER_loc [(0, _), (2, _), (3, _), (4, _), (5, _)] rfl (List.forall_mem_cons.mpr ⟨rfl, List.forall_mem_cons.mpr ⟨rfl, List.forall_mem_cons.mpr ⟨rfl, List.forall_mem_cons.mpr ⟨rfl, List.forall_mem_cons.mpr ⟨rfl, fun _ h => absurd h List.not_mem_nil⟩⟩⟩⟩⟩) rfl rfl ?_
    refine l_red_loop d w _ 9 _ _ _ Z2 rfl ⟨fun r hr => ?_, by omega⟩
    rw [if_pos h17]
    exact hr
  · refine er_loc (pc' := 21) rfl rfl rfl ?_
    refine er_k (pc' := 22) (nI 1) rfl rfl rfl ?_
    refine er_cIz (pc' := 25) (rest := []) 11 rfl rfl rfl rfl rfl rfl (l_error _ _ _ 1 (by decide)) ?_
    intro Z9
    refine er_iret rfl rfl ?_
    rw [if_neg (by rw [h17]; decide)]
    exact RI_of rfl rfl
