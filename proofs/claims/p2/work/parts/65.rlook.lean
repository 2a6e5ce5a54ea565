/-! THE REFERENCE, its face: goBack, lookAt, whose -/
set_option maxRecDepth 100000 in
set_option maxHeartbeats 4000000 in
theorem l_rGoBack_no (d : Nat) (X Z : Nat → Nat → Int32) {T : Nat} (hI : RK T (X 64)) (s w : Int32) (hs : jHas (jm (X 64)) s = false) : EC (d + 3) 188 [.ref 63, .int s, .int w] (Wd X Z) (RI (sErr 1) (yErr X 1)) := by
  refine er_enter (L := [(0, _), (1, _), (2, _)]) rfl rfl rfl ?_
  refine er_loc (pc' := 1) rfl rfl rfl ?_
  refine er_loc (pc' := 2) rfl rfl rfl ?_
  refine er_cIi (pc' := 5) (rest := []) 12 rfl rfl rfl rfl rfl rfl (l_rHas_f _ X _ hI hs) ?_
  refine er_if_eqT rfl (by decide +kernel) ?_
  refine er_loc (pc' := 18) rfl rfl rfl ?_
  refine er_ldc (pc' := 20) (-1000000001) rfl rfl rfl rfl rfl ?_
  refine er_cIz (pc' := 23) (rest := []) 12 rfl rfl rfl rfl rfl rfl (l_rError1 _ _ _) ?_
  intro Z9
  refine er_iret rfl rfl ?_
  exact RI_of rfl rfl
section ERL
variable {d pc pc' lk : Nat} {M : ab_M} {L L' : ab_Lo} {st : List Value} {w : ab_W} {P : ab_R → Prop} {X Z : Nat → Nat → Int32}
theorem er_cI6 (cls : Nat) {c j : Nat} {v : Int32} {ins : Instr} {fs As rest : List Value} (hf : ab_fetch M.2.2.2.2.2.2.2 pc = some (ins, lk)) (hi : isCI ins = true) (hq : qI lk cls st = some (c, j, As, rest)) (hc : Nat.blt c 79 = true) (ho : cO c (X c) (Z c) = .inl (cls, fs)) (hp : pc + 3 = pc') (h : EC d j As (Wd X Z) (R6 v X)) (k : ∀ X' Z', (∀ c, c ≠ 66 → X' c = X c) → ER d M pc' L (.int v :: rest) (Wd X' Z') P) : ER d M pc L st (Wd X Z) P :=
  er_cI cls hf hi hq hc ho hp h (fun r hr => by obtain ⟨X', Z', rfl, h1⟩ := hr; exact k X' Z' h1)
end ERL
set_option maxRecDepth 100000 in
set_option maxHeartbeats 4000000 in
theorem l_rGoBack (d : Nat) (X Z : Nat → Nat → Int32) {T : Nat} (hI : RK T (X 64)) {k : Nat} (hk : k < jn (jm (X 64))) (hT9 : T < 1000000) (w : Int32) : EC (d + 8) 188 [.ref 63, .int (nI k), .int w] (Wd X Z) (fun r => if sIn w (nI 0) (nI 1) = true then (if sDone (jm (X 64)) k = true then (if w = 0 then R6 (sGoM (jm (X 64)) k) X r else RI (bI (sBlocked (jm (X 64)) k)) X r) else RI (sErr 3) (yErr X 3) r) else RI (sErr 1) (yErr X 1) r) := by
  cases hdn : sDone (jm (X 64)) k with
  | false =>
    refine er_enter (L := [(0, _), (1, _), (2, _)]) rfl rfl rfl ?_
    refine er_loc (pc' := 1) rfl rfl rfl ?_
    refine er_loc (pc' := 2) rfl rfl rfl ?_
    refine er_cIi (pc' := 5) (rest := []) 12 rfl rfl rfl rfl rfl rfl (l_rHas_t _ X _ hI hk) ?_
    refine er_if_eqF (pc' := 8) rfl (by decide +kernel) rfl ?_
    refine er_loc (pc' := 9) rfl rfl rfl ?_
    refine er_k (pc' := 10) (nI 0) rfl rfl rfl ?_
    refine er_k (pc' := 11) (nI 1) rfl rfl rfl ?_
    refine er_cSi (pc' := 14) (rest := []) rfl rfl rfl (l_in _ _ _ _ _) ?_
    refine er_if_neb (pc' := 17) rfl rfl (fun h14 => ?_) (fun h14 => ?_)
    · refine er_loc (pc' := 25) rfl rfl rfl ?_
      refine er_loc (pc' := 26) rfl rfl rfl ?_
      refine er_k (pc' := 27) (nI 4) rfl rfl rfl ?_
      refine er_cIi (pc' := 30) (rest := []) 12 rfl rfl rfl rfl rfl rfl (l_of4 _ X _ hI hk) ?_
      rw [hdn]
      refine er_if_neF (pc' := 33) rfl (by decide +kernel) rfl ?_
      refine er_loc (pc' := 34) rfl rfl rfl ?_
      refine er_ldc (pc' := 36) (-1000000003) rfl rfl rfl rfl rfl ?_
      refine er_cIz (pc' := 39) (rest := []) 12 rfl rfl rfl rfl rfl rfl (l_rError3 _ _ _) ?_
      intro Z9
      refine er_iret rfl rfl ?_
      rw [if_pos h14, if_neg (by decide)]
      exact RI_of rfl rfl
    · refine er_loc (pc' := 18) rfl rfl rfl ?_
      refine er_ldc (pc' := 20) (-1000000001) rfl rfl rfl rfl rfl ?_
      refine er_cIz (pc' := 23) (rest := []) 12 rfl rfl rfl rfl rfl rfl (l_rError1 _ _ _) ?_
      intro Z9
      refine er_iret rfl rfl ?_
      rw [if_neg (by rw [h14]; decide)]
      exact RI_of rfl rfl
  | true =>
    refine er_enter (L := [(0, _), (1, _), (2, _)]) rfl rfl rfl ?_
    refine er_loc (pc' := 1) rfl rfl rfl ?_
    refine er_loc (pc' := 2) rfl rfl rfl ?_
    refine er_cIi (pc' := 5) (rest := []) 12 rfl rfl rfl rfl rfl rfl (l_rHas_t _ X _ hI hk) ?_
    refine er_if_eqF (pc' := 8) rfl (by decide +kernel) rfl ?_
    refine er_loc (pc' := 9) rfl rfl rfl ?_
    refine er_k (pc' := 10) (nI 0) rfl rfl rfl ?_
    refine er_k (pc' := 11) (nI 1) rfl rfl rfl ?_
    refine er_cSi (pc' := 14) (rest := []) rfl rfl rfl (l_in _ _ _ _ _) ?_
    refine er_if_neb (pc' := 17) rfl rfl (fun h14 => ?_) (fun h14 => ?_)
    · refine er_loc (pc' := 25) rfl rfl rfl ?_
      refine er_loc (pc' := 26) rfl rfl rfl ?_
      refine er_k (pc' := 27) (nI 4) rfl rfl rfl ?_
      refine er_cIi (pc' := 30) (rest := []) 12 rfl rfl rfl rfl rfl rfl (l_of4 _ X _ hI hk) ?_
      rw [hdn]
      refine er_if_neT rfl (by decide +kernel) ?_
      refine er_loc (pc' := 41) rfl rfl rfl ?_
      refine er_if_ne (pc' := 44) rfl rfl (fun h41 => ?_) (fun h41 => ?_)
      · refine er_loc (pc' := 53) rfl rfl rfl ?_
        refine er_loc (pc' := 54) rfl rfl rfl ?_
        refine er_cIi (pc' := 57) (rest := []) 12 rfl rfl rfl rfl rfl rfl (l_rBlocked _ X _ hI hk) ?_
        refine er_if_eqb (pc' := 60) rfl rfl (fun h57 => ?_) (fun h57 => ?_)
        · refine er_k (pc' := 65) (nI 0) rfl rfl rfl ?_
          refine er_iret rfl rfl ?_
          rw [if_pos h14, if_pos rfl, if_neg h41]
          exact RI_of (bI_eq0 h57) rfl
        · refine er_k (pc' := 61) (nI 1) rfl rfl rfl ?_
          refine er_goto rfl ?_
          refine er_iret rfl rfl ?_
          rw [if_pos h14, if_pos rfl, if_neg h41]
          exact RI_of (bI_eq1 h57) rfl
      · refine er_loc (pc' := 45) rfl rfl rfl ?_
        refine er_loc (pc' := 46) rfl rfl rfl ?_
        refine er_cI6 (rest := []) 12 rfl rfl rfl rfl rfl rfl (l_rGoing _ X _ hI hk hT9) ?_
        intro X1 Z1 w1
        refine er_goto rfl ?_
        refine er_iret rfl rfl ?_
        rw [if_pos h14, if_pos rfl, if_pos h41]
        exact R6_of rfl w1
    · refine er_loc (pc' := 18) rfl rfl rfl ?_
      refine er_ldc (pc' := 20) (-1000000001) rfl rfl rfl rfl rfl ?_
      refine er_cIz (pc' := 23) (rest := []) 12 rfl rfl rfl rfl rfl rfl (l_rError1 _ _ _) ?_
      intro Z9
      refine er_iret rfl rfl ?_
      rw [if_neg (by rw [h14]; decide)]
      exact RI_of rfl rfl
def LkM (X : Nat → Nat → Int32) (f : Int32) : ab_R → Prop := fun r => if f < 0 then (∃ X' Z', r = (some (.int (sErr 2)), Wd X' Z') ∧ ∀ c, c ≠ 66 → c ≠ 67 → X' c = X c) else R6 f X r
theorem LkM.tr {X Y : Nat → Nat → Int32} {f : Int32} {r : ab_R} (h : ∀ c, c ≠ 66 → Y c = X c) (h2 : LkM Y f r) : LkM X f r := by
  unfold LkM at h2 ⊢
  split
  · rename_i hf
    rw [if_pos hf] at h2
    obtain ⟨X', Z', e, h3⟩ := h2
    exact ⟨X', Z', e, fun c h6 h7 => (h3 c h6 h7).trans (h c h6)⟩
  · rename_i hf
    rw [if_neg hf] at h2
    obtain ⟨X', Z', e, h3⟩ := h2
    exact ⟨X', Z', e, fun c h6 => (h3 c h6).trans (h c h6)⟩
theorem lk_no {J : Nat → Nat → Int32} {m i : Nat} {f l : Int32} (h : (sBit (J 0 7) (nI i) && !sBlocked J i) = false) : lkF J (m + 1) i f l = lkF J m (i + 1) f l := by
  show (if _ then _ else _) = _
  rw [h, if_neg (by decide)]
theorem lk_in {J : Nat → Nat → Int32} {m i : Nat} {f l : Int32} (h : (sBit (J 0 7) (nI i) && !sBlocked J i) = true) (h2 : f < 0 ∨ sGoM J i < l) : lkF J (m + 1) i f l = lkF J m (i + 1) (nI i) (sGoM J i) := by
  show (if _ then _ else _) = _
  rw [if_pos h, if_pos h2]
theorem lk_out {J : Nat → Nat → Int32} {m i : Nat} {f l : Int32} (h : (sBit (J 0 7) (nI i) && !sBlocked J i) = true) (h2 : ¬ (f < 0 ∨ sGoM J i < l)) : lkF J (m + 1) i f l = lkF J m (i + 1) f l := by
  show (if _ then _ else _) = _
  rw [if_pos h, if_neg h2]
set_option maxRecDepth 100000 in
set_option maxHeartbeats 4000000 in
theorem l_rLook_loop (d : Nat) {T : Nat} (hT9 : T < 1000000) : ∀ (m i : Nat) (X Z : Nat → Nat → Int32) (f l x : Int32), RK T (X 64) → i + m = jn (jm (X 64)) → x = nI i → ER (d + 7) tb_m194 6 [(0, .ref 63), (1, .int f), (2, .int l), (3, .int x)] [] (Wd X Z) (LkM X (lkF (jm (X 64)) m i f l))
  | 0, i, X, Z, f, l, x, hI, hi, hx => by
    have h8 := jn8 hI.ij
    have hi0 : i = jn (jm (X 64)) := by omega
    subst hx
    subst hi0
    refine er_loc (pc' := 7) rfl rfl rfl ?_
    refine er_loc (pc' := 8) rfl rfl rfl ?_
    refine er_gf (pc' := 11) (_) rfl rfl rfl rfl rfl ?_
    refine er_k (pc' := 12) (nI 2) rfl rfl rfl ?_
    refine er_ia (pc' := 13) (2) rfl rfl rfl rfl (by omega) rfl rfl ?_
    rw [hI.n]
    refine er_cm_geT rfl (nI_nlt (by omega) (by omega)) ?_
    refine er_loc (pc' := 88) rfl rfl rfl ?_
    refine er_if_ge (pc' := 91) rfl rfl (fun h88 => ?_) (fun h88 => ?_)
    · refine er_loc (pc' := 101) rfl rfl rfl ?_
      refine er_iret rfl rfl ?_
      show LkM X f _
      unfold LkM
      rw [if_neg h88]
      exact R6_of rfl (fun _ _ => rfl)
    · refine er_loc (pc' := 92) rfl rfl rfl ?_
      refine er_ldc (pc' := 94) (-1000000002) rfl rfl rfl rfl rfl ?_
      refine er_cIz (pc' := 97) (rest := []) 12 rfl rfl rfl rfl rfl rfl (l_rError2 _ _ _) ?_
      intro Z9
      refine er_goto rfl ?_
      refine er_iret rfl rfl ?_
      show LkM X f _
      unfold LkM
      rw [if_pos h88]
      exact ⟨_, _, rfl, fun c h6 h7 => ud_ne h7⟩
  | m + 1, i, X, Z, f, l, x, hI, hi, hx => by
    have h8 := jn8 hI.ij
    subst hx
    cases hwr : sBit (jm (X 64) 0 7) (nI i) with
    | false =>
      refine er_loc (pc' := 7) rfl rfl rfl ?_
      refine er_loc (pc' := 8) rfl rfl rfl ?_
      refine er_gf (pc' := 11) (_) rfl rfl rfl rfl rfl ?_
      refine er_k (pc' := 12) (nI 2) rfl rfl rfl ?_
      refine er_ia (pc' := 13) (2) rfl rfl rfl rfl (by omega) rfl rfl ?_
      rw [hI.n]
      refine er_cm_geF (pc' := 16) rfl (nI_lt (by omega) (by omega)) rfl ?_
      refine er_loc (pc' := 17) rfl rfl rfl ?_
      refine er_loc (pc' := 18) rfl rfl rfl ?_
      refine er_k (pc' := 19) (nI 5) rfl rfl rfl ?_
      refine er_cIi (pc' := 22) (rest := []) 12 rfl rfl rfl rfl rfl rfl (l_of5 _ X _ hI (by omega)) ?_
      rw [hwr]
      refine er_k (pc' := 23) (nI 1) rfl rfl rfl ?_
      refine er_cm_neT rfl (by decide +kernel) ?_
      refine er_loc (L' := [(3, .int (_ + nI 1)), (0, _), (1, _), (2, _)]) rfl rfl rfl ?_
      refine er_goto rfl ?_
      refine ER_loc [(0, _), (1, _), (2, _), (3, _)] rfl (List.forall_mem_cons.mpr ⟨rfl, List.forall_mem_cons.mpr ⟨rfl, List.forall_mem_cons.mpr ⟨rfl, List.forall_mem_cons.mpr ⟨rfl, fun _ h => absurd h List.not_mem_nil⟩⟩⟩⟩) rfl rfl ?_
      rw [lk_no (by rw [hwr]; rfl)]
      exact l_rLook_loop d hT9 m (i + 1) X Z _ _ _ hI (by omega) (nI_add i 1)
    | true =>
      refine er_loc (pc' := 7) rfl rfl rfl ?_
      refine er_loc (pc' := 8) rfl rfl rfl ?_
      refine er_gf (pc' := 11) (_) rfl rfl rfl rfl rfl ?_
      refine er_k (pc' := 12) (nI 2) rfl rfl rfl ?_
      refine er_ia (pc' := 13) (2) rfl rfl rfl rfl (by omega) rfl rfl ?_
      rw [hI.n]
      refine er_cm_geF (pc' := 16) rfl (nI_lt (by omega) (by omega)) rfl ?_
      refine er_loc (pc' := 17) rfl rfl rfl ?_
      refine er_loc (pc' := 18) rfl rfl rfl ?_
      refine er_k (pc' := 19) (nI 5) rfl rfl rfl ?_
      refine er_cIi (pc' := 22) (rest := []) 12 rfl rfl rfl rfl rfl rfl (l_of5 _ X _ hI (by omega)) ?_
      rw [hwr]
      refine er_k (pc' := 23) (nI 1) rfl rfl rfl ?_
      refine er_cm_neF (pc' := 26) rfl (by decide +kernel) rfl ?_
      refine er_loc (pc' := 27) rfl rfl rfl ?_
      refine er_loc (pc' := 28) rfl rfl rfl ?_
      refine er_cIi (pc' := 31) (rest := []) 12 rfl rfl rfl rfl rfl rfl (l_rBlocked _ X _ hI (k := i) (by omega)) ?_
      refine er_if_neb (pc' := 34) rfl rfl (fun h31 => ?_) (fun h31 => ?_)
      · refine er_loc (L' := [(3, .int (_ + nI 1)), (0, _), (1, _), (2, _)]) rfl rfl rfl ?_
        refine er_goto rfl ?_
        refine ER_loc [(0, _), (1, _), (2, _), (3, _)] rfl (List.forall_mem_cons.mpr ⟨rfl, List.forall_mem_cons.mpr ⟨rfl, List.forall_mem_cons.mpr ⟨rfl, List.forall_mem_cons.mpr ⟨rfl, fun _ h => absurd h List.not_mem_nil⟩⟩⟩⟩) rfl rfl ?_
        rw [lk_no (by rw [hwr, h31]; rfl)]
        exact l_rLook_loop d hT9 m (i + 1) X Z _ _ _ hI (by omega) (nI_add i 1)
      · refine er_loc (pc' := 35) rfl rfl rfl ?_
        refine er_loc (pc' := 36) rfl rfl rfl ?_
        refine er_cI6 (rest := []) 12 rfl rfl rfl rfl rfl rfl (l_rGoing _ X _ hI (k := i) (by omega) hT9) ?_
        intro X1 Z1 w1
        refine er_loc (pc' := 41) (L' := [(4, _), (0, _), (1, _), (2, _), (3, _)]) rfl rfl rfl ?_
        refine er_loc (pc' := 42) rfl rfl rfl ?_
        refine er_if_lt (pc' := 45) rfl rfl (fun h42 => ?_) (fun h42 => ?_)
        · refine er_k (pc' := 52) (nI 1) rfl rfl rfl ?_
          refine er_goto rfl ?_
          refine er_loc (pc' := 58) (L' := [(5, _), (4, _), (0, _), (1, _), (2, _), (3, _)]) rfl rfl rfl ?_
          refine er_loc (pc' := 60) rfl rfl rfl ?_
          refine er_if_eqF (pc' := 63) rfl (by decide +kernel) rfl ?_
          refine er_loc (pc' := 64) rfl rfl rfl ?_
          refine er_goto rfl ?_
          refine er_loc (pc' := 69) (L' := [(1, _), (5, _), (4, _), (0, _), (2, _), (3, _)]) rfl rfl rfl ?_
          refine er_loc (pc' := 71) rfl rfl rfl ?_
          refine er_if_eqF (pc' := 74) rfl (by decide +kernel) rfl ?_
          refine er_loc (pc' := 76) rfl rfl rfl ?_
          refine er_goto rfl ?_
          refine er_loc (pc' := 81) (L' := [(2, _), (1, _), (5, _), (4, _), (0, _), (3, _)]) rfl rfl rfl ?_
          refine er_loc (L' := [(3, .int (_ + nI 1)), (2, _), (1, _), (5, _), (4, _), (0, _)]) rfl rfl rfl ?_
          refine er_goto rfl ?_
          refine ER_loc [(0, _), (1, _), (2, _), (3, _)] rfl (List.forall_mem_cons.mpr ⟨rfl, List.forall_mem_cons.mpr ⟨rfl, List.forall_mem_cons.mpr ⟨rfl, List.forall_mem_cons.mpr ⟨rfl, fun _ h => absurd h List.not_mem_nil⟩⟩⟩⟩) rfl rfl ?_
          rw [lk_in (by rw [hwr, h31]; rfl) (Or.inl h42)]
          have hj1 : jm (X1 64) = jm (X 64) := by rw [w1 64 (by omega)]
          have ih := l_rLook_loop d hT9 m (i + 1) X1 Z1 (nI i) (sGoM (jm (X 64)) i) _ (by rw [w1 64 (by omega)]; exact hI) (by rw [hj1]; omega) (nI_add i 1)
          rw [hj1] at ih
          exact ih.mono (fun r hr => LkM.tr w1 hr)
        · refine er_loc (pc' := 47) rfl rfl rfl ?_
          refine er_loc (pc' := 48) rfl rfl rfl ?_
          refine er_cm_ge (pc' := 51) rfl rfl (fun h48 => ?_) (fun h48 => ?_)
          · refine er_k (pc' := 56) (nI 0) rfl rfl rfl ?_
            refine er_loc (pc' := 58) (L' := [(5, _), (4, _), (0, _), (1, _), (2, _), (3, _)]) rfl rfl rfl ?_
            refine er_loc (pc' := 60) rfl rfl rfl ?_
            refine er_if_eqT rfl (by decide +kernel) ?_
            refine er_loc (pc' := 68) rfl rfl rfl ?_
            refine er_loc (pc' := 69) (L' := [(1, _), (5, _), (4, _), (0, _), (2, _), (3, _)]) rfl rfl rfl ?_
            refine er_loc (pc' := 71) rfl rfl rfl ?_
            refine er_if_eqT rfl (by decide +kernel) ?_
            refine er_loc (pc' := 80) rfl rfl rfl ?_
            refine er_loc (pc' := 81) (L' := [(2, _), (1, _), (5, _), (4, _), (0, _), (3, _)]) rfl rfl rfl ?_
            refine er_loc (L' := [(3, .int (_ + nI 1)), (2, _), (1, _), (5, _), (4, _), (0, _)]) rfl rfl rfl ?_
            refine er_goto rfl ?_
            refine ER_loc [(0, _), (1, _), (2, _), (3, _)] rfl (List.forall_mem_cons.mpr ⟨rfl, List.forall_mem_cons.mpr ⟨rfl, List.forall_mem_cons.mpr ⟨rfl, List.forall_mem_cons.mpr ⟨rfl, fun _ h => absurd h List.not_mem_nil⟩⟩⟩⟩) rfl rfl ?_
            rw [lk_out (by rw [hwr, h31]; rfl) (fun hh => by rcases hh with hh | hh; exact h42 hh; exact h48 hh)]
            have hj1 : jm (X1 64) = jm (X 64) := by rw [w1 64 (by omega)]
            have ih := l_rLook_loop d hT9 m (i + 1) X1 Z1 f l _ (by rw [w1 64 (by omega)]; exact hI) (by rw [hj1]; omega) (nI_add i 1)
            rw [hj1] at ih
            exact ih.mono (fun r hr => LkM.tr w1 hr)
          · refine er_k (pc' := 52) (nI 1) rfl rfl rfl ?_
            refine er_goto rfl ?_
            refine er_loc (pc' := 58) (L' := [(5, _), (4, _), (0, _), (1, _), (2, _), (3, _)]) rfl rfl rfl ?_
            refine er_loc (pc' := 60) rfl rfl rfl ?_
            refine er_if_eqF (pc' := 63) rfl (by decide +kernel) rfl ?_
            refine er_loc (pc' := 64) rfl rfl rfl ?_
            refine er_goto rfl ?_
            refine er_loc (pc' := 69) (L' := [(1, _), (5, _), (4, _), (0, _), (2, _), (3, _)]) rfl rfl rfl ?_
            refine er_loc (pc' := 71) rfl rfl rfl ?_
            refine er_if_eqF (pc' := 74) rfl (by decide +kernel) rfl ?_
            refine er_loc (pc' := 76) rfl rfl rfl ?_
            refine er_goto rfl ?_
            refine er_loc (pc' := 81) (L' := [(2, _), (1, _), (5, _), (4, _), (0, _), (3, _)]) rfl rfl rfl ?_
            refine er_loc (L' := [(3, .int (_ + nI 1)), (2, _), (1, _), (5, _), (4, _), (0, _)]) rfl rfl rfl ?_
            refine er_goto rfl ?_
            refine ER_loc [(0, _), (1, _), (2, _), (3, _)] rfl (List.forall_mem_cons.mpr ⟨rfl, List.forall_mem_cons.mpr ⟨rfl, List.forall_mem_cons.mpr ⟨rfl, List.forall_mem_cons.mpr ⟨rfl, fun _ h => absurd h List.not_mem_nil⟩⟩⟩⟩) rfl rfl ?_
            rw [lk_in (by rw [hwr, h31]; rfl) (Or.inr h48)]
            have hj1 : jm (X1 64) = jm (X 64) := by rw [w1 64 (by omega)]
            have ih := l_rLook_loop d hT9 m (i + 1) X1 Z1 (nI i) (sGoM (jm (X 64)) i) _ (by rw [w1 64 (by omega)]; exact hI) (by rw [hj1]; omega) (nI_add i 1)
            rw [hj1] at ih
            exact ih.mono (fun r hr => LkM.tr w1 hr)
set_option maxRecDepth 100000 in
set_option maxHeartbeats 4000000 in
theorem l_rLookAt (d : Nat) (X Z : Nat → Nat → Int32) {T : Nat} (hI : RK T (X 64)) (hT9 : T < 1000000) : EC (d + 8) 194 [.ref 63] (Wd X Z) (LkM X (lkF (jm (X 64)) (jn (jm (X 64))) 0 (-1) (nI 0))) := by
  refine er_enter (L := [(0, _)]) rfl rfl rfl ?_
  refine er_k (pc' := 1) (-1) rfl rfl rfl ?_
  refine er_loc (pc' := 2) (L' := [(1, _), (0, _)]) rfl rfl rfl ?_
  refine er_k (pc' := 3) (nI 0) rfl rfl rfl ?_
  refine er_loc (pc' := 4) (L' := [(2, _), (1, _), (0, _)]) rfl rfl rfl ?_
  refine er_k (pc' := 5) (nI 0) rfl rfl rfl ?_
  refine er_loc (pc' := 6) (L' := [(3, _), (2, _), (1, _), (0, _)]) rfl rfl rfl ?_
  refine ER_loc [(0, _), (1, _), (2, _), (3, _)] rfl (List.forall_mem_cons.mpr ⟨rfl, List.forall_mem_cons.mpr ⟨rfl, List.forall_mem_cons.mpr ⟨rfl, List.forall_mem_cons.mpr ⟨rfl, fun _ h => absurd h List.not_mem_nil⟩⟩⟩⟩) rfl rfl ?_
  exact l_rLook_loop d hT9 (jn (jm (X 64))) 0 X Z _ _ _ hI (by omega) rfl
set_option maxRecDepth 100000 in
set_option maxHeartbeats 4000000 in
theorem l_rSum_loop (d : Nat) (X Z : Nat → Nat → Int32) {T : Nat} (hI : RK T (X 64)) (q : Int32) : ∀ (m i : Nat) (x : Int32) (v : Int32), i + m = jn (jm (X 64)) → x = nI i → v = sSum (jm (X 64)) q i → ER (d + 1) tb_m193 4 [(0, .ref 63), (1, .int q), (2, .int v), (3, .int x)] [] (Wd X Z) (PI (sSum (jm (X 64)) q (jn (jm (X 64)))) (Wd X Z))
  | 0, i, x, v, hi, h0, h1 => by
    have hi0 : i = jn (jm (X 64)) := by omega
    subst h0
    subst h1
    have h8 := jn8 hI.ij
    subst hi0
    refine er_loc (pc' := 5) rfl rfl rfl ?_
    refine er_loc (pc' := 6) rfl rfl rfl ?_
    refine er_gf (pc' := 9) (_) rfl rfl rfl rfl rfl ?_
    refine er_k (pc' := 10) (nI 2) rfl rfl rfl ?_
    refine er_ia (pc' := 11) (2) rfl rfl rfl rfl (by omega) rfl rfl ?_
    rw [hI.n]
    refine er_cm_geT rfl (nI_nlt (by omega) (by omega)) ?_
    refine er_loc (pc' := 43) rfl rfl rfl ?_
    refine er_iret rfl rfl ?_
    exact PI_of rfl
  | m + 1, i, x, v, hi, h0, h1 => by
    subst h0
    subst h1
    have h8 := jn8 hI.ij
    refine er_loc (pc' := 5) rfl rfl rfl ?_
    refine er_loc (pc' := 6) rfl rfl rfl ?_
    refine er_gf (pc' := 9) (_) rfl rfl rfl rfl rfl ?_
    refine er_k (pc' := 10) (nI 2) rfl rfl rfl ?_
    refine er_ia (pc' := 11) (2) rfl rfl rfl rfl (by omega) rfl rfl ?_
    rw [hI.n]
    refine er_cm_geF (pc' := 14) rfl (nI_lt (by omega) (by omega)) rfl ?_
    refine er_loc (pc' := 15) rfl rfl rfl ?_
    refine er_loc (pc' := 16) rfl rfl rfl ?_
    refine er_loc (pc' := 17) rfl rfl rfl ?_
    refine er_ishr (pc' := 18) rfl rfl ?_
    refine er_k (pc' := 19) (nI 1) rfl rfl rfl ?_
    refine er_iand (pc' := 20) rfl rfl ?_
    refine er_k (pc' := 21) (nI 1) rfl rfl rfl ?_
    refine er_cm_ne (pc' := 24) rfl rfl (fun h21 => ?_) (fun h21 => ?_)
    · refine er_k (pc' := 34) (nI 0) rfl rfl rfl ?_
      refine er_iadd rfl rfl ?_
      refine er_loc (L' := [(2, _), (0, _), (1, _), (3, _)]) rfl rfl rfl ?_
      refine er_loc (L' := [(3, .int (_ + nI 1)), (2, _), (0, _), (1, _)]) rfl rfl rfl ?_
      refine er_goto rfl ?_
      refine ER_loc [(0, _), (1, _), (2, _), (3, _)] rfl (List.forall_mem_cons.mpr ⟨rfl, List.forall_mem_cons.mpr ⟨rfl, List.forall_mem_cons.mpr ⟨rfl, List.forall_mem_cons.mpr ⟨rfl, fun _ h => absurd h List.not_mem_nil⟩⟩⟩⟩) rfl rfl ?_
      refine l_rSum_loop d X Z hI q m (i + 1) _ _ (by omega) (nI_add i 1) ?_
      show _ = _ + (if _ then _ else _)
      rw [if_neg (fun hh => h21 ((sar_bt (by omega)).mpr (by rw [sBit_bt (by omega)] at hh; exact hh)))]
    · refine er_loc (pc' := 25) rfl rfl rfl ?_
      refine er_loc (pc' := 26) rfl rfl rfl ?_
      refine er_k (pc' := 27) (nI 2) rfl rfl rfl ?_
      refine er_cIi (pc' := 30) (rest := [_]) 12 rfl rfl rfl rfl rfl rfl (l_of2 _ X _ (by omega)) ?_
      refine er_goto rfl ?_
      refine er_iadd rfl rfl ?_
      refine er_loc (L' := [(2, _), (0, _), (1, _), (3, _)]) rfl rfl rfl ?_
      refine er_loc (L' := [(3, .int (_ + nI 1)), (2, _), (0, _), (1, _)]) rfl rfl rfl ?_
      refine er_goto rfl ?_
      refine ER_loc [(0, _), (1, _), (2, _), (3, _)] rfl (List.forall_mem_cons.mpr ⟨rfl, List.forall_mem_cons.mpr ⟨rfl, List.forall_mem_cons.mpr ⟨rfl, List.forall_mem_cons.mpr ⟨rfl, fun _ h => absurd h List.not_mem_nil⟩⟩⟩⟩) rfl rfl ?_
      refine l_rSum_loop d X Z hI q m (i + 1) _ _ (by omega) (nI_add i 1) ?_
      show _ = _ + (if _ then _ else _)
      rw [if_pos (by rw [sBit_bt (by omega)]; exact (sar_bt (by omega)).mp h21)]
set_option maxRecDepth 100000 in
set_option maxHeartbeats 4000000 in
theorem l_rScrewsOf (d : Nat) (X Z : Nat → Nat → Int32) {T : Nat} (hI : RK T (X 64)) (q : Int32) : EC (d + 2) 193 [.ref 63, .int q] (Wd X Z) (PI (sSum (jm (X 64)) q (jn (jm (X 64)))) (Wd X Z)) := by
  refine er_enter (L := [(0, _), (1, _)]) rfl rfl rfl ?_
  refine er_k (pc' := 1) (nI 0) rfl rfl rfl ?_
  refine er_loc (pc' := 2) (L' := [(2, _), (0, _), (1, _)]) rfl rfl rfl ?_
  refine er_k (pc' := 3) (nI 0) rfl rfl rfl ?_
  refine er_loc (pc' := 4) (L' := [(3, _), (2, _), (0, _), (1, _)]) rfl rfl rfl ?_
  refine ER_loc [(0, _), (1, _), (2, _), (3, _)] rfl (List.forall_mem_cons.mpr ⟨rfl, List.forall_mem_cons.mpr ⟨rfl, List.forall_mem_cons.mpr ⟨rfl, List.forall_mem_cons.mpr ⟨rfl, fun _ h => absurd h List.not_mem_nil⟩⟩⟩⟩) rfl rfl ?_
  exact l_rSum_loop d X Z hI q (jn (jm (X 64))) 0 _ _ (by omega) rfl rfl
def WhM (X : Nat → Nat → Int32) (w : Int32) (q : Int32 × Int32) : ab_R → Prop := fun r => if w = 0 then RI q.1 X r else if q.2 < 0 then RI (sErr 2) (yErr X 2) r else RI q.2 X r
theorem wh_y {J : Nat → Nat → Int32} {q f l : Int32} {s : Nat} (h : (nI s &&& (J 0 6 ^^^ (-1))) = 0 ∧ sSum J (nI s) (jn J) = q) : wh J q (s + 1) f l = wh J q s (f + nI 1) (nI s) := if_pos h
theorem wh_n {J : Nat → Nat → Int32} {q f l : Int32} {s : Nat} (h : ¬ ((nI s &&& (J 0 6 ^^^ (-1))) = 0 ∧ sSum J (nI s) (jn J) = q)) : wh J q (s + 1) f l = wh J q s f l := if_neg h
theorem sub_le {s d : Nat} (hs : s < 256) (h : (nI s &&& (nI d ^^^ (-1))) = 0) : s ≤ d := by
  have h1 := sub_iff.mp h
  have e : s &&& d = s := by
    apply Nat.eq_of_testBit_eq
    intro i
    rw [Nat.testBit_and]
    cases hb : s.testBit i with
    | false => rfl
    | true =>
      have hi : i < 32 := by
        rcases Nat.lt_or_ge i 32 with h2 | h2
        · exact h2
        · have h3 : s < 2 ^ i := Nat.lt_of_lt_of_le (show s < 2 ^ 32 by omega) (Nat.pow_le_pow_right (by omega) h2)
          rw [Nat.testBit_lt_two_pow h3] at hb
          cases hb
      have h4 := h1 i (by rw [bt_nI, decide_eq_true hi, hb]; rfl)
      rw [bt_nI, decide_eq_true hi, Bool.true_and] at h4
      rw [h4]; rfl
  have := @Nat.and_le_right s d
  omega
theorem wh_skip {J : Nat → Nat → Int32} {q f l : Int32} {d : Nat} (hd : J 0 6 = nI d) : ∀ t, d + 1 + t ≤ 256 → wh J q (d + 1 + t) f l = wh J q (d + 1) f l
  | 0, _ => rfl
  | t + 1, h => by
    rw [show d + 1 + (t + 1) = (d + 1 + t) + 1 by omega, wh_n (fun hh => by rw [hd] at hh; have := sub_le (by omega) hh.1; omega)]
    exact wh_skip hd t (by omega)
set_option maxRecDepth 100000 in
set_option maxHeartbeats 4000000 in
theorem l_rWhose_loop (d : Nat) (X Z : Nat → Nat → Int32) {T : Nat} (hI : RK T (X 64)) (q w : Int32) : ∀ (m : Nat) (f l x : Int32), x = nI m - nI 1 → m ≤ 256 → ER (d + 2) tb_m192 40 [(0, .ref 63), (1, .int q), (2, .int w), (3, .int (jm (X 64) 0 6)), (4, .int f), (5, .int l), (6, .int x)] [] (Wd X Z) (WhM X w (wh (jm (X 64)) q m f l))
  | 0, f, l, x, hx, hm => by
    subst hx
    refine er_loc (pc' := 42) rfl rfl rfl ?_
    refine er_if_ltT rfl (nIs_lt (s := 0)) ?_
    refine er_loc (pc' := 107) rfl rfl rfl ?_
    refine er_if_ne (pc' := 110) rfl rfl (fun h107 => ?_) (fun h107 => ?_)
    · refine er_loc (pc' := 117) rfl rfl rfl ?_
      refine er_if_ge (pc' := 120) rfl rfl (fun h117 => ?_) (fun h117 => ?_)
      · refine er_loc rfl rfl rfl ?_
        refine er_iret rfl rfl ?_
        show WhM X w (f, l) _
        unfold WhM
        rw [if_neg h107, if_neg h117]
        exact RI_of rfl rfl
      · refine er_loc (pc' := 121) rfl rfl rfl ?_
        refine er_ldc (pc' := 123) (-1000000002) rfl rfl rfl rfl rfl ?_
        refine er_cIz (pc' := 126) (rest := []) 12 rfl rfl rfl rfl rfl rfl (l_rError2 _ _ _) ?_
        intro Z9
        refine er_goto rfl ?_
        refine er_iret rfl rfl ?_
        show WhM X w (f, l) _
        unfold WhM
        rw [if_neg h107, if_pos h117]
        exact RI_of rfl rfl
    · refine er_loc rfl rfl rfl ?_
      refine er_goto rfl ?_
      refine er_iret rfl rfl ?_
      show WhM X w (f, l) _
      unfold WhM
      rw [if_pos h107]
      exact RI_of rfl rfl
  | m + 1, f, l, x, hx, hm => by
    rw [nI_s1] at hx
    subst hx
    refine er_loc (pc' := 42) rfl rfl rfl ?_
    refine er_if_ltF (pc' := 45) rfl (nI_pos (by omega)) rfl ?_
    refine er_loc (pc' := 47) rfl rfl rfl ?_
    refine er_loc (pc' := 48) rfl rfl rfl ?_
    refine er_k (pc' := 49) (-1) rfl rfl rfl ?_
    refine er_ixor (pc' := 50) rfl rfl ?_
    refine er_iand (pc' := 51) rfl rfl ?_
    refine er_if_ne (pc' := 54) rfl rfl (fun h51 => ?_) (fun h51 => ?_)
    · refine er_k (pc' := 69) (nI 0) rfl rfl rfl ?_
      refine er_loc (pc' := 71) (L' := [(7, _), (0, _), (1, _), (2, _), (3, _), (4, _), (5, _), (6, _)]) rfl rfl rfl ?_
      refine er_loc (pc' := 73) rfl rfl rfl ?_
      refine er_loc (pc' := 75) rfl rfl rfl ?_
      refine er_if_eqT rfl (by decide +kernel) ?_
      refine er_k (pc' := 83) (nI 0) rfl rfl rfl ?_
      refine er_iadd (pc' := 84) rfl rfl ?_
      refine er_loc (pc' := 86) (L' := [(4, _), (7, _), (0, _), (1, _), (2, _), (3, _), (5, _), (6, _)]) rfl rfl rfl ?_
      refine er_loc (pc' := 88) rfl rfl rfl ?_
      refine er_if_eqT rfl (by decide +kernel) ?_
      refine er_loc (pc' := 98) rfl rfl rfl ?_
      refine er_loc (pc' := 100) (L' := [(5, _), (4, _), (7, _), (0, _), (1, _), (2, _), (3, _), (6, _)]) rfl rfl rfl ?_
      refine er_loc (L' := [(6, .int (_ + (-1))), (5, _), (4, _), (7, _), (0, _), (1, _), (2, _), (3, _)]) rfl rfl rfl ?_
      refine er_goto rfl ?_
      refine ER_loc [(0, _), (1, _), (2, _), (3, _), (4, _), (5, _), (6, _)] rfl (List.forall_mem_cons.mpr ⟨rfl, List.forall_mem_cons.mpr ⟨rfl, List.forall_mem_cons.mpr ⟨rfl, List.forall_mem_cons.mpr ⟨rfl, List.forall_mem_cons.mpr ⟨rfl, List.forall_mem_cons.mpr ⟨rfl, List.forall_mem_cons.mpr ⟨rfl, fun _ h => absurd h List.not_mem_nil⟩⟩⟩⟩⟩⟩⟩) rfl rfl ?_
      rw [wh_n (fun hh => h51 hh.1)]
      rw [show f + nI 0 = f from Int32.add_zero f]
      exact l_rWhose_loop d X Z hI q w m _ _ _ (nI_addm1s m) (by omega)
    · refine er_loc (pc' := 55) rfl rfl rfl ?_
      refine er_loc (pc' := 57) rfl rfl rfl ?_
      refine er_cIi (pc' := 60) (rest := []) 12 rfl rfl rfl rfl rfl rfl (l_rScrewsOf _ X _ hI _) ?_
      refine er_loc (pc' := 61) rfl rfl rfl ?_
      refine er_cm_ne (pc' := 64) rfl rfl (fun h61 => ?_) (fun h61 => ?_)
      · refine er_k (pc' := 69) (nI 0) rfl rfl rfl ?_
        refine er_loc (pc' := 71) (L' := [(7, _), (0, _), (1, _), (2, _), (3, _), (4, _), (5, _), (6, _)]) rfl rfl rfl ?_
        refine er_loc (pc' := 73) rfl rfl rfl ?_
        refine er_loc (pc' := 75) rfl rfl rfl ?_
        refine er_if_eqT rfl (by decide +kernel) ?_
        refine er_k (pc' := 83) (nI 0) rfl rfl rfl ?_
        refine er_iadd (pc' := 84) rfl rfl ?_
        refine er_loc (pc' := 86) (L' := [(4, _), (7, _), (0, _), (1, _), (2, _), (3, _), (5, _), (6, _)]) rfl rfl rfl ?_
        refine er_loc (pc' := 88) rfl rfl rfl ?_
        refine er_if_eqT rfl (by decide +kernel) ?_
        refine er_loc (pc' := 98) rfl rfl rfl ?_
        refine er_loc (pc' := 100) (L' := [(5, _), (4, _), (7, _), (0, _), (1, _), (2, _), (3, _), (6, _)]) rfl rfl rfl ?_
        refine er_loc (L' := [(6, .int (_ + (-1))), (5, _), (4, _), (7, _), (0, _), (1, _), (2, _), (3, _)]) rfl rfl rfl ?_
        refine er_goto rfl ?_
        refine ER_loc [(0, _), (1, _), (2, _), (3, _), (4, _), (5, _), (6, _)] rfl (List.forall_mem_cons.mpr ⟨rfl, List.forall_mem_cons.mpr ⟨rfl, List.forall_mem_cons.mpr ⟨rfl, List.forall_mem_cons.mpr ⟨rfl, List.forall_mem_cons.mpr ⟨rfl, List.forall_mem_cons.mpr ⟨rfl, List.forall_mem_cons.mpr ⟨rfl, fun _ h => absurd h List.not_mem_nil⟩⟩⟩⟩⟩⟩⟩) rfl rfl ?_
        rw [wh_n (fun hh => h61 hh.2)]
        rw [show f + nI 0 = f from Int32.add_zero f]
        exact l_rWhose_loop d X Z hI q w m _ _ _ (nI_addm1s m) (by omega)
      · refine er_k (pc' := 65) (nI 1) rfl rfl rfl ?_
        refine er_goto rfl ?_
        refine er_loc (pc' := 71) (L' := [(7, _), (0, _), (1, _), (2, _), (3, _), (4, _), (5, _), (6, _)]) rfl rfl rfl ?_
        refine er_loc (pc' := 73) rfl rfl rfl ?_
        refine er_loc (pc' := 75) rfl rfl rfl ?_
        refine er_if_eqF (pc' := 78) rfl (by decide +kernel) rfl ?_
        refine er_k (pc' := 79) (nI 1) rfl rfl rfl ?_
        refine er_goto rfl ?_
        refine er_iadd (pc' := 84) rfl rfl ?_
        refine er_loc (pc' := 86) (L' := [(4, _), (7, _), (0, _), (1, _), (2, _), (3, _), (5, _), (6, _)]) rfl rfl rfl ?_
        refine er_loc (pc' := 88) rfl rfl rfl ?_
        refine er_if_eqF (pc' := 91) rfl (by decide +kernel) rfl ?_
        refine er_loc (pc' := 93) rfl rfl rfl ?_
        refine er_goto rfl ?_
        refine er_loc (pc' := 100) (L' := [(5, _), (4, _), (7, _), (0, _), (1, _), (2, _), (3, _), (6, _)]) rfl rfl rfl ?_
        refine er_loc (L' := [(6, .int (_ + (-1))), (5, _), (4, _), (7, _), (0, _), (1, _), (2, _), (3, _)]) rfl rfl rfl ?_
        refine er_goto rfl ?_
        refine ER_loc [(0, _), (1, _), (2, _), (3, _), (4, _), (5, _), (6, _)] rfl (List.forall_mem_cons.mpr ⟨rfl, List.forall_mem_cons.mpr ⟨rfl, List.forall_mem_cons.mpr ⟨rfl, List.forall_mem_cons.mpr ⟨rfl, List.forall_mem_cons.mpr ⟨rfl, List.forall_mem_cons.mpr ⟨rfl, List.forall_mem_cons.mpr ⟨rfl, fun _ h => absurd h List.not_mem_nil⟩⟩⟩⟩⟩⟩⟩) rfl rfl ?_
        rw [wh_y ⟨h51, h61⟩]
        exact l_rWhose_loop d X Z hI q w m _ _ _ (nI_addm1s m) (by omega)
set_option maxRecDepth 100000 in
set_option maxHeartbeats 4000000 in
theorem l_rWhose (d : Nat) (X Z : Nat → Nat → Int32) {T : Nat} (hI : RK T (X 64)) (q w : Int32) : EC (d + 3) 192 [.ref 63, .int q, .int w] (Wd X Z) (fun r => if (sIn q (nI 0) (nI 99) && sIn w (nI 0) (nI 1)) = true then WhM X w (sWh (jm (X 64)) q) r else RI (sErr 1) (yErr X 1) r) := by
  refine er_enter (L := [(0, _), (1, _), (2, _)]) rfl rfl rfl ?_
  refine er_loc (pc' := 1) rfl rfl rfl ?_
  refine er_k (pc' := 2) (nI 0) rfl rfl rfl ?_
  refine er_k (pc' := 4) (nI 99) rfl rfl rfl ?_
  refine er_cSi (pc' := 7) (rest := []) rfl rfl rfl (l_in _ _ _ _ _) ?_
  refine er_if_eqb (pc' := 10) rfl rfl (fun h7 => ?_) (fun h7 => ?_)
  · refine er_loc (pc' := 20) rfl rfl rfl ?_
    refine er_ldc (pc' := 22) (-1000000001) rfl rfl rfl rfl rfl ?_
    refine er_cIz (pc' := 25) (rest := []) 12 rfl rfl rfl rfl rfl rfl (l_rError1 _ _ _) ?_
    intro Z9
    refine er_iret rfl rfl ?_
    rw [if_neg (by rw [h7]; simp)]
    exact RI_of rfl rfl
  · refine er_loc (pc' := 11) rfl rfl rfl ?_
    refine er_k (pc' := 12) (nI 0) rfl rfl rfl ?_
    refine er_k (pc' := 13) (nI 1) rfl rfl rfl ?_
    refine er_cSi (pc' := 16) (rest := []) rfl rfl rfl (l_in _ _ _ _ _) ?_
    refine er_if_neb (pc' := 19) rfl rfl (fun h16 => ?_) (fun h16 => ?_)
    · refine er_loc (pc' := 27) rfl rfl rfl ?_
      refine er_cIi (pc' := 30) (rest := []) 12 rfl rfl rfl rfl rfl rfl (l_rDone _ X _ (n := jn (jm (X 64))) hI.n hI.n8) ?_
      rw [show rB (X 64) 11 (jn (jm (X 64))) = jm (X 64) 0 6 from rfl]
      refine er_loc (pc' := 31) (L' := [(3, _), (0, _), (1, _), (2, _)]) rfl rfl rfl ?_
      refine er_k (pc' := 32) (nI 0) rfl rfl rfl ?_
      refine er_loc (pc' := 34) (L' := [(4, _), (3, _), (0, _), (1, _), (2, _)]) rfl rfl rfl ?_
      refine er_k (pc' := 35) (-1) rfl rfl rfl ?_
      refine er_loc (pc' := 37) (L' := [(5, _), (4, _), (3, _), (0, _), (1, _), (2, _)]) rfl rfl rfl ?_
      refine er_loc (pc' := 38) rfl rfl rfl ?_
      refine er_loc (pc' := 40) (L' := [(6, _), (5, _), (4, _), (3, _), (0, _), (1, _), (2, _)]) rfl rfl rfl ?_
      refine ER_loc [(0, _), (1, _), (2, _), (3, _), (4, _), (5, _), (6, _)] rfl (List.forall_mem_cons.mpr ⟨rfl, List.forall_mem_cons.mpr ⟨rfl, List.forall_mem_cons.mpr ⟨rfl, List.forall_mem_cons.mpr ⟨rfl, List.forall_mem_cons.mpr ⟨rfl, List.forall_mem_cons.mpr ⟨rfl, List.forall_mem_cons.mpr ⟨rfl, fun _ h => absurd h List.not_mem_nil⟩⟩⟩⟩⟩⟩⟩) rfl rfl ?_
      have h8 := jn8 hI.ij
      obtain ⟨e, he, hd⟩ := set_n h8 hI.ij.done
      have hp := pow_le h8
      have h2 : wh (jm (X 64)) q (2 ^ jn (jm (X 64))) (nI 0) (-1) = wh (jm (X 64)) q (e + 1) (nI 0) (-1) := by
        have := wh_skip (q := q) (f := nI 0) (l := -1) hd (2 ^ jn (jm (X 64)) - (e + 1)) (by omega)
        rwa [show e + 1 + (2 ^ jn (jm (X 64)) - (e + 1)) = 2 ^ jn (jm (X 64)) by omega] at this
      refine ER.mono (l_rWhose_loop d X Z hI q w (e + 1) (nI 0) (-1) _ (by rw [nI_s1, hd]) (by omega)) (fun r hr => ?_)
      rw [if_pos (by rw [h7, h16]; rfl)]
      unfold sWh
      rw [h2]
      exact hr
    · refine er_loc (pc' := 20) rfl rfl rfl ?_
      refine er_ldc (pc' := 22) (-1000000001) rfl rfl rfl rfl rfl ?_
      refine er_cIz (pc' := 25) (rest := []) 12 rfl rfl rfl rfl rfl rfl (l_rError1 _ _ _) ?_
      intro Z9
      refine er_iret rfl rfl ?_
      rw [if_neg (by rw [h16]; simp)]
      exact RI_of rfl rfl
