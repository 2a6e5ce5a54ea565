/-! THE FACE: whose, all, check, image, restore -/
def wh (J : Nat → Nat → Int32) (q : Int32) : Nat → Int32 → Int32 → Int32 × Int32
  | 0, f, l => (f, l)
  | s + 1, f, l => if (nI s &&& (J 0 6 ^^^ (-1))) = 0 ∧ sSum J (nI s) (jn J) = q then wh J q s (f + nI 1) (nI s) else wh J q s f l
def sWh (J : Nat → Nat → Int32) (q : Int32) : Int32 × Int32 := wh J q (2 ^ jn J) (nI 0) (-1)
def WhP (X : Nat → Nat → Int32) (w : Int32) (q : Int32 × Int32) : ab_R → Prop := fun r => if w = 0 then RI q.1 X r else if q.2 < 0 then RI (sErr 2) (xErr X 2) r else RI q.2 X r
theorem nIs_lt {s : Nat} : nI 0 - nI 1 < 0 := by decide +kernel
theorem pow_nI {n : Nat} (h : n ≤ 8) : nI 1 <<< (nI n &&& 31) - nI 1 = nI (2 ^ n) - nI 1 := fin_le (m := 8) (p := fun n => nI 1 <<< (nI n &&& 31) - nI 1 = nI (2 ^ n) - nI 1) h (by decide +kernel)
theorem pow_le {n : Nat} (h : n ≤ 8) : 2 ^ n ≤ 256 := Nat.pow_le_pow_right (by omega) h
set_option maxRecDepth 100000 in
set_option maxHeartbeats 4000000 in
theorem l_whose_loop (d : Nat) {X Z : Nat → Nat → Int32} {T : Nat} (hI : IJ T (jx X 9)) (q w : Int32) (P : ab_R → Prop) : ∀ (s : Nat) (f l x : Int32), x = nI s - nI 1 → s ≤ 256 → (∀ r, WhP X w (wh (jx X 9) q s f l) r → P r) → ER (d + 2) tb_m103 43 [(0, .ref 0), (1, .int q), (2, .int w), (3, .int f), (4, .int l), (5, .int x)] [] (Wd X Z) P
  | 0, f, l, x, hx, hs, hP => by
    subst hx
    refine er_loc (pc' := 45) rfl rfl rfl ?_
    refine er_if_ltT rfl (by decide +kernel) ?_
    refine er_loc (pc' := 90) rfl rfl rfl ?_
    refine er_if_ne (pc' := 93) rfl rfl (fun h90 => ?_) (fun h90 => ?_)
    · refine er_loc (pc' := 97) rfl rfl rfl ?_
      refine er_if_lt (pc' := 100) rfl rfl (fun h97 => ?_) (fun h97 => ?_)
      · refine er_loc (pc' := 106) rfl rfl rfl ?_
        refine er_k (pc' := 107) (nI 2) rfl rfl rfl ?_
        refine er_cIz (pc' := 110) (rest := []) 11 rfl rfl rfl rfl rfl rfl (l_error _ _ _ 2 (by decide)) ?_
        intro Z9
        refine er_iret rfl rfl ?_
        apply hP
        show WhP X w (f, l) _
        unfold WhP
        rw [if_neg h90, if_pos h97]
        exact RI_of rfl rfl
      · refine er_loc (pc' := 102) rfl rfl rfl ?_
        refine er_goto rfl ?_
        refine er_iret rfl rfl ?_
        apply hP
        show WhP X w (f, l) _
        unfold WhP
        rw [if_neg h90, if_neg h97]
        exact RI_of rfl rfl
    · refine er_loc (pc' := 94) rfl rfl rfl ?_
      refine er_iret rfl rfl ?_
      apply hP
      show WhP X w (f, l) _
      unfold WhP
      rw [if_pos h90]
      exact RI_of rfl rfl
  | s + 1, f, l, x, hx, hs, hP => by
    rw [nI_s1] at hx
    subst hx
    refine er_loc (pc' := 45) rfl rfl rfl ?_
    refine er_if_ltF (pc' := 48) rfl (nI_pos (by omega)) rfl ?_
    refine er_loc (pc' := 50) rfl rfl rfl ?_
    refine er_loc (pc' := 51) rfl rfl rfl ?_
    refine er_gf (pc' := 54) (_) rfl rfl rfl rfl rfl ?_
    refine er_gf (pc' := 57) (.int (X 9 6)) rfl rfl rfl rfl rfl ?_
    refine er_k (pc' := 58) (-1) rfl rfl rfl ?_
    refine er_ixor (pc' := 59) rfl rfl ?_
    refine er_iand (pc' := 60) rfl rfl ?_
    refine er_if_ne (pc' := 63) rfl rfl (fun h60 => ?_) (fun h60 => ?_)
    · refine er_loc (L' := [(5, .int (_ + (-1))), (0, _), (1, _), (2, _), (3, _), (4, _)]) rfl rfl rfl ?_
      refine er_goto rfl ?_
      refine ER_loc [(0, _), (1, _), (2, _), (3, _), (4, _), (5, _)] rfl (List.forall_mem_cons.mpr ⟨rfl, List.forall_mem_cons.mpr ⟨rfl, List.forall_mem_cons.mpr ⟨rfl, List.forall_mem_cons.mpr ⟨rfl, List.forall_mem_cons.mpr ⟨rfl, List.forall_mem_cons.mpr ⟨rfl, fun _ h => absurd h List.not_mem_nil⟩⟩⟩⟩⟩⟩) rfl rfl ?_
      refine l_whose_loop d hI q w P s _ _ _ (by rw [Int32.sub_eq_add_neg]; rfl) (by omega) ?_
      have e2 : wh (jx X 9) q (s + 1) f l = wh (jx X 9) q s f l := by
        show (if _ then _ else _) = _
        rw [if_neg (fun c => h60 c.1)]
      rw [← e2]
      exact hP
    · refine er_loc (pc' := 64) rfl rfl rfl ?_
      refine er_gf (pc' := 67) (_) rfl rfl rfl rfl rfl ?_
      refine er_loc (pc' := 69) rfl rfl rfl ?_
      refine er_cIi (pc' := 72) (rest := []) 7 rfl rfl rfl rfl rfl rfl (l_screwsOf _ j9 _ _ hI _) ?_
      refine er_loc (pc' := 73) rfl rfl rfl ?_
      refine er_cm_ne (pc' := 76) rfl rfl (fun h73 => ?_) (fun h73 => ?_)
      · refine er_loc (L' := [(5, .int (_ + (-1))), (0, _), (1, _), (2, _), (3, _), (4, _)]) rfl rfl rfl ?_
        refine er_goto rfl ?_
        refine ER_loc [(0, _), (1, _), (2, _), (3, _), (4, _), (5, _)] rfl (List.forall_mem_cons.mpr ⟨rfl, List.forall_mem_cons.mpr ⟨rfl, List.forall_mem_cons.mpr ⟨rfl, List.forall_mem_cons.mpr ⟨rfl, List.forall_mem_cons.mpr ⟨rfl, List.forall_mem_cons.mpr ⟨rfl, fun _ h => absurd h List.not_mem_nil⟩⟩⟩⟩⟩⟩) rfl rfl ?_
        refine l_whose_loop d hI q w P s _ _ _ (by rw [Int32.sub_eq_add_neg]; rfl) (by omega) ?_
        have e2 : wh (jx X 9) q (s + 1) f l = wh (jx X 9) q s f l := by
          show (if _ then _ else _) = _
          rw [if_neg (fun c => h73 c.2)]
        rw [← e2]
        exact hP
      · refine er_loc (pc' := 79) (L' := [(3, .int (_ + nI 1)), (0, _), (1, _), (2, _), (4, _), (5, _)]) rfl rfl rfl ?_
        refine er_loc (pc' := 81) rfl rfl rfl ?_
        refine er_loc (pc' := 83) (L' := [(4, _), (3, _), (0, _), (1, _), (2, _), (5, _)]) rfl rfl rfl ?_
        refine er_loc (L' := [(5, .int (_ + (-1))), (4, _), (3, _), (0, _), (1, _), (2, _)]) rfl rfl rfl ?_
        refine er_goto rfl ?_
        refine ER_loc [(0, _), (1, _), (2, _), (3, _), (4, _), (5, _)] rfl (List.forall_mem_cons.mpr ⟨rfl, List.forall_mem_cons.mpr ⟨rfl, List.forall_mem_cons.mpr ⟨rfl, List.forall_mem_cons.mpr ⟨rfl, List.forall_mem_cons.mpr ⟨rfl, List.forall_mem_cons.mpr ⟨rfl, fun _ h => absurd h List.not_mem_nil⟩⟩⟩⟩⟩⟩) rfl rfl ?_
        refine l_whose_loop d hI q w P s _ _ _ (by rw [Int32.sub_eq_add_neg]; rfl) (by omega) ?_
        have e2 : wh (jx X 9) q (s + 1) f l = wh (jx X 9) q s (f + nI 1) (nI s) := by
          show (if _ then _ else _) = _
          rw [if_pos ⟨by rw [show jx X 9 0 6 = X 9 6 from rfl]; exact h60, h73⟩]
        rw [← e2]
        exact hP
set_option maxRecDepth 100000 in
set_option maxHeartbeats 4000000 in
theorem l_whose (d : Nat) (X Z : Nat → Nat → Int32) {T : Nat} (hI : IJ T (jx X 9)) (q w : Int32) : EC (d + 3) 103 [.ref 0, .int q, .int w] (Wd X Z) (fun r => if (sIn q (nI 0) (nI 99) && sIn w (nI 0) (nI 1)) = true then WhP X w (sWh (jx X 9) q) r else RI (sErr 1) (xErr X 1) r) := by
  refine er_enter (L := [(0, _), (1, _), (2, _)]) rfl rfl rfl ?_
  have h8 := jn8 hI
  refine er_loc (pc' := 1) rfl rfl rfl ?_
  refine er_k (pc' := 2) (nI 0) rfl rfl rfl ?_
  refine er_k (pc' := 4) (nI 99) rfl rfl rfl ?_
  refine er_cSi (pc' := 7) (rest := []) rfl rfl rfl (l_within _ _ _ _ _) ?_
  refine er_if_eqb (pc' := 10) rfl rfl (fun h7 => ?_) (fun h7 => ?_)
  · refine er_loc (pc' := 20) rfl rfl rfl ?_
    refine er_k (pc' := 21) (nI 1) rfl rfl rfl ?_
    refine er_cIz (pc' := 24) (rest := []) 11 rfl rfl rfl rfl rfl rfl (l_error _ _ _ 1 (by decide)) ?_
    intro Z9
    refine er_iret rfl rfl ?_
    rw [if_neg (by first | (rw [h7]; simp; done) | (rw [h7, h16]; simp; done))]
    exact RI_of rfl rfl
  · refine er_loc (pc' := 11) rfl rfl rfl ?_
    refine er_k (pc' := 12) (nI 0) rfl rfl rfl ?_
    refine er_k (pc' := 13) (nI 1) rfl rfl rfl ?_
    refine er_cSi (pc' := 16) (rest := []) rfl rfl rfl (l_within _ _ _ _ _) ?_
    refine er_if_neb (pc' := 19) rfl rfl (fun h16 => ?_) (fun h16 => ?_)
    · refine er_k (pc' := 26) (nI 0) rfl rfl rfl ?_
      refine er_loc (pc' := 27) (L' := [(3, _), (0, _), (1, _), (2, _)]) rfl rfl rfl ?_
      refine er_k (pc' := 28) (-1) rfl rfl rfl ?_
      refine er_loc (pc' := 30) (L' := [(4, _), (3, _), (0, _), (1, _), (2, _)]) rfl rfl rfl ?_
      refine er_k (pc' := 31) (nI 1) rfl rfl rfl ?_
      refine er_loc (pc' := 32) rfl rfl rfl ?_
      refine er_gf (pc' := 35) (_) rfl rfl rfl rfl rfl ?_
      refine er_gf (pc' := 38) (.int (X 9 1)) rfl rfl rfl rfl rfl ?_
      rw [show X 9 1 = nI (jn (jx X 9)) from hI.n.1]
      refine er_ishl (pc' := 39) rfl rfl ?_
      refine er_k (pc' := 40) (nI 1) rfl rfl rfl ?_
      refine er_isub (pc' := 41) rfl rfl ?_
      rw [pow_nI h8]
      refine er_loc (pc' := 43) (L' := [(5, _), (4, _), (3, _), (0, _), (1, _), (2, _)]) rfl rfl rfl ?_
      refine ER_loc [(0, _), (1, _), (2, _), (3, _), (4, _), (5, _)] rfl (List.forall_mem_cons.mpr ⟨rfl, List.forall_mem_cons.mpr ⟨rfl, List.forall_mem_cons.mpr ⟨rfl, List.forall_mem_cons.mpr ⟨rfl, List.forall_mem_cons.mpr ⟨rfl, List.forall_mem_cons.mpr ⟨rfl, fun _ h => absurd h List.not_mem_nil⟩⟩⟩⟩⟩⟩) rfl rfl ?_
      refine l_whose_loop d hI q w _ (2 ^ jn (jx X 9)) _ _ _ rfl (pow_le h8) (fun r hr => ?_)
      rw [if_pos (by rw [h7, h16]; rfl)]
      exact hr
    · refine er_loc (pc' := 20) rfl rfl rfl ?_
      refine er_k (pc' := 21) (nI 1) rfl rfl rfl ?_
      refine er_cIz (pc' := 24) (rest := []) 11 rfl rfl rfl rfl rfl rfl (l_error _ _ _ 1 (by decide)) ?_
      intro Z9
      refine er_iret rfl rfl ?_
      rw [if_neg (by first | (rw [h7]; simp; done) | (rw [h7, h16]; simp; done))]
      exact RI_of rfl rfl
def jS (J : Nat → Nat → Int32) : Nat → Nat → Int32 := match sFirst J (jn J) 0 with
  | none => J
  | some k => jFin J k
def jIt (J : Nat → Nat → Int32) : Nat → Nat → Nat → Int32
  | 0 => J
  | i + 1 => jS (jIt J i)
def sAll (J : Nat → Nat → Int32) (w : Int32) : Int32 := if w = 0 then jIt J 8 0 10 - J 0 10 else if w = nI 1 then sOpen (jIt J 8) else sPop (jIt J 8 0 7)
theorem jS_none {J : Nat → Nat → Int32} (h : sFirst J (jn J) 0 = none) : jS J = J := by unfold jS; rw [h]
theorem jS_some {J : Nat → Nat → Int32} {k : Nat} (h : sFirst J (jn J) 0 = some k) : jS J = jFin J k := by unfold jS; rw [h]
theorem fI_neg : fI none < 0 := by decide +kernel
theorem fI_pos {k : Nat} (h : k < 100) : ¬ fI (some k) < 0 := nI_pos (by omega)
set_option maxRecDepth 100000 in
set_option maxHeartbeats 4000000 in
theorem l_all_loop (d : Nat) {X : Nat → Nat → Int32} {T0 : Nat} (hI : IJ T0 (jx X 9)) (w : Int32) (P : ab_R → Prop) : ∀ (m i T : Nat) (X1 Z : Nat → Nat → Int32) (x : Int32), i + m = 8 → x = nI i → OT X X1 → jx X1 35 = jIt (jx X 9) i → IJ T (jx X1 35) → T + 300 * m < 1000000000 → (∀ r, RO (sAll (jx X 9) w) X r → P r) → ER (d + 6) tb_m95 28 [(0, .ref 0), (1, .int w), (2, .int x)] [] (Wd X1 Z) P
  | 0, i, T, X1, Z, x, hi, hx, ho, hj, hI1, hb, hP => by
    have hi0 : i = 8 := by omega
    subst hx
    subst hi0
    refine er_loc (pc' := 29) rfl rfl rfl ?_
    refine er_k (pc' := 31) (nI 8) rfl rfl rfl ?_
    refine er_cm_geT rfl (nI_nlt (by omega) (by omega)) ?_
    refine er_loc (pc' := 61) rfl rfl rfl ?_
    refine er_if_ne (pc' := 64) rfl rfl (fun h61 => ?_) (fun h61 => ?_)
    · refine er_loc (pc' := 81) rfl rfl rfl ?_
      refine er_k (pc' := 82) (nI 1) rfl rfl rfl ?_
      refine er_cm_ne (pc' := 85) rfl rfl (fun h82 => ?_) (fun h82 => ?_)
      · refine er_loc (pc' := 96) rfl rfl rfl ?_
        refine er_gf (pc' := 99) (_) rfl rfl rfl rfl rfl ?_
        refine er_gf (pc' := 102) (.int (X1 35 7)) rfl rfl rfl rfl rfl ?_
        refine er_cSi (pc' := 105) (rest := []) rfl rfl rfl (l_bitCount _ _ _) ?_
        refine er_iret rfl rfl ?_
        apply hP
        refine RO_of ?_ ho
        unfold sAll
        rw [if_neg h61, if_neg h82, ← hj, jx07]
      · refine er_loc (pc' := 86) rfl rfl rfl ?_
        refine er_gf (pc' := 89) (_) rfl rfl rfl rfl rfl ?_
        refine er_cIi (pc' := 92) (rest := []) 7 rfl rfl rfl rfl rfl rfl (l_howManyOpen _ j35 _ _) ?_
        refine er_goto rfl ?_
        refine er_iret rfl rfl ?_
        apply hP
        refine RO_of ?_ ho
        unfold sAll
        rw [if_neg h61, if_pos h82, ← hj]
    · refine er_loc (pc' := 65) rfl rfl rfl ?_
      refine er_gf (pc' := 68) (_) rfl rfl rfl rfl rfl ?_
      refine er_gf (pc' := 71) (.int (X1 35 10)) rfl rfl rfl rfl rfl ?_
      refine er_loc (pc' := 72) rfl rfl rfl ?_
      refine er_gf (pc' := 75) (_) rfl rfl rfl rfl rfl ?_
      refine er_gf (pc' := 78) (.int (X1 9 10)) rfl rfl rfl rfl rfl ?_
      refine er_isub (pc' := 79) rfl rfl ?_
      refine er_iret rfl rfl ?_
      apply hP
      refine RO_of ?_ ho
      unfold sAll
      rw [if_pos h61, ← hj, jx010, jx010, ho 9 (by omega)]
  | m + 1, i, T, X1, Z, x, hi, hx, ho, hj, hI1, hb, hP => by
    subst hx
    refine er_loc (pc' := 29) rfl rfl rfl ?_
    refine er_k (pc' := 31) (nI 8) rfl rfl rfl ?_
    refine er_cm_geF (pc' := 34) rfl (nI_lt (by omega) (by omega)) rfl ?_
    refine er_loc (pc' := 35) rfl rfl rfl ?_
    refine er_gf (pc' := 38) (_) rfl rfl rfl rfl rfl ?_
    refine er_cIi (pc' := 41) (rest := []) 7 rfl rfl rfl rfl rfl rfl (l_leastThatMay _ j35 _ _ hI1) ?_
    rcases hq : sFirst (jx X1 35) (jn (jx X1 35)) 0 with _ | k
    · refine er_loc (L' := [(3, _), (0, _), (1, _), (2, _)]) (pc' := 42) rfl rfl rfl ?_
      refine er_loc (pc' := 43) rfl rfl rfl ?_
      refine er_if_ltT rfl fI_neg ?_
      refine er_loc (L' := [(2, .int (_ + nI 1)), (3, _), (0, _), (1, _)]) (pc' := 57) rfl rfl rfl ?_
      refine er_goto rfl ?_
      refine ER_loc [(0, _), (1, _), (2, _)] rfl (List.forall_mem_cons.mpr ⟨rfl, List.forall_mem_cons.mpr ⟨rfl, List.forall_mem_cons.mpr ⟨rfl, fun _ h => absurd h List.not_mem_nil⟩⟩⟩) rfl rfl ?_
      refine l_all_loop d hI w P m (i + 1) (T + 300) X1 _ _ (by omega) (nI_add i 1) ho ?_ (hI1.mono (by omega)) (by omega) hP
      rw [hj] at hq
      show _ = jS (jIt (jx X 9) i)
      rw [jS_none hq]
      exact hj
    · have hm := sFirst_some hq
      have hk := (mayDo_k hm).1
      have h8 := jn8 hI1
      refine er_loc (L' := [(3, _), (0, _), (1, _), (2, _)]) (pc' := 42) rfl rfl rfl ?_
      refine er_loc (pc' := 43) rfl rfl rfl ?_
      refine er_if_ltF (pc' := 46) rfl (fI_pos (by omega)) rfl ?_
      refine er_loc (pc' := 47) rfl rfl rfl ?_
      refine er_gf (pc' := 50) (_) rfl rfl rfl rfl rfl ?_
      refine er_loc (pc' := 51) rfl rfl rfl ?_
      refine er_cIv (pc' := 54) (rest := []) 7 rfl rfl rfl rfl rfl rfl (l_finish _ j35 _ _ hI1 (k := k) hk) ?_
      intro Z7
      refine er_loc (L' := [(2, .int (_ + nI 1)), (3, _), (0, _), (1, _)]) (pc' := 57) rfl rfl rfl ?_
      refine er_goto rfl ?_
      refine ER_loc [(0, _), (1, _), (2, _)] rfl (List.forall_mem_cons.mpr ⟨rfl, List.forall_mem_cons.mpr ⟨rfl, List.forall_mem_cons.mpr ⟨rfl, fun _ h => absurd h List.not_mem_nil⟩⟩⟩) rfl rfl ?_
      refine l_all_loop d hI w P m (i + 1) (T + 300) _ _ _ (by omega) (nI_add i 1) ho.fin ?_ ?_ (by omega) hP
      · rw [jx_xFin (by omega)]
        rw [hj] at hq ⊢
        show _ = jS (jIt (jx X 9) i)
        rw [jS_some hq]
      · rw [jx_xFin (by omega)]
        exact hI1.fin (by omega) hm
set_option maxRecDepth 100000 in
set_option maxHeartbeats 4000000 in
theorem l_all (d : Nat) (X Z : Nat → Nat → Int32) {T : Nat} (hI : IJ T (jx X 9)) (hT9 : T < 1000000) (w : Int32) : EC (d + 7) 95 [.ref 0, .int w] (Wd X Z) (fun r => if sIn w (nI 0) (nI 2) = true then RO (sAll (jx X 9) w) X r else RI (sErr 1) (xErr X 1) r) := by
  refine er_enter (L := [(0, _), (1, _)]) rfl rfl rfl ?_
  refine er_loc (pc' := 1) rfl rfl rfl ?_
  refine er_k (pc' := 2) (nI 0) rfl rfl rfl ?_
  refine er_k (pc' := 3) (nI 2) rfl rfl rfl ?_
  refine er_cSi (pc' := 6) (rest := []) rfl rfl rfl (l_within _ _ _ _ _) ?_
  refine er_if_neb (pc' := 9) rfl rfl (fun h6 => ?_) (fun h6 => ?_)
  · refine er_loc (pc' := 16) rfl rfl rfl ?_
    refine er_gf (pc' := 19) (_) rfl rfl rfl rfl rfl ?_
    refine er_loc (pc' := 20) rfl rfl rfl ?_
    refine er_gf (pc' := 23) (_) rfl rfl rfl rfl rfl ?_
    refine er_cIt (pc' := 26) (rest := []) 7 rfl rfl rfl rfl rfl rfl (l_take_35_9 _ _ _ hI) ?_
    intro X1 Z1 hj1 ho1
    refine er_k (pc' := 27) (nI 0) rfl rfl rfl ?_
    refine er_loc (pc' := 28) (L' := [(2, _), (0, _), (1, _)]) rfl rfl rfl ?_
    refine ER_loc [(0, _), (1, _), (2, _)] rfl (List.forall_mem_cons.mpr ⟨rfl, List.forall_mem_cons.mpr ⟨rfl, List.forall_mem_cons.mpr ⟨rfl, fun _ h => absurd h List.not_mem_nil⟩⟩⟩) rfl rfl ?_
    refine l_all_loop d hI w _ 8 0 T X1 Z1 _ (by omega) rfl ho1 hj1 (by rw [hj1]; exact hI) (by omega) (fun r hr => ?_)
    rw [if_pos h6]
    exact hr
  · refine er_loc (pc' := 10) rfl rfl rfl ?_
    refine er_k (pc' := 11) (nI 1) rfl rfl rfl ?_
    refine er_cIz (pc' := 14) (rest := []) 11 rfl rfl rfl rfl rfl rfl (l_error _ _ _ 1 (by decide)) ?_
    intro Z9
    refine er_iret rfl rfl ?_
    rw [if_neg (by rw [h6]; decide)]
    exact RI_of rfl rfl
def RT (v : Int32) (b p : Nat) (X : Nat → Nat → Int32) : ab_R → Prop := fun r => ∃ X' Z', r = (some (.int v), Wd X' Z') ∧ jx X' b = jx X p ∧ ∀ c, (c < b ∨ b + 12 < c) → X' c = X c
def RM (v : Int32) (X : Nat → Nat → Int32) : ab_R → Prop := fun r => ∃ X' Z', r = (some (.int v), Wd X' Z') ∧ jx X' 22 = jx X 9 ∧ ∀ c, (c < 22 ∨ 22 + 12 < c) → X' c = ud X 0 4 v c
set_option maxRecDepth 100000 in
set_option maxHeartbeats 4000000 in
theorem l_image (d : Nat) (X Z : Nat → Nat → Int32) {T : Nat} (hI : IJ T (jx X 9)) : EC (d + 3) 119 [.ref 0] (Wd X Z) (RM (X 0 4 + nI 1) X) := by
  refine er_enter (L := [(0, _)]) rfl rfl rfl ?_
  refine er_loc (pc' := 1) rfl rfl rfl ?_
  refine er_gf (pc' := 4) (_) rfl rfl rfl rfl rfl ?_
  refine er_loc (pc' := 5) rfl rfl rfl ?_
  refine er_gf (pc' := 8) (_) rfl rfl rfl rfl rfl ?_
  refine er_cIt (pc' := 11) (rest := []) 7 rfl rfl rfl rfl rfl rfl (l_take_22_9 _ _ _ hI) ?_
  intro X1 Z1 hj1 ho1
  refine er_loc (pc' := 12) rfl rfl rfl ?_
  refine er_pure (pc' := 13) rfl rfl rfl ?_
  refine er_gf (pc' := 16) (.int (X1 0 4)) rfl rfl rfl rfl rfl ?_
  rw [ho1 0 (by omega)]
  refine er_k (pc' := 17) (nI 1) rfl rfl rfl ?_
  refine er_iadd (pc' := 18) rfl rfl ?_
  refine er_pfIX (pc' := 21) 4 rfl rfl rfl rfl rfl rfl ?_
  refine er_loc (pc' := 22) rfl rfl rfl ?_
  refine er_gf (pc' := 25) (_) rfl rfl rfl rfl rfl ?_
  refine er_iret rfl rfl ?_
  refine ⟨_, _, rfl, ?_, ?_⟩
  · rw [jx_off (fun c hc _ => ud_ne (by omega))]; exact hj1
  · intro c hc
    by_cases h : c = 0
    · subst h; rw [ud_same, ud_same, ho1 0 (by omega)]
    · rw [ud_ne h, ud_ne h]; exact ho1 c hc
set_option maxRecDepth 100000 in
set_option maxHeartbeats 4000000 in
theorem l_restore (d : Nat) (X Z : Nat → Nat → Int32) {T : Nat} (hI : IJ T (jx X 22)) : EC (d + 3) 120 [.ref 0] (Wd X Z) (fun r => if X 0 4 = 0 then RI (sErr 2) (xErr X 2) r else RT (jx X 22 0 10) 9 22 X r) := by
  refine er_enter (L := [(0, _)]) rfl rfl rfl ?_
  refine er_loc (pc' := 1) rfl rfl rfl ?_
  refine er_gf (pc' := 4) (_) rfl rfl rfl rfl rfl ?_
  refine er_if_ne (pc' := 7) rfl rfl (fun h4 => ?_) (fun h4 => ?_)
  · refine er_loc (pc' := 14) rfl rfl rfl ?_
    refine er_gf (pc' := 17) (_) rfl rfl rfl rfl rfl ?_
    refine er_loc (pc' := 18) rfl rfl rfl ?_
    refine er_gf (pc' := 21) (_) rfl rfl rfl rfl rfl ?_
    refine er_cIt (pc' := 24) (rest := []) 7 rfl rfl rfl rfl rfl rfl (l_take_9_22 _ _ _ hI) ?_
    intro X1 Z1 hj1 ho1
    refine er_loc (pc' := 25) rfl rfl rfl ?_
    refine er_gf (pc' := 28) (_) rfl rfl rfl rfl rfl ?_
    refine er_gf (pc' := 31) (.int (X1 9 10)) rfl rfl rfl rfl rfl ?_
    refine er_iret rfl rfl ?_
    rw [if_neg h4]
    refine ⟨X1, Z1, ?_, hj1, ho1⟩
    rw [← hj1, jx010]
  · refine er_loc (pc' := 8) rfl rfl rfl ?_
    refine er_k (pc' := 9) (nI 2) rfl rfl rfl ?_
    refine er_cIz (pc' := 12) (rest := []) 11 rfl rfl rfl rfl rfl rfl (l_error _ _ _ 2 (by decide)) ?_
    intro Z9
    refine er_iret rfl rfl ?_
    rw [if_pos h4]
    exact RI_of rfl rfl
