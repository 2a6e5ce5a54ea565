/-! THE REFERENCE, its face: check -/
def Sim (K K' : Nat → Nat → Int32) : Prop := ∀ i j, ¬ (i = 0 ∧ (j = 7 ∨ j = 16)) → K' i j = K i j
section SIM
variable {K K' : Nat → Nat → Int32} {k : Nat}
theorem Sim.rf (K : Nat → Nat → Int32) : Sim K K := fun _ _ _ => rfl
theorem Sim.row (h : Sim K K') {i : Nat} (hi : i ≠ 0) : K' i = K i := funext (fun j => h i j (fun e => hi e.1))
theorem Sim.fld (h : Sim K K') {j : Nat} (h7 : j ≠ 7) (h16 : j ≠ 16) : K' 0 j = K 0 j := h 0 j (fun e => by rcases e.2 with e | e; exact h7 e; exact h16 e)
theorem Sim.jn (h : Sim K K') : jn K' = jn K := by
  show nN (K' 0 1) = nN (K 0 1)
  rw [h.fld (by omega) (by omega)]
theorem Sim.lasts (h : Sim K K') : sLasts K' k = sLasts K k := by
  unfold sLasts sKind sLastsBy sTired jl
  rw [h.row (show 1 ≠ 0 by omega), h.row (show 2 ≠ 0 by omega), h.row (show 3 ≠ 0 by omega), h.row (show 5 ≠ 0 by omega), h.row (show 6 ≠ 0 by omega), h.fld (show 10 ≠ 7 by omega) (by omega), h.fld (show 8 ≠ 7 by omega) (by omega)]
theorem Sim.may (h : Sim K K') : sMayDo K' k = sMayDo K k := by
  unfold sMayDo sReady sDone sKind
  rw [h.jn, h.row (show 1 ≠ 0 by omega), h.row (show 3 ≠ 0 by omega), h.row (show 4 ≠ 0 by omega), h.fld (show 6 ≠ 7 by omega) (by omega), h.fld (show 9 ≠ 7 by omega) (by omega), h.fld (show 8 ≠ 7 by omega) (by omega)]
theorem Sim.first (h : Sim K K') : ∀ m i, sFirst K' m i = sFirst K m i
  | 0, _ => rfl
  | m + 1, i => by
    show (if _ then _ else _) = (if _ then _ else _)
    rw [h.may, h.first m (i + 1)]
theorem Sim.pass (h : Sim K K') : Sim (jPass K k) (jFin K' k) := by
  have hl : sLasts (ud K' 0 7 (sWith (K' 0 7) (nI k) (!decide (sErrs K' k = 0)))) k = sLasts K k := h.lasts
  intro i j hij
  unfold jFin jPass
  rw [hl]
  simp only [ud_at]
  by_cases h0 : i = 0
  · subst h0
    have h7 : j ≠ 7 := fun e => hij ⟨rfl, Or.inl e⟩
    have h16 : j ≠ 16 := fun e => hij ⟨rfl, Or.inr e⟩
    simp only [if_pos, if_neg h7]
    rw [h.fld h7 h16, h.fld (show 6 ≠ 7 by omega) (by omega), h.fld (show 9 ≠ 7 by omega) (by omega), h.fld (show 10 ≠ 7 by omega) (by omega), h.row (show 3 ≠ 0 by omega)]
    simp
  · simp only [if_neg h0]
    exact h i j hij
end SIM
def CB (X X1 : Nat → Nat → Int32) : Prop := X1 66 = u1 (X 64) 6 (nI 0) ∧ ∀ c, c ≠ 64 → c ≠ 66 → X1 c = X c
def RCm (v : Int32) (X : Nat → Nat → Int32) : ab_R → Prop := fun r => ∃ X' Z', r = (some (.int v), Wd X' Z') ∧ X' 64 = u1 (X 64) 6 (nI 0) ∧ ∀ c, c ≠ 64 → c ≠ 66 → X' c = X c
theorem RCm_of {v : Int32} {X X1 Z : Nat → Nat → Int32} (h : CB X X1) : RCm v X (some (.int v), Wd (uc X1 64 (X1 66)) Z) := ⟨_, Z, rfl, by rw [uc_same]; exact h.1, fun c h1 h2 => by rw [uc_ne h1]; exact h.2 c h1 h2⟩
set_option maxRecDepth 100000 in
set_option maxHeartbeats 4000000 in
theorem l_rCk_end (d : Nat) {X X1 Z : Nat → Nat → Int32} (hb : CB X X1) (n v x : Int32) : ER (d + 4) tb_m223 84 [(0, .ref 63), (1, .int n), (2, .int v), (3, .int x)] [] (Wd X1 Z) (RCm v X) := by
  refine er_loc (pc' := 85) rfl rfl rfl ?_
  refine er_cIv (pc' := 88) (rest := []) 12 rfl rfl rfl rfl rfl rfl (l_rPutsBack _ _ _) ?_
  intro Z7
  refine er_loc (pc' := 89) rfl rfl rfl ?_
  refine er_iret rfl rfl ?_
  exact RCm_of hb
set_option maxRecDepth 100000 in
set_option maxHeartbeats 4000000 in
theorem l_rCk_out (d : Nat) {X X1 Z : Nat → Nat → Int32} (hb : CB X X1) (n v x : Int32) (hv : ¬ v = 0) : ER (d + 4) tb_m223 24 [(0, .ref 63), (1, .int n), (2, .int v), (3, .int x)] [] (Wd X1 Z) (RCm v X) := by
  refine er_loc (pc' := 25) rfl rfl rfl ?_
  refine er_loc (pc' := 26) rfl rfl rfl ?_
  refine er_cm_ge (pc' := 29) rfl rfl (fun h26 => ?_) (fun h26 => ?_)
  · refine ER_loc [(0, _), (1, _), (2, _), (3, _)] rfl (List.forall_mem_cons.mpr ⟨rfl, List.forall_mem_cons.mpr ⟨rfl, List.forall_mem_cons.mpr ⟨rfl, List.forall_mem_cons.mpr ⟨rfl, fun _ h => absurd h List.not_mem_nil⟩⟩⟩⟩) rfl rfl ?_
    exact l_rCk_end d hb n v x
  · refine er_loc (pc' := 30) rfl rfl rfl ?_
    refine er_if_neT rfl (hv) ?_
    refine ER_loc [(0, _), (1, _), (2, _), (3, _)] rfl (List.forall_mem_cons.mpr ⟨rfl, List.forall_mem_cons.mpr ⟨rfl, List.forall_mem_cons.mpr ⟨rfl, List.forall_mem_cons.mpr ⟨rfl, fun _ h => absurd h List.not_mem_nil⟩⟩⟩⟩) rfl rfl ?_
    exact l_rCk_end d hb n v x
theorem ck_nz {i : Nat} (h : i < 30) : ¬ nI 1 + nI i = 0 := fun e => by
  rw [nI_add] at e
  exact absurd (nIj (by omega) (by omega) (show nI (1 + i) = nI 0 from e)) (by omega)
set_option maxRecDepth 100000 in
set_option maxHeartbeats 4000000 in
theorem l_rCk_loop (d : Nat) {X : Nat → Nat → Int32} (n : Nat) (hn : n ≤ 20) : ∀ (m i T1 : Nat) (X1 Z K : Nat → Nat → Int32) (x : Int32), i + m = n → x = nI i → CB X X1 → Sim K (jm (X1 64)) → K 10 = jm (X 64) 10 → RK T1 (X1 64) → T1 + 300 * m < 1000000000 → ER (d + 8) tb_m223 24 [(0, .ref 63), (1, .int (nI n)), (2, .int (nI 0)), (3, .int x)] [] (Wd X1 Z) (RCm (ck (jm (X 64)) m i K) X)
  | 0, i, T1, X1, Z, K, x, hi, hx, hb, hsim, hK, hI1, hT1 => by
    have hi0 : i = n := by omega
    subst hx
    subst hi0
    refine er_loc (pc' := 25) rfl rfl rfl ?_
    refine er_loc (pc' := 26) rfl rfl rfl ?_
    refine er_cm_geT rfl (nI_nlt (by omega) (by omega)) ?_
    refine ER_loc [(0, _), (1, _), (2, _), (3, _)] rfl (List.forall_mem_cons.mpr ⟨rfl, List.forall_mem_cons.mpr ⟨rfl, List.forall_mem_cons.mpr ⟨rfl, List.forall_mem_cons.mpr ⟨rfl, fun _ h => absurd h List.not_mem_nil⟩⟩⟩⟩) rfl rfl ?_
    exact l_rCk_end (d + 4) hb _ _ _
  | m + 1, i, T1, X1, Z, K, x, hi, hx, hb, hsim, hK, hI1, hT1 => by
    subst hx
    refine er_loc (pc' := 25) rfl rfl rfl ?_
    refine er_loc (pc' := 26) rfl rfl rfl ?_
    refine er_cm_geF (pc' := 29) rfl (nI_lt (by omega) (by omega)) rfl ?_
    refine er_loc (pc' := 30) rfl rfl rfl ?_
    refine er_if_neF (pc' := 33) rfl (by decide +kernel) rfl ?_
    refine er_loc (pc' := 34) rfl rfl rfl ?_
    cases hs : sFirst (jm (X1 64)) (jn (jm (X1 64))) 0 with
    | none =>
      have hs2 : sFirst K (jn K) 0 = none := by rw [← hsim.first, ← hsim.jn]; exact hs
      refine er_cIz (pc' := 37) (rest := []) 12 rfl rfl rfl rfl rfl rfl (l_dn0 _ X1 _ hI1 (by omega) hs) ?_
      intro Z2
      refine er_if_eqT rfl (by decide +kernel) ?_
      refine er_k (nI 0) rfl rfl rfl ?_
      refine er_loc (pc' := 65) (L' := [(4, _), (0, _), (1, _), (2, _), (3, _)]) rfl rfl rfl ?_
      refine er_loc (pc' := 67) rfl rfl rfl ?_
      refine er_if_eqT rfl (by decide +kernel) ?_
      refine er_k (pc' := 75) (nI 1) rfl rfl rfl ?_
      refine er_loc (pc' := 76) rfl rfl rfl ?_
      refine er_iadd (pc' := 77) rfl rfl ?_
      refine er_loc (pc' := 78) (L' := [(2, _), (4, _), (0, _), (1, _), (3, _)]) rfl rfl rfl ?_
      refine er_loc (pc' := 81) (L' := [(3, .int (_ + nI 1)), (2, _), (4, _), (0, _), (1, _)]) rfl rfl rfl ?_
      refine er_goto rfl ?_
      refine ER_loc [(0, _), (1, _), (2, _), (3, _)] rfl (List.forall_mem_cons.mpr ⟨rfl, List.forall_mem_cons.mpr ⟨rfl, List.forall_mem_cons.mpr ⟨rfl, List.forall_mem_cons.mpr ⟨rfl, fun _ h => absurd h List.not_mem_nil⟩⟩⟩⟩) rfl rfl ?_
      rw [show ck (jm (X 64)) (m + 1) i K = nI 1 + nI i from ck_none hs2]
      exact l_rCk_out (d + 4) hb _ _ _ (ck_nz (by omega))
    | some k =>
      have hs2 : sFirst K (jn K) 0 = some k := by rw [← hsim.first, ← hsim.jn]; exact hs
      refine er_cIj (pc' := 37) (rest := []) 12 rfl rfl rfl rfl rfl rfl (l_dn1 _ X1 _ hI1 (by omega) hs) ?_
      intro X2 Z2 w2
      refine er_if_eqF (pc' := 40) rfl (by decide +kernel) rfl ?_
      refine er_loc (pc' := 41) rfl rfl rfl ?_
      refine er_gf (pc' := 44) (_) rfl rfl rfl rfl rfl ?_
      refine er_k (pc' := 46) (nI 105) rfl rfl rfl ?_
      refine er_loc (pc' := 47) rfl rfl rfl ?_
      refine er_iadd (pc' := 48) rfl rfl ?_
      refine er_ia (pc' := 49) (105 + i) rfl rfl rfl (nI_add 105 i) (by omega) rfl rfl ?_
      rw [show X2 64 (105 + i) = jm (X 64) 10 i from by rw [← hK, ← show jFin (jm (X1 64)) k 10 = K 10 from hsim.pass.row (show 10 ≠ 0 by omega), ← w2.j, jm10 (by omega)]]
      refine er_loc (pc' := 50) rfl rfl rfl ?_
      refine er_gf (pc' := 53) (_) rfl rfl rfl rfl rfl ?_
      refine er_k (pc' := 54) (nI 0) rfl rfl rfl ?_
      refine er_ia (pc' := 55) (0) rfl rfl rfl rfl (by omega) rfl rfl ?_
      refine er_cm_ne (pc' := 58) rfl rfl (fun h55 => ?_) (fun h55 => ?_)
      · refine er_k (nI 0) rfl rfl rfl ?_
        refine er_loc (pc' := 65) (L' := [(4, _), (0, _), (1, _), (2, _), (3, _)]) rfl rfl rfl ?_
        refine er_loc (pc' := 67) rfl rfl rfl ?_
        refine er_if_eqT rfl (by decide +kernel) ?_
        refine er_k (pc' := 75) (nI 1) rfl rfl rfl ?_
        refine er_loc (pc' := 76) rfl rfl rfl ?_
        refine er_iadd (pc' := 77) rfl rfl ?_
        refine er_loc (pc' := 78) (L' := [(2, _), (4, _), (0, _), (1, _), (3, _)]) rfl rfl rfl ?_
        refine er_loc (pc' := 81) (L' := [(3, .int (_ + nI 1)), (2, _), (4, _), (0, _), (1, _)]) rfl rfl rfl ?_
        refine er_goto rfl ?_
        refine ER_loc [(0, _), (1, _), (2, _), (3, _)] rfl (List.forall_mem_cons.mpr ⟨rfl, List.forall_mem_cons.mpr ⟨rfl, List.forall_mem_cons.mpr ⟨rfl, List.forall_mem_cons.mpr ⟨rfl, fun _ h => absurd h List.not_mem_nil⟩⟩⟩⟩) rfl rfl ?_
        have w10 : jPass K k 0 10 = X2 64 0 := by rw [← jm010 (R := X2 64), w2.j]; exact (hsim.pass.fld (by omega) (by omega)).symm
        have hb2 : CB X X2 := ⟨by rw [w2.off (by omega)]; exact hb.1, fun c h1 h2 => by rw [w2.off h1]; exact hb.2 c h1 h2⟩
        rw [show ck (jm (X 64)) (m + 1) i K = nI 1 + nI i from (ck_some hs2).trans (if_neg (fun e => h55 (by rw [← e, w10])))]
        exact l_rCk_out (d + 4) hb2 _ _ _ (ck_nz (by omega))
      · refine er_k (nI 1) rfl rfl rfl ?_
        refine er_goto rfl ?_
        refine er_loc (pc' := 65) (L' := [(4, _), (0, _), (1, _), (2, _), (3, _)]) rfl rfl rfl ?_
        refine er_loc (pc' := 67) rfl rfl rfl ?_
        refine er_if_eqF (pc' := 70) rfl (by decide +kernel) rfl ?_
        refine er_k (pc' := 71) (nI 0) rfl rfl rfl ?_
        refine er_goto rfl ?_
        refine er_loc (pc' := 78) (L' := [(2, _), (4, _), (0, _), (1, _), (3, _)]) rfl rfl rfl ?_
        refine er_loc (pc' := 81) (L' := [(3, .int (_ + nI 1)), (2, _), (4, _), (0, _), (1, _)]) rfl rfl rfl ?_
        refine er_goto rfl ?_
        refine ER_loc [(0, _), (1, _), (2, _), (3, _)] rfl (List.forall_mem_cons.mpr ⟨rfl, List.forall_mem_cons.mpr ⟨rfl, List.forall_mem_cons.mpr ⟨rfl, List.forall_mem_cons.mpr ⟨rfl, fun _ h => absurd h List.not_mem_nil⟩⟩⟩⟩) rfl rfl ?_
        have w10 : jPass K k 0 10 = X2 64 0 := by rw [← jm010 (R := X2 64), w2.j]; exact (hsim.pass.fld (by omega) (by omega)).symm
        have hb2 : CB X X2 := ⟨by rw [w2.off (by omega)]; exact hb.1, fun c h1 h2 => by rw [w2.off h1]; exact hb.2 c h1 h2⟩
        rw [show ck (jm (X 64)) (m + 1) i K = ck (jm (X 64)) m (i + 1) (jPass K k) from (ck_some hs2).trans (if_pos (by rw [w10, ← h55]))]
        exact l_rCk_loop d n hn m (i + 1) (T1 + 300) X2 Z2 _ _ (by omega) (nI_add i 1) hb2 (by rw [w2.j]; exact hsim.pass) (by rw [← hK]; rfl) w2.rk (by omega)
set_option maxRecDepth 100000 in
set_option maxHeartbeats 4000000 in
theorem l_rCheck (d : Nat) (X Z : Nat → Nat → Int32) {T : Nat} (hI : RK T (X 64)) (hT9 : T < 1000000) : EC (d + 9) 223 [.ref 63] (Wd X Z) (RCm (sCheck (jm (X 64))) X) := by
  refine er_enter (L := [(0, _)]) rfl rfl rfl ?_
  obtain ⟨hw, h20⟩ : X 64 6 = nI (nN (X 64 6)) ∧ nN (X 64 6) ≤ 20 := hI.ij.waits
  refine er_loc (pc' := 1) rfl rfl rfl ?_
  refine er_gf (pc' := 4) (_) rfl rfl rfl rfl rfl ?_
  refine er_k (pc' := 6) (nI 6) rfl rfl rfl ?_
  refine er_ia (pc' := 7) (6) rfl rfl rfl rfl (by omega) rfl rfl ?_
  rw [hw]
  refine er_loc (pc' := 8) (L' := [(1, _), (0, _)]) rfl rfl rfl ?_
  refine er_loc (pc' := 9) rfl rfl rfl ?_
  refine er_gf (pc' := 12) (_) rfl rfl rfl rfl rfl ?_
  refine er_k (pc' := 14) (nI 6) rfl rfl rfl ?_
  refine er_k (pc' := 15) (nI 0) rfl rfl rfl ?_
  refine er_isX (pc' := 16) (6) rfl rfl (fun _ => rfl) rfl (by omega) rfl rfl ?_
  refine er_loc (pc' := 17) rfl rfl rfl ?_
  refine er_cIv (pc' := 20) (rest := []) 12 rfl rfl rfl rfl rfl rfl (l_rThinks _ _ _) ?_
  intro Z7
  refine er_k (pc' := 21) (nI 0) rfl rfl rfl ?_
  refine er_loc (pc' := 22) (L' := [(2, _), (1, _), (0, _)]) rfl rfl rfl ?_
  refine er_k (pc' := 23) (nI 0) rfl rfl rfl ?_
  refine er_loc (pc' := 24) (L' := [(3, _), (2, _), (1, _), (0, _)]) rfl rfl rfl ?_
  refine ER_loc [(0, _), (1, _), (2, _), (3, _)] rfl (List.forall_mem_cons.mpr ⟨rfl, List.forall_mem_cons.mpr ⟨rfl, List.forall_mem_cons.mpr ⟨rfl, List.forall_mem_cons.mpr ⟨rfl, fun _ h => absurd h List.not_mem_nil⟩⟩⟩⟩) rfl rfl ?_
  have w1 := wWaits (p := 6) hI rfl (isN.of (show 0 ≤ 20 by omega) (by omega)) rfl
  refine l_rCk_loop d (X := X) (nN (X 64 6)) h20 (nN (X 64 6)) 0 T _ _ (jm (X 64)) _ (by omega) rfl ⟨?_, ?_⟩ ?_ rfl w1.rk (by omega)
  · rw [uc_same, ud_same]
  · intro c h1 h2
    rw [uc_ne h2, ud_ne h1]
  · intro i j hij
    rw [show jm (uc (ud X 64 6 (nI 0)) 66 (ud X 64 6 (nI 0) 64) 64) = ud (jm (X 64)) 0 16 (nI 0) from w1.j]
    rw [ud_at]
    by_cases h0 : i = 0
    · rw [if_pos h0, if_neg (fun e => hij ⟨h0, Or.inr e⟩)]
    · rw [if_neg h0]
