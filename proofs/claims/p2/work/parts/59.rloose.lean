/-! THE REFERENCE, its face: copies, draws, the tape, what would be done next -/
theorem Wd_row {X Z : Nat → Nat → Int32} {c n : Nat} {f g : Nat → Int32} (h : ∀ x z, cO c x z = .inr (.inl (qa n x))) (hfg : ∀ k, k < n → f k = g k) : Wd (uc X c f) Z = Wd (uc X c g) Z := by
  unfold Wd
  apply List.map_congr_left
  intro i _
  by_cases hi : i = c
  · subst hi
    rw [uc_same, uc_same, h, h, qa_cong hfg]
  · rw [uc_ne hi, uc_ne hi]
theorem cpf_step {f g : Nat → Int32} {i : Nat} : u1 (cpf f g 0 0 i) i (f i) = cpf f g 0 0 (i + 1) := by
  funext j
  rw [u1_at]
  show _ = if 0 ≤ j ∧ j < 0 + (i + 1) then f (j - 0 + 0) else g j
  by_cases h : j = i
  · subst h
    rw [if_pos rfl, if_pos ⟨by omega, by omega⟩]
    rfl
  · rw [if_neg h]
    show (if 0 ≤ j ∧ j < 0 + i then f (j - 0 + 0) else g j) = _
    by_cases h2 : j < i
    · rw [if_pos ⟨by omega, by omega⟩, if_pos ⟨by omega, by omega⟩]
    · rw [if_neg (by omega), if_neg (by omega)]
theorem cpf_0 (f g : Nat → Int32) : cpf f g 0 0 0 = g := by
  funext j
  exact if_neg (by omega)
set_option maxRecDepth 100000 in
set_option maxHeartbeats 4000000 in
theorem l_copy_loop (d : Nat) (X Z : Nat → Nat → Int32) {c1 c2 : Nat} (b1 : Nat.blt c1 79 = true) (b2 : Nat.blt c2 79 = true) (h1 : ∀ x z, cO c1 x z = .inr (.inl (qa 327 x))) (h2 : ∀ x z, cO c2 x z = .inr (.inl (qa 327 x))) (hne : c1 ≠ c2) : ∀ (m i : Nat) (x : Int32), i + m = 327 → x = nI i → ER (d + 1) tb_m177 2 [(0, .ref c1), (1, .ref c2), (2, .int x)] [] (Wd (uc X c2 (cpf (X c1) (X c2) 0 0 i)) Z) (RV (uc X c2 (X c1)))
  | 0, i, x, hi, h0 => by
    have hi0 : i = 327 := by omega
    subst h0
    subst hi0
    refine er_loc (pc' := 3) rfl rfl rfl ?_
    refine er_k (pc' := 6) (nI 327) rfl rfl rfl ?_
    refine er_cm_geT rfl (nI_nlt (by omega) (by omega)) ?_
    refine er_vret rfl rfl ?_
    refine ⟨Z, ?_⟩
    rw [Wd_row (g := X c1) h2 (fun k hk => cpf_all hk)]
  | m + 1, i, x, hi, h0 => by
    subst h0
    refine er_loc (pc' := 3) rfl rfl rfl ?_
    refine er_k (pc' := 6) (nI 327) rfl rfl rfl ?_
    refine er_cm_geF (pc' := 9) rfl (nI_lt (by omega) (by omega)) rfl ?_
    refine er_loc (pc' := 10) rfl rfl rfl ?_
    refine er_loc (pc' := 11) rfl rfl rfl ?_
    refine er_loc (pc' := 12) rfl rfl rfl ?_
    refine er_loc (pc' := 13) rfl rfl rfl ?_
    refine er_ia (pc' := 14) (i) rfl (b1) ((h1 _ _)) rfl (by omega) rfl rfl ?_
    refine er_isX (pc' := 15) (i) rfl (b2) ((fun f => h2 f _)) rfl (by omega) rfl rfl ?_
    refine er_loc (pc' := 18) (L' := [(2, .int (_ + nI 1)), (0, _), (1, _)]) rfl rfl rfl ?_
    refine er_goto rfl ?_
    refine ER_loc [(0, _), (1, _), (2, _)] rfl (List.forall_mem_cons.mpr ⟨rfl, List.forall_mem_cons.mpr ⟨rfl, List.forall_mem_cons.mpr ⟨rfl, fun _ h => absurd h List.not_mem_nil⟩⟩⟩) rfl rfl ?_
    have ih := l_copy_loop d X Z b1 b2 h1 h2 hne m (i + 1) _ (by omega) (nI_add i 1)
    rw [uc_ne hne]
    rw [show ud (uc X c2 (cpf (X c1) (X c2) 0 0 i)) c2 i (X c1 i) = uc X c2 (cpf (X c1) (X c2) 0 0 (i + 1)) from by unfold ud; rw [uc_uc, uc_same, cpf_step]]
    exact ih
set_option maxRecDepth 100000 in
set_option maxHeartbeats 4000000 in
theorem l_rCopy (d : Nat) (X Z : Nat → Nat → Int32) {c1 c2 : Nat} (b1 : Nat.blt c1 79 = true) (b2 : Nat.blt c2 79 = true) (h1 : ∀ x z, cO c1 x z = .inr (.inl (qa 327 x))) (h2 : ∀ x z, cO c2 x z = .inr (.inl (qa 327 x))) (hne : c1 ≠ c2) : EC (d + 2) 177 [.ref c1, .ref c2] (Wd X Z) (RV (uc X c2 (X c1))) := by
  refine er_enter (L := [(0, _), (1, _)]) rfl rfl rfl ?_
  refine er_k (pc' := 1) (nI 0) rfl rfl rfl ?_
  refine er_loc (pc' := 2) (L' := [(2, _), (0, _), (1, _)]) rfl rfl rfl ?_
  refine ER_loc [(0, _), (1, _), (2, _)] rfl (List.forall_mem_cons.mpr ⟨rfl, List.forall_mem_cons.mpr ⟨rfl, List.forall_mem_cons.mpr ⟨rfl, fun _ h => absurd h List.not_mem_nil⟩⟩⟩) rfl rfl ?_
  have h := l_copy_loop d X Z b1 b2 h1 h2 hne 327 0 (nI 0) (by omega) rfl
  rw [cpf_0, uc_id] at h
  exact h
section ERK
variable {d pc pc' lk : Nat} {M : ab_M} {L L' : ab_Lo} {st : List Value} {w : ab_W} {P : ab_R → Prop} {X Z : Nat → Nat → Int32}
theorem er_cSv {j i : Nat} {X' : Nat → Nat → Int32} {As rest : List Value} (hf : ab_fetch M.2.2.2.2.2.2.2 pc = some (.invokestatic i, lk)) (hq : qS lk st = some (j, As, rest)) (hp : pc + 3 = pc') (h : EC d j As (Wd X Z) (RV X')) (k : ∀ Z', ER d M pc' L rest (Wd X' Z') P) : ER d M pc L st (Wd X Z) P :=
  er_cS hf hq hp h (fun r hr => by obtain ⟨Z', rfl⟩ := hr; exact k Z')
end ERK
set_option maxRecDepth 100000 in
set_option maxHeartbeats 4000000 in
theorem l_rThinks (d : Nat) (X Z : Nat → Nat → Int32) : EC (d + 3) 176 [.ref 63] (Wd X Z) (RV (uc X 66 (X 64))) := by
  refine er_enter (L := [(0, _)]) rfl rfl rfl ?_
  refine er_loc (pc' := 1) rfl rfl rfl ?_
  refine er_gf (pc' := 4) (_) rfl rfl rfl rfl rfl ?_
  refine er_loc (pc' := 5) rfl rfl rfl ?_
  refine er_gf (pc' := 8) (_) rfl rfl rfl rfl rfl ?_
  refine er_cSv (pc' := 11) (rest := []) rfl rfl rfl (l_rCopy _ _ _ (c1 := 64) (c2 := 66) rfl rfl (fun _ _ => rfl) (fun _ _ => rfl) (by omega)) ?_
  intro Z7
  refine er_vret rfl rfl ?_
  exact RV_of rfl
set_option maxRecDepth 100000 in
set_option maxHeartbeats 4000000 in
theorem l_rPutsBack (d : Nat) (X Z : Nat → Nat → Int32) : EC (d + 3) 181 [.ref 63] (Wd X Z) (RV (uc X 64 (X 66))) := by
  refine er_enter (L := [(0, _)]) rfl rfl rfl ?_
  refine er_loc (pc' := 1) rfl rfl rfl ?_
  refine er_gf (pc' := 4) (_) rfl rfl rfl rfl rfl ?_
  refine er_loc (pc' := 5) rfl rfl rfl ?_
  refine er_gf (pc' := 8) (_) rfl rfl rfl rfl rfl ?_
  refine er_cSv (pc' := 11) (rest := []) rfl rfl rfl (l_rCopy _ _ _ (c1 := 66) (c2 := 64) rfl rfl (fun _ _ => rfl) (fun _ _ => rfl) (by omega)) ?_
  intro Z7
  refine er_vret rfl rfl ?_
  exact RV_of rfl
set_option maxRecDepth 100000 in
set_option maxHeartbeats 4000000 in
theorem l_rImage (d : Nat) (X Z : Nat → Nat → Int32) : EC (d + 3) 220 [.ref 63] (Wd X Z) (RI (X 63 3 + nI 1) (ud (uc X 65 (X 64)) 63 3 (X 63 3 + nI 1))) := by
  refine er_enter (L := [(0, _)]) rfl rfl rfl ?_
  refine er_loc (pc' := 1) rfl rfl rfl ?_
  refine er_gf (pc' := 4) (_) rfl rfl rfl rfl rfl ?_
  refine er_loc (pc' := 5) rfl rfl rfl ?_
  refine er_gf (pc' := 8) (_) rfl rfl rfl rfl rfl ?_
  refine er_cSv (pc' := 11) (rest := []) rfl rfl rfl (l_rCopy _ _ _ (c1 := 64) (c2 := 65) rfl rfl (fun _ _ => rfl) (fun _ _ => rfl) (by omega)) ?_
  intro Z7
  refine er_loc (pc' := 12) rfl rfl rfl ?_
  refine er_pure (pc' := 13) rfl rfl rfl ?_
  refine er_gf (pc' := 16) (.int (uc X 65 (X 64) 63 3)) rfl rfl rfl rfl rfl ?_
  refine er_k (pc' := 17) (nI 1) rfl rfl rfl ?_
  refine er_iadd (pc' := 18) rfl rfl ?_
  refine er_pfIX (pc' := 21) 3 rfl rfl rfl rfl rfl rfl ?_
  refine er_loc (pc' := 22) rfl rfl rfl ?_
  refine er_gf (pc' := 25) (.int (ud (uc X 65 (X 64)) 63 3 (X 63 3 + nI 1) 63 3)) rfl rfl rfl rfl rfl ?_
  refine er_iret rfl rfl ?_
  exact RI_of rfl rfl
set_option maxRecDepth 100000 in
set_option maxHeartbeats 4000000 in
theorem l_rRestore (d : Nat) (X Z : Nat → Nat → Int32) : EC (d + 3) 221 [.ref 63] (Wd X Z) (fun r => if X 63 3 = 0 then RI (sErr 2) (yErr X 2) r else RI (X 65 0) (uc X 64 (X 65)) r) := by
  refine er_enter (L := [(0, _)]) rfl rfl rfl ?_
  refine er_loc (pc' := 1) rfl rfl rfl ?_
  refine er_gf (pc' := 4) (.int (X 63 3)) rfl rfl rfl rfl rfl ?_
  refine er_if_ne (pc' := 7) rfl rfl (fun h4 => ?_) (fun h4 => ?_)
  · refine er_loc (pc' := 15) rfl rfl rfl ?_
    refine er_gf (pc' := 18) (_) rfl rfl rfl rfl rfl ?_
    refine er_loc (pc' := 19) rfl rfl rfl ?_
    refine er_gf (pc' := 22) (_) rfl rfl rfl rfl rfl ?_
    refine er_cSv (pc' := 25) (rest := []) rfl rfl rfl (l_rCopy _ _ _ (c1 := 65) (c2 := 64) rfl rfl (fun _ _ => rfl) (fun _ _ => rfl) (by omega)) ?_
    intro Z7
    refine er_loc (pc' := 26) rfl rfl rfl ?_
    refine er_gf (pc' := 29) (_) rfl rfl rfl rfl rfl ?_
    refine er_k (pc' := 30) (nI 0) rfl rfl rfl ?_
    refine er_ia (pc' := 31) (0) rfl rfl rfl rfl (by omega) rfl rfl ?_
    refine er_iret rfl rfl ?_
    rw [if_neg h4]
    exact RI_of rfl rfl
  · refine er_loc (pc' := 8) rfl rfl rfl ?_
    refine er_ldc (pc' := 10) (-1000000002) rfl rfl rfl rfl rfl ?_
    refine er_cIz (pc' := 13) (rest := []) 12 rfl rfl rfl rfl rfl rfl (l_rError2 _ _ _) ?_
    intro Z9
    refine er_iret rfl rfl ?_
    rw [if_pos h4]
    exact RI_of rfl rfl
set_option maxRecDepth 100000 in
set_option maxHeartbeats 4000000 in
theorem l_rDraw (d : Nat) (X Z : Nat → Nat → Int32) {T : Nat} (hI : RK T (X 64)) : EC (d + 1) 172 [.ref 63] (Wd X Z) (RNJ (sDraw (sZ (X 64 1))) (jZ (jm (X 64))) T X) := by
  refine er_enter (L := [(0, _)]) rfl rfl rfl ?_
  refine er_loc (pc' := 1) rfl rfl rfl ?_
  refine er_gf (pc' := 4) (_) rfl rfl rfl rfl rfl ?_
  refine er_k (pc' := 5) (nI 1) rfl rfl rfl ?_
  refine er_loc (pc' := 6) rfl rfl rfl ?_
  refine er_gf (pc' := 9) (_) rfl rfl rfl rfl rfl ?_
  refine er_k (pc' := 10) (nI 1) rfl rfl rfl ?_
  refine er_ia (pc' := 11) (1) rfl rfl rfl rfl (by omega) rfl rfl ?_
  refine er_ldc (pc' := 13) (1103515245) rfl rfl rfl rfl rfl ?_
  refine er_imul (pc' := 14) rfl rfl ?_
  refine er_k (pc' := 17) (nI 12345) rfl rfl rfl ?_
  refine er_iadd (pc' := 18) rfl rfl ?_
  refine er_isX (pc' := 19) (1) rfl rfl (fun _ => rfl) rfl (by omega) rfl rfl ?_
  refine er_loc (pc' := 20) rfl rfl rfl ?_
  refine er_gf (pc' := 23) (_) rfl rfl rfl rfl rfl ?_
  refine er_k (pc' := 24) (nI 1) rfl rfl rfl ?_
  refine er_ia (pc' := 25) (1) rfl rfl rfl rfl (by omega) rfl rfl ?_
  refine er_k (pc' := 27) (nI 8) rfl rfl rfl ?_
  refine er_iushr (pc' := 28) rfl rfl ?_
  refine er_iret rfl rfl ?_
  exact RNJ_of rfl (wZ hI rfl rfl)
theorem loT_c (J : Nat → Nat → Int32) (c : Int32) : loT (J, c) = ((loT (J, nI 0)).1, c + (loT (J, nI 0)).2) := by
  show (if _ then _ else if _ then _ else _ : (Nat → Nat → Int32) × Int32) = ((if _ then _ else if _ then _ else _ : (Nat → Nat → Int32) × Int32).1, c + (if _ then _ else if _ then _ else _ : (Nat → Nat → Int32) × Int32).2)
  split
  · show (_, _) = (_, _)
    congr 1
  · split
    · show (_, _) = (_, _)
      congr 1
      exact (Int32.add_zero c).symm
    · show (_, _) = (_, _)
      congr 1
      exact (Int32.add_zero c).symm
section WJT
variable {J J' : Nat → Nat → Int32} {T T' : Nat} {X Y : Nat → Nat → Int32} {v : Int32}
theorem RNJ.tr {r : ab_R} (h : WJ J T X Y) (h2 : RNJ v J' T' Y r) : RNJ v J' T' X r := by
  obtain ⟨X', Z', e, h3⟩ := h2
  exact ⟨X', Z', e, h.trans h3⟩
theorem RK.mono {R : Nat → Int32} (h : RK T R) (hT : T ≤ T') : RK T' R := ⟨h.ij.mono hT, h.2.1, h.2.2.1, h.2.2.2⟩
theorem WJ.mono (h : WJ J T X Y) (hT : T ≤ T') : WJ J T' X Y := ⟨h.1, h.2.1.mono hT, h.2.2.1, h.2.2.2⟩
end WJT
theorem jHas_f {T : Nat} {J : Nat → Nat → Int32} {k : Nat} (hI : IJ T J) (hk : ¬ k < jn J) (h : k < 100) : jHas J (nI k) = false := by
  unfold jHas
  have h8 := jn8 hI
  rw [show J 0 1 = nI (jn J) from hI.n.1, decide_eq_false (nI_nlt (show jn J ≤ k by omega) (by omega)), Bool.and_false]
set_option maxRecDepth 100000 in
set_option maxHeartbeats 4000000 in
theorem l_rDrawn (d : Nat) (X Z : Nat → Nat → Int32) {T : Nat} (hI : RK T (X 64)) (hT : T < 2000000000) : EC (d + 8) 171 [.ref 63] (Wd X Z) (RNJ (loT (jm (X 64), nI 0)).2 (loT (jm (X 64), nI 0)).1 (T + 300) X) := by
  refine er_enter (L := [(0, _)]) rfl rfl rfl ?_
  obtain ⟨k, hk8, hk⟩ := pick8 (sZ (X 64 1))
  refine er_loc (pc' := 1) rfl rfl rfl ?_
  refine er_cIj (pc' := 4) (rest := []) 12 rfl rfl rfl rfl rfl rfl (l_rDraw _ _ _ hI) ?_
  intro X1 Z1 w1
  have hI1 := w1.rk
  refine er_k (pc' := 6) (nI 8) rfl rfl rfl ?_
  refine er_irem (pc' := 7) rfl rfl (by decide) ?_
  rw [show sDraw (sZ (X 64 1)) - sDraw (sZ (X 64 1)) / nI 8 * nI 8 = nI k from hk]
  have eT : loT (jm (X 64), nI 0) = loS (jm (X1 64)) k (nI 0) := by
    show loS (jZ (jm (X 64))) (nN (sPick (sZ (X 64 1)))) (nI 0) = _
    rw [hk, nN_nI (by omega), ← w1.j]
  refine er_loc (pc' := 8) (L' := [(1, _), (0, _)]) rfl rfl rfl ?_
  by_cases hk2 : k < jn (jm (X1 64))
  · refine er_loc (pc' := 9) rfl rfl rfl ?_
    refine er_loc (pc' := 10) rfl rfl rfl ?_
    refine er_cIi (pc' := 13) (rest := []) 12 rfl rfl rfl rfl rfl rfl (l_rHas_t _ X1 _ hI1 hk2) ?_
    refine er_if_eqF (pc' := 16) rfl (by decide +kernel) rfl ?_
    refine er_loc (pc' := 17) rfl rfl rfl ?_
    refine er_loc (pc' := 18) rfl rfl rfl ?_
    refine er_cIi (pc' := 21) (rest := []) 12 rfl rfl rfl rfl rfl rfl (l_rMayDo _ X1 _ hI1 hk2) ?_
    refine er_if_eqb (pc' := 24) rfl rfl (fun h21 => ?_) (fun h21 => ?_)
    · refine er_loc (pc' := 32) rfl rfl rfl ?_
      refine er_loc (pc' := 33) rfl rfl rfl ?_
      refine er_cIi (pc' := 36) (rest := []) 12 rfl rfl rfl rfl rfl rfl (l_rHas_t _ X1 _ hI1 hk2) ?_
      refine er_if_eqF (pc' := 39) rfl (by decide +kernel) rfl ?_
      refine er_loc (pc' := 40) rfl rfl rfl ?_
      refine er_loc (pc' := 41) rfl rfl rfl ?_
      refine er_cIi (pc' := 44) (rest := []) 12 rfl rfl rfl rfl rfl rfl (l_rMayUn _ X1 _ hI1 hk2) ?_
      refine er_if_eqb (pc' := 47) rfl rfl (fun h44 => ?_) (fun h44 => ?_)
      · refine er_loc (pc' := 56) rfl rfl rfl ?_
        refine er_gf (pc' := 59) (_) rfl rfl rfl rfl rfl ?_
        refine er_k (pc' := 60) (nI 0) rfl rfl rfl ?_
        refine er_pure (pc' := 61) rfl rfl rfl ?_
        refine er_ia (pc' := 62) (0) rfl rfl rfl rfl (by omega) rfl rfl ?_
        refine er_k (pc' := 63) (nI 1) rfl rfl rfl ?_
        refine er_iadd (pc' := 64) rfl rfl ?_
        refine er_isX (pc' := 65) (0) rfl rfl (fun _ => rfl) rfl (by omega) rfl rfl ?_
        refine er_k (pc' := 66) (nI 0) rfl rfl rfl ?_
        refine er_iret rfl rfl ?_
        have e2 : loS (jm (X1 64)) k (nI 0) = (ud (jm (X1 64)) 0 10 (jm (X1 64) 0 10 + nI 1), nI 0) := (if_neg (by rw [h21]; decide)).trans (if_neg (by rw [h44]; decide))
        rw [eT, e2]
        have w2 := wMin (p := 0) hI1 rfl (hI1.ij.minute.add (isN.of (n := 1) (B := 300) (by omega) (by omega)) (by omega)) rfl
        exact RNJ_of rfl (w1.trans w2)
      · refine er_loc (pc' := 48) rfl rfl rfl ?_
        refine er_loc (pc' := 49) rfl rfl rfl ?_
        refine er_cIw (pc' := 52) (rest := []) 12 rfl rfl rfl rfl rfl rfl (l_rIsUndone _ _ _ hI1 hT hk2) ?_
        intro X2 Z2 w2
        refine er_goto rfl ?_
        refine er_k (pc' := 66) (nI 0) rfl rfl rfl ?_
        refine er_iret rfl rfl ?_
        have e2 : loS (jm (X1 64)) k (nI 0) = (jApart (jm (X1 64)) k, nI 0) := (if_neg (by rw [h21]; decide)).trans (if_pos h44)
        rw [eT, e2]
        exact RNJ_of rfl (w1.trans w2)
    · refine er_loc (pc' := 25) rfl rfl rfl ?_
      refine er_loc (pc' := 26) rfl rfl rfl ?_
      refine er_cIw (pc' := 29) (rest := []) 12 rfl rfl rfl rfl rfl rfl (l_rIsDone _ _ _ hI1 hT h21) ?_
      intro X2 Z2 w2
      refine er_k (pc' := 30) (nI 1) rfl rfl rfl ?_
      refine er_iret rfl rfl ?_
      have e2 : loS (jm (X1 64)) k (nI 0) = (jFin (jm (X1 64)) k, nI 0 + nI 1) := if_pos h21
      rw [eT, e2]
      exact RNJ_of (show nI 1 = nI 0 + nI 1 from by decide +kernel) (w1.trans w2)
  · have hs : jHas (jm (X1 64)) (nI k) = false := jHas_f hI1.ij hk2 (by omega)
    refine er_loc (pc' := 9) rfl rfl rfl ?_
    refine er_loc (pc' := 10) rfl rfl rfl ?_
    refine er_cIi (pc' := 13) (rest := []) 12 rfl rfl rfl rfl rfl rfl (l_rHas_f _ X1 _ hI1 hs) ?_
    refine er_if_eqT rfl (by decide +kernel) ?_
    refine er_loc (pc' := 32) rfl rfl rfl ?_
    refine er_loc (pc' := 33) rfl rfl rfl ?_
    refine er_cIi (pc' := 36) (rest := []) 12 rfl rfl rfl rfl rfl rfl (l_rHas_f _ X1 _ hI1 hs) ?_
    refine er_if_eqT rfl (by decide +kernel) ?_
    refine er_loc (pc' := 56) rfl rfl rfl ?_
    refine er_gf (pc' := 59) (_) rfl rfl rfl rfl rfl ?_
    refine er_k (pc' := 60) (nI 0) rfl rfl rfl ?_
    refine er_pure (pc' := 61) rfl rfl rfl ?_
    refine er_ia (pc' := 62) (0) rfl rfl rfl rfl (by omega) rfl rfl ?_
    refine er_k (pc' := 63) (nI 1) rfl rfl rfl ?_
    refine er_iadd (pc' := 64) rfl rfl ?_
    refine er_isX (pc' := 65) (0) rfl rfl (fun _ => rfl) rfl (by omega) rfl rfl ?_
    refine er_k (pc' := 66) (nI 0) rfl rfl rfl ?_
    refine er_iret rfl rfl ?_
    have e2 : loS (jm (X1 64)) k (nI 0) = (ud (jm (X1 64)) 0 10 (jm (X1 64) 0 10 + nI 1), nI 0) := (if_neg (by rw [(sMayDo_no hk2)]; decide)).trans (if_neg (by rw [(sMayUn_no hk2)]; decide))
    rw [eT, e2]
    have w2 := wMin (p := 0) hI1 rfl (hI1.ij.minute.add (isN.of (n := 1) (B := 300) (by omega) (by omega)) (by omega)) rfl
    exact RNJ_of rfl (w1.trans w2)
set_option maxRecDepth 100000 in
set_option maxHeartbeats 4000000 in
theorem l_rLoose_loop (d n : Nat) : ∀ (m i T : Nat) (X1 Z : Nat → Nat → Int32) (c x : Int32), (i + m = n ∧ n ≤ 40) → x = nI i → RK T (X1 64) → T + 300 * m < 1000000000 → ER (d + 8) tb_m170 45 [(0, .ref 63), (1, .int (nI n)), (2, .int c), (3, .int x)] [] (Wd X1 Z) (RNJ (itN loT m (jm (X1 64), c)).2 (itN loT m (jm (X1 64), c)).1 (T + 300 * m) X1)
  | 0, i, T, X1, Z, c, x, hi, hx, hI1, hb => by
    have hi0 : i = n := by omega
    subst hx
    subst hi0
    refine er_loc (pc' := 46) rfl rfl rfl ?_
    refine er_loc (pc' := 47) rfl rfl rfl ?_
    refine er_cm_geT rfl (nI_nlt (by omega) (by omega)) ?_
    refine er_loc (pc' := 64) rfl rfl rfl ?_
    refine er_iret rfl rfl ?_
    exact RNJ_of rfl (WJ.rf hI1)
  | m + 1, i, T, X1, Z, c, x, hi, hx, hI1, hb => by
    subst hx
    refine er_loc (pc' := 46) rfl rfl rfl ?_
    refine er_loc (pc' := 47) rfl rfl rfl ?_
    refine er_cm_geF (pc' := 50) rfl (nI_lt (by omega) (by omega)) rfl ?_
    refine er_loc (pc' := 51) rfl rfl rfl ?_
    refine er_loc (pc' := 52) rfl rfl rfl ?_
    refine er_cIj (pc' := 55) (rest := [_]) 12 rfl rfl rfl rfl rfl rfl (l_rDrawn _ _ _ hI1 (by omega)) ?_
    intro X2 Z2 w2
    refine er_iadd (pc' := 56) rfl rfl ?_
    refine er_loc (pc' := 57) (L' := [(2, _), (0, _), (1, _), (3, _)]) rfl rfl rfl ?_
    refine er_loc (pc' := 60) (L' := [(3, .int (_ + nI 1)), (2, _), (0, _), (1, _)]) rfl rfl rfl ?_
    refine er_goto rfl ?_
    refine ER_loc [(0, _), (1, _), (2, _), (3, _)] rfl (List.forall_mem_cons.mpr ⟨rfl, List.forall_mem_cons.mpr ⟨rfl, List.forall_mem_cons.mpr ⟨rfl, List.forall_mem_cons.mpr ⟨rfl, fun _ h => absurd h List.not_mem_nil⟩⟩⟩⟩) rfl rfl ?_
    have ih := l_rLoose_loop d n m (i + 1) (T + 300) X2 Z2 (c + (loT (jm (X1 64), nI 0)).2) _ ⟨by omega, by omega⟩ (nI_add i 1) w2.rk (by omega)
    rw [w2.j] at ih
    refine ER.mono ih (fun r hr => ?_)
    rw [itN_succ, loT_c (jm (X1 64)) c]
    rw [show T + 300 * (m + 1) = T + 300 + 300 * m by omega]
    exact RNJ.tr w2 hr
set_option maxRecDepth 100000 in
set_option maxHeartbeats 4000000 in
theorem l_rLoose (d : Nat) (X Z : Nat → Nat → Int32) {t : Nat} (hI : RK t (X 64)) (ht : t < 100000) (n : Int32) : EC (d + 9) 170 [.ref 63, .int n] (Wd X Z) (fun r => if sIn n (nI 1) (nI 40) = true then (if sLooseOk (jm (X 64)) n = true then RNJ (itN loT (nN n) (jm (X 64), nI 0)).2 (itN loT (nN n) (jm (X 64), nI 0)).1 (t + 300 * nN n) X r else RI (sErr 3) (yErr X 3) r) else RI (sErr 1) (yErr X 1) r) := by
  refine er_enter (L := [(0, _), (1, _)]) rfl rfl rfl ?_
  refine er_loc (pc' := 1) rfl rfl rfl ?_
  refine er_k (pc' := 2) (nI 1) rfl rfl rfl ?_
  refine er_k (pc' := 4) (nI 40) rfl rfl rfl ?_
  refine er_cSi (pc' := 7) (rest := []) rfl rfl rfl (l_in _ _ _ _ _) ?_
  refine er_if_neb (pc' := 10) rfl rfl (fun h7 => ?_) (fun h7 => ?_)
  · refine er_loc (pc' := 18) rfl rfl rfl ?_
    refine er_gf (pc' := 21) (_) rfl rfl rfl rfl rfl ?_
    refine er_k (pc' := 22) (nI 0) rfl rfl rfl ?_
    refine er_ia (pc' := 23) (0) rfl rfl rfl rfl (by omega) rfl rfl ?_
    refine er_k (pc' := 26) (nI 300) rfl rfl rfl ?_
    refine er_loc (pc' := 27) rfl rfl rfl ?_
    refine er_imul (pc' := 28) rfl rfl ?_
    refine er_iadd (pc' := 29) rfl rfl ?_
    refine er_ldc (pc' := 31) (99999) rfl rfl rfl rfl rfl ?_
    refine er_cm_le (pc' := 34) rfl rfl (fun h31 => ?_) (fun h31 => ?_)
    · refine er_k (pc' := 42) (nI 0) rfl rfl rfl ?_
      refine er_loc (pc' := 43) (L' := [(2, _), (0, _), (1, _)]) rfl rfl rfl ?_
      refine er_k (pc' := 44) (nI 0) rfl rfl rfl ?_
      refine er_loc (pc' := 45) (L' := [(3, _), (2, _), (0, _), (1, _)]) rfl rfl rfl ?_
      obtain ⟨j, h1j, h40j, hj⟩ := sIn_ex (by omega) (by omega) h7
      subst hj
      refine ER_loc [(0, _), (1, _), (2, _), (3, _)] rfl (List.forall_mem_cons.mpr ⟨rfl, List.forall_mem_cons.mpr ⟨rfl, List.forall_mem_cons.mpr ⟨rfl, List.forall_mem_cons.mpr ⟨rfl, fun _ h => absurd h List.not_mem_nil⟩⟩⟩⟩) rfl rfl ?_
      refine ER.mono (l_rLoose_loop (d := d) j j 0 t X Z (nI 0) _ ⟨by omega, h40j⟩ rfl hI (by omega)) (fun r hr => ?_)
      rw [if_pos h7, if_pos (by unfold sLooseOk; rw [jm010, Int32.mul_comm]; simp [h31]), nN_nI (by omega)]
      exact hr
    · refine er_loc (pc' := 35) rfl rfl rfl ?_
      refine er_ldc (pc' := 37) (-1000000003) rfl rfl rfl rfl rfl ?_
      refine er_cIz (pc' := 40) (rest := []) 12 rfl rfl rfl rfl rfl rfl (l_rError3 _ _ _) ?_
      intro Z9
      refine er_iret rfl rfl ?_
      rw [if_pos h7, if_neg (by unfold sLooseOk; rw [jm010, Int32.mul_comm]; simp [h31])]
      exact RI_of rfl rfl
  · refine er_loc (pc' := 11) rfl rfl rfl ?_
    refine er_ldc (pc' := 13) (-1000000001) rfl rfl rfl rfl rfl ?_
    refine er_cIz (pc' := 16) (rest := []) 12 rfl rfl rfl rfl rfl rfl (l_rError1 _ _ _) ?_
    intro Z9
    refine er_iret rfl rfl ?_
    rw [if_neg (by rw [h7]; decide)]
    exact RI_of rfl rfl
