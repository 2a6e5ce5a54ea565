/-! THE REFERENCE, its face: orders by a sheet -/
def FS (p : Nat) (X X' : Nat → Nat → Int32) : Prop := (∀ c, c ≠ 63 → c ≠ 64 → c ≠ 72 → c ≠ 74 → X' c = X c) ∧ X' 64 = X 64 ∧ (∀ k, k < 125 * p → X' 74 k = X 74 k) ∧ (∀ j, j ≠ 18 → j ≠ 19 → X' 63 j = X 63 j)
def RFS (p : Nat) (X : Nat → Nat → Int32) : ab_R → Prop := fun r => ∃ X' Z', r = (none, Wd X' Z') ∧ FS p X X'
section ERN
variable {d pc pc' lk : Nat} {M : ab_M} {L L' : ab_Lo} {st : List Value} {w : ab_W} {P : ab_R → Prop} {X Z : Nat → Nat → Int32}
theorem er_cIf (cls : Nat) {c j p : Nat} {ins : Instr} {fs As rest : List Value} (hf : ab_fetch M.2.2.2.2.2.2.2 pc = some (ins, lk)) (hi : isCI ins = true) (hq : qI lk cls st = some (c, j, As, rest)) (hc : Nat.blt c 79 = true) (ho : cO c (X c) (Z c) = .inl (cls, fs)) (hp : pc + 3 = pc') (h : EC d j As (Wd X Z) (RFS p X)) (k : ∀ X' Z', FS p X X' → ER d M pc' L rest (Wd X' Z') P) : ER d M pc L st (Wd X Z) P :=
  er_cI cls hf hi hq hc ho hp h (fun r hr => by obtain ⟨X', Z', rfl, h1⟩ := hr; exact k X' Z' h1)
end ERN
theorem FS_of {p : Nat} {X X' Z : Nat → Nat → Int32} (h : FS p X X') : RFS p X (none, Wd X' Z) := ⟨X', Z, rfl, h⟩
set_option maxRecDepth 100000 in
set_option maxHeartbeats 4000000 in
theorem l_rFl_loop (d F : Nat) (X : Nat → Nat → Int32) (a g p : Nat) (ha : a < 4) (hpg : p < g ∧ g ≤ 4) {T : Nat} (hI : RK T (X 64)) (hT : T + 300 < 2000000000) (hrec : ∀ (X3 Z3 : Nat → Nat → Int32), RK (T + 300) (X3 64) → X3 77 = X 77 → EC (d + 6 + F) 197 [.ref 63, .int (nI a), .int (nI (p + 1))] (Wd X3 Z3) (RFS (p + 1) X3)) : ∀ (m i : Nat) (x : Int32) (X1 Z : Nat → Nat → Int32), i + m = jn (jm (X 64)) → x = nI i → FS p X X1 → (∀ k, k < 125 → X1 74 (125 * p + k) = X 64 k) → ER (d + 6 + F) tb_m197 52 [(0, .ref 63), (1, .int (nI a)), (2, .int (nI p)), (3, .int x)] [] (Wd X1 Z) (RFS p X)
  | 0, i, x, X1, Z, hi, hx, hs, hsv => by
    have h8 := jn8 hI.ij
    have hI1 : RK T (X1 64) := by rw [hs.2.1]; exact hI
    have hn1 : X1 64 2 = nI (jn (jm (X 64))) := by rw [hs.2.1]; exact hI.n
    have hi0 : i = jn (jm (X 64)) := by omega
    subst hx
    subst hi0
    refine er_loc (pc' := 53) rfl rfl rfl ?_
    refine er_loc (pc' := 54) rfl rfl rfl ?_
    refine er_gf (pc' := 57) (_) rfl rfl rfl rfl rfl ?_
    refine er_k (pc' := 58) (nI 2) rfl rfl rfl ?_
    refine er_ia (pc' := 59) (2) rfl rfl rfl rfl (by omega) rfl rfl ?_
    rw [hn1]
    refine er_cm_geT rfl (nI_nlt (by omega) (by omega)) ?_
    refine er_vret rfl rfl ?_
    exact FS_of hs
  | m + 1, i, x, X1, Z, hi, hx, hs, hsv => by
    have h8 := jn8 hI.ij
    have hT1 : T < 2000000000 := by omega
    have hj1 : jm (X1 64) = jm (X 64) := by rw [hs.2.1]
    have hI1 : RK T (X1 64) := by rw [hs.2.1]; exact hI
    have hn1 : X1 64 2 = nI (jn (jm (X 64))) := by rw [hs.2.1]; exact hI.n
    subst hx
    refine er_loc (pc' := 53) rfl rfl rfl ?_
    refine er_loc (pc' := 54) rfl rfl rfl ?_
    refine er_gf (pc' := 57) (_) rfl rfl rfl rfl rfl ?_
    refine er_k (pc' := 58) (nI 2) rfl rfl rfl ?_
    refine er_ia (pc' := 59) (2) rfl rfl rfl rfl (by omega) rfl rfl ?_
    rw [hn1]
    refine er_cm_geF (pc' := 62) rfl (nI_lt (by omega) (by omega)) rfl ?_
    refine er_loc (pc' := 63) rfl rfl rfl ?_
    refine er_loc (pc' := 64) rfl rfl rfl ?_
    refine er_cIi (pc' := 67) (rest := []) 12 rfl rfl rfl rfl rfl rfl (EC.up (l_rMayDo d X1 _ hI1 (k := i) (by rw [hj1]; omega)) (by omega)) ?_
    rw [hj1]
    refine er_if_eqb (pc' := 70) rfl rfl (fun h67 => ?_) (fun h67 => ?_)
    · refine er_loc (L' := [(3, .int (_ + nI 1)), (0, _), (1, _), (2, _)]) rfl rfl rfl ?_
      refine er_goto rfl ?_
      refine ER_loc [(0, _), (1, _), (2, _), (3, _)] rfl (List.forall_mem_cons.mpr ⟨rfl, List.forall_mem_cons.mpr ⟨rfl, List.forall_mem_cons.mpr ⟨rfl, List.forall_mem_cons.mpr ⟨rfl, fun _ h => absurd h List.not_mem_nil⟩⟩⟩⟩) rfl rfl ?_
      exact l_rFl_loop d F X a g p ha hpg hI hT hrec m (i + 1) _ X1 _ (by omega) (nI_add i 1) hs hsv
    · refine er_loc (pc' := 71) rfl rfl rfl ?_
      refine er_loc (pc' := 72) rfl rfl rfl ?_
      refine er_cIz (pc' := 75) (rest := []) 12 rfl rfl rfl rfl rfl rfl (EC.up (l_rLastsOf d X1 _ hI1 (by omega) (k := i) (by rw [hj1]; omega)) (by omega)) ?_
      intro Z6
      refine er_loc (pc' := 76) rfl rfl rfl ?_
      refine er_gf (pc' := 79) (_) rfl rfl rfl rfl rfl ?_
      refine er_k (pc' := 81) (nI 40) rfl rfl rfl ?_
      refine er_loc (pc' := 82) rfl rfl rfl ?_
      refine er_imul (pc' := 83) rfl rfl ?_
      refine er_loc (pc' := 84) rfl rfl rfl ?_
      refine er_iadd (pc' := 85) rfl rfl ?_
      refine er_ia (pc' := 86) (((40 * a) + p)) rfl rfl rfl (by simp only [nI_add, nI_mul]) (by omega) rfl rfl ?_
      refine er_cm_ne (pc' := 89) rfl rfl (fun h86 => ?_) (fun h86 => ?_)
      · refine er_loc (L' := [(3, .int (_ + nI 1)), (0, _), (1, _), (2, _)]) rfl rfl rfl ?_
        refine er_goto rfl ?_
        refine ER_loc [(0, _), (1, _), (2, _), (3, _)] rfl (List.forall_mem_cons.mpr ⟨rfl, List.forall_mem_cons.mpr ⟨rfl, List.forall_mem_cons.mpr ⟨rfl, List.forall_mem_cons.mpr ⟨rfl, fun _ h => absurd h List.not_mem_nil⟩⟩⟩⟩) rfl rfl ?_
        exact l_rFl_loop d F X a g p ha hpg hI hT hrec m (i + 1) _ X1 _ (by omega) (nI_add i 1) hs hsv
      · refine er_loc (pc' := 90) rfl rfl rfl ?_
        refine er_gf (pc' := 93) (_) rfl rfl rfl rfl rfl ?_
        refine er_loc (pc' := 94) rfl rfl rfl ?_
        refine er_loc (pc' := 95) rfl rfl rfl ?_
        refine er_isX (pc' := 96) (p) rfl rfl (fun _ => rfl) rfl (by omega) rfl rfl ?_
        refine er_loc (pc' := 97) rfl rfl rfl ?_
        refine er_loc (pc' := 98) rfl rfl rfl ?_
        refine er_cIw (pc' := 101) (rest := []) 12 rfl rfl rfl rfl rfl rfl (EC.up (l_rIsDone d (ud X1 72 p (nI i)) _ (by rw [ud_ne (by omega)]; exact hI1) hT1 (by rw [ud_ne (by omega), hj1]; exact h67)) (by omega)) ?_
        intro X3 Z3 w3
        have hj3 : jm (X3 64) = jFin (jm (X 64)) i := by rw [w3.j]; exact congrArg (fun J => jFin J i) hj1
        refine er_loc (pc' := 102) rfl rfl rfl ?_
        refine er_loc (pc' := 103) rfl rfl rfl ?_
        refine er_loc (pc' := 104) rfl rfl rfl ?_
        refine er_k (pc' := 105) (nI 1) rfl rfl rfl ?_
        refine er_iadd rfl rfl ?_
        rw [nI_add p 1]
        refine er_cIf (pc' := 109) (rest := []) 12 rfl rfl rfl rfl rfl rfl (hrec X3 Z3 w3.rk (by rw [w3.off (by omega), ud_ne (by omega), hs.1 77 (by omega) (by omega) (by omega) (by omega)])) ?_
        intro X4 Z4 t4
        refine er_loc (pc' := 110) rfl rfl rfl ?_
        refine er_loc (pc' := 111) rfl rfl rfl ?_
        refine er_cIv (pc' := 114) (rest := []) 12 rfl rfl rfl rfl rfl rfl (EC.up (l_rTakes d _ _ (p := p) (by omega)) (by omega)) ?_
        have hrow : cpf (X4 74) (X4 64) (125 * p) 0 125 = X 64 := take_row (X1 := X) (X2 := X) (fun k hk => by rw [t4.2.2.1 _ (by omega), w3.off (by omega), ud_ne (by omega)]; exact hsv k hk) (fun k hk => by rw [t4.2.1, w3.2.2.2 k hk, ud_ne (by omega), hs.2.1])
        intro Z7
        refine er_loc (L' := [(3, .int (_ + nI 1)), (0, _), (1, _), (2, _)]) rfl rfl rfl ?_
        refine er_goto rfl ?_
        refine ER_loc [(0, _), (1, _), (2, _), (3, _)] rfl (List.forall_mem_cons.mpr ⟨rfl, List.forall_mem_cons.mpr ⟨rfl, List.forall_mem_cons.mpr ⟨rfl, List.forall_mem_cons.mpr ⟨rfl, fun _ h => absurd h List.not_mem_nil⟩⟩⟩⟩) rfl rfl ?_
        refine l_rFl_loop d F X a g p ha hpg hI hT hrec m (i + 1) _ _ _ (by omega) (nI_add i 1) ?_ ?_
        · refine ⟨fun c a1 a2 a3 a5 => ?_, by rw [uc_same]; exact hrow, fun k hk => ?_, fun j j1 j2 => ?_⟩
          · rw [uc_ne a2, t4.1 c a1 a2 a3 a5, w3.off a2, ud_ne a3]; exact hs.1 c a1 a2 a3 a5
          · rw [uc_ne (by omega), t4.2.2.1 k (by omega), w3.off (by omega), ud_ne (by omega)]; exact hs.2.2.1 k hk
          · rw [uc_ne (by omega), t4.2.2.2 j j1 j2, w3.off (by omega), ud_ne (by omega)]; exact hs.2.2.2 j j1 j2
        · intro k hk
          rw [uc_ne (by omega), t4.2.2.1 _ (by omega), w3.off (by omega), ud_ne (by omega)]
          exact hsv k hk
set_option maxRecDepth 100000 in
set_option maxHeartbeats 4000000 in
theorem l_rFitsOn (d a g : Nat) (ha : a < 4) (h4 : g ≤ 4) : ∀ (F p : Nat) (X Z : Nat → Nat → Int32) (T : Nat), p + F = g → RK T (X 64) → T + 300 * F < 1000000000 → X 77 a = nI g → EC (d + 6 + F) 197 [.ref 63, .int (nI a), .int (nI p)] (Wd X Z) (RFS p X)
  | 0, p, X, Z, T, hp, hI, hT, hg => by
    refine er_enter (L := [(0, _), (1, _), (2, _)]) rfl rfl rfl ?_
    refine er_loc (pc' := 1) rfl rfl rfl ?_
    refine er_loc (pc' := 2) rfl rfl rfl ?_
    refine er_gf (pc' := 5) (_) rfl rfl rfl rfl rfl ?_
    refine er_loc (pc' := 6) rfl rfl rfl ?_
    refine er_ia (pc' := 7) (a) rfl rfl rfl rfl (by omega) rfl rfl ?_
    rw [hg]
    refine er_cm_neF (pc' := 10) rfl (by rw [show p = g by omega]) rfl ?_
    refine er_loc (pc' := 11) rfl rfl rfl ?_
    refine er_pure (pc' := 12) rfl rfl rfl ?_
    refine er_gf (pc' := 15) (.int (X 63 18)) rfl rfl rfl rfl rfl ?_
    refine er_k (pc' := 16) (nI 1) rfl rfl rfl ?_
    refine er_iadd (pc' := 17) rfl rfl ?_
    refine er_pfIX (pc' := 20) 18 rfl rfl rfl rfl rfl rfl ?_
    refine er_loc (pc' := 21) rfl rfl rfl ?_
    refine er_loc (pc' := 22) rfl rfl rfl ?_
    refine er_gf (pc' := 25) (.int (ud X 63 18 (X 63 18 + nI 1) 63 19)) rfl rfl rfl rfl rfl ?_
    refine er_if_ge (pc' := 28) rfl rfl (fun h25 => ?_) (fun h25 => ?_)
    · refine er_loc (pc' := 38) rfl rfl rfl ?_
      refine er_gf (pc' := 41) (.int (ud X 63 18 (X 63 18 + nI 1) 63 19)) rfl rfl rfl rfl rfl ?_
      refine er_pfIX (pc' := 44) 19 rfl rfl rfl rfl rfl rfl ?_
      refine er_vret rfl rfl ?_
      refine FS_of ⟨fun c a1 a2 a3 a5 => by rw [ud_ne a1, ud_ne a1], by rw [ud_ne (by omega), ud_ne (by omega)], fun k hk => by rw [ud_ne (by omega), ud_ne (by omega)], fun j j1 j2 => ?_⟩
      rw [ud_same, u1_ne j2, ud_same, u1_ne j1]
    · refine er_loc (pc' := 29) rfl rfl rfl ?_
      refine er_gf (pc' := 32) (_) rfl rfl rfl rfl rfl ?_
      refine er_k (pc' := 33) (nI 0) rfl rfl rfl ?_
      refine er_ia (pc' := 34) (0) rfl rfl rfl rfl (by omega) rfl rfl ?_
      refine er_goto rfl ?_
      refine er_pfIX (pc' := 44) 19 rfl rfl rfl rfl rfl rfl ?_
      refine er_vret rfl rfl ?_
      refine FS_of ⟨fun c a1 a2 a3 a5 => by rw [ud_ne a1, ud_ne a1], by rw [ud_ne (by omega), ud_ne (by omega)], fun k hk => by rw [ud_ne (by omega), ud_ne (by omega)], fun j j1 j2 => ?_⟩
      rw [ud_same, u1_ne j2, ud_same, u1_ne j1]
  | F + 1, p, X, Z, T, hp, hI, hT, hg => by
    rw [show d + 6 + (F + 1) = d + 6 + F + 1 by omega]
    refine er_enter (L := [(0, _), (1, _), (2, _)]) rfl rfl rfl ?_
    refine er_loc (pc' := 1) rfl rfl rfl ?_
    refine er_loc (pc' := 2) rfl rfl rfl ?_
    refine er_gf (pc' := 5) (_) rfl rfl rfl rfl rfl ?_
    refine er_loc (pc' := 6) rfl rfl rfl ?_
    refine er_ia (pc' := 7) (a) rfl rfl rfl rfl (by omega) rfl rfl ?_
    rw [hg]
    refine er_cm_neT rfl (fun hh => absurd (nIj (by omega) (by omega) hh) (by omega)) ?_
    refine er_loc (pc' := 46) rfl rfl rfl ?_
    refine er_loc (pc' := 47) rfl rfl rfl ?_
    refine er_cIv (pc' := 50) (rest := []) 12 rfl rfl rfl rfl rfl rfl (EC.up (l_rLays d X _ (p := p) (by omega)) (by omega)) ?_
    intro Z5
    refine er_k (pc' := 51) (nI 0) rfl rfl rfl ?_
    refine er_loc (pc' := 52) (L' := [(3, _), (0, _), (1, _), (2, _)]) rfl rfl rfl ?_
    refine ER_loc [(0, _), (1, _), (2, _), (3, _)] rfl (List.forall_mem_cons.mpr ⟨rfl, List.forall_mem_cons.mpr ⟨rfl, List.forall_mem_cons.mpr ⟨rfl, List.forall_mem_cons.mpr ⟨rfl, fun _ h => absurd h List.not_mem_nil⟩⟩⟩⟩) rfl rfl ?_
    refine l_rFl_loop d F X a g p ha ⟨by omega, h4⟩ hI (by omega) ?_ (jn (jm (X 64))) 0 _ _ _ (by omega) rfl ?_ ?_
    · intro X3 Z3 hI3 h77
      exact l_rFitsOn d a g ha h4 F (p + 1) X3 Z3 (T + 300) (by omega) hI3 (by omega) (by rw [h77]; exact hg)
    · exact ⟨fun c a1 a2 a3 a5 => uc_ne a5, uc_ne (by omega), fun k hk => by rw [uc_same, cpf_at, if_neg (by omega)], fun j _ _ => by rw [uc_ne (by omega)]⟩
    · intro k hk
      rw [uc_same, cpf_at, if_pos ⟨by omega, by omega⟩]
      congr 1
      omega
def OM (X X' : Nat → Nat → Int32) : Prop := (∀ c, c ≠ 63 → c ≠ 64 → c ≠ 66 → c ≠ 67 → c ≠ 72 → c ≠ 73 → c ≠ 74 → X' c = X c) ∧ X' 63 3 = X 63 3 ∧ X' 63 21 = X 63 21
theorem OM.err {X X' : Nat → Nat → Int32} {k : Nat} (h : OM X X') : OM X (yErr X' k) := ⟨fun c a1 a2 a3 a4 a5 a6 a7 => by unfold yErr; rw [ud_ne a4]; exact h.1 c a1 a2 a3 a4 a5 a6 a7, by unfold yErr; rw [ud_ne (by omega)]; exact h.2.1, by unfold yErr; rw [ud_ne (by omega)]; exact h.2.2⟩
theorem OM.rf (X : Nat → Nat → Int32) : OM X X := ⟨fun _ _ _ _ _ _ _ _ => rfl, rfl, rfl⟩
def ROs (X : Nat → Nat → Int32) : ab_R → Prop := fun r => ∃ v X' Z', r = (some (.int v), Wd X' Z') ∧ X' 64 = X 64 ∧ OM X X'
theorem ROs_of {v : Int32} {X X' Z : Nat → Nat → Int32} (h1 : X' 64 = X 64) (h : OM X X') : ROs X (some (.int v), Wd X' Z) := ⟨v, X', Z, rfl, h1, h⟩
theorem ROs_err {k : Nat} {v : Int32} {X X' Z : Nat → Nat → Int32} (h1 : X' 64 = X 64) (h : OM X X') : ROs X (some (.int v), Wd (yErr X' k) Z) := ROs_of (by unfold yErr; rw [ud_ne (by omega)]; exact h1) h.err
theorem FS_OM {X X4 : Nat → Nat → Int32} (t4 : FS 0 (ud (ud X 63 18 (nI 0)) 63 19 (-1)) X4) : X4 64 = X 64 ∧ OM X X4 := by
  refine ⟨by rw [t4.2.1, ud_ne (by omega), ud_ne (by omega)], fun c a1 a2 a3 a4 a5 a6 a7 => by rw [t4.1 c a1 a2 a5 a7, ud_ne a1, ud_ne a1], ?_, ?_⟩
  · rw [t4.2.2.2 3 (by omega) (by omega), ud_same, u1_ne (by omega), ud_same, u1_ne (by omega)]
  · rw [t4.2.2.2 21 (by omega) (by omega), ud_same, u1_ne (by omega), ud_same, u1_ne (by omega)]
set_option maxRecDepth 100000 in
set_option maxHeartbeats 4000000 in
theorem l_rOrders_no (d : Nat) (X Z : Nat → Nat → Int32) (s w : Int32) (hs : (sIn s (nI 0) (nI 3) && sIn w (nI 0) (nI 1)) = false) : EC (d + 3) 195 [.ref 63, .int s, .int w] (Wd X Z) (RI (sErr 1) (yErr X 1)) := by
  refine er_enter (L := [(0, _), (1, _), (2, _)]) rfl rfl rfl ?_
  refine er_loc (pc' := 1) rfl rfl rfl ?_
  refine er_cSi (pc' := 4) (rest := []) rfl rfl rfl (l_mSheet _ _ _) ?_
  refine er_if_eqb (pc' := 7) rfl rfl (fun h4 => ?_) (fun h4 => ?_)
  · refine er_loc (pc' := 17) rfl rfl rfl ?_
    refine er_ldc (pc' := 19) (-1000000001) rfl rfl rfl rfl rfl ?_
    refine er_cIz (pc' := 22) (rest := []) 12 rfl rfl rfl rfl rfl rfl (l_rError1 _ _ _) ?_
    intro Z9
    refine er_iret rfl rfl ?_
    exact RI_of rfl rfl
  · refine er_loc (pc' := 8) rfl rfl rfl ?_
    refine er_k (pc' := 9) (nI 0) rfl rfl rfl ?_
    refine er_k (pc' := 10) (nI 1) rfl rfl rfl ?_
    refine er_cSi (pc' := 13) (rest := []) rfl rfl rfl (l_in _ _ _ _ _) ?_
    refine er_if_neb (pc' := 16) rfl rfl (fun h13 => ?_) (fun h13 => ?_)
    · exact absurd hs (by rw [h4, h13]; decide)
    · refine er_loc (pc' := 17) rfl rfl rfl ?_
      refine er_ldc (pc' := 19) (-1000000001) rfl rfl rfl rfl rfl ?_
      refine er_cIz (pc' := 22) (rest := []) 12 rfl rfl rfl rfl rfl rfl (l_rError1 _ _ _) ?_
      intro Z9
      refine er_iret rfl rfl ?_
      exact RI_of rfl rfl
set_option maxRecDepth 100000 in
set_option maxHeartbeats 4000000 in
theorem l_rOrders (d : Nat) (X Z : Nat → Nat → Int32) {T : Nat} (hI : RK T (X 64)) (hT9 : T < 1000000) {a : Nat} (ha : a < 4) (w : Int32) (hw : sIn w (nI 0) (nI 1) = true) {g : Nat} (hg : X 77 a = nI g) (h40 : g ≤ 40) : EC (d + 12) 195 [.ref 63, .int (nI a), .int w] (Wd X Z) (ROs X) := by
  refine er_enter (L := [(0, _), (1, _), (2, _)]) rfl rfl rfl ?_
  refine er_loc (pc' := 1) rfl rfl rfl ?_
  refine er_cSi (pc' := 4) (rest := []) rfl rfl rfl (l_mSheet _ _ _) ?_
  rw [sIn_t (Nat.zero_le _) (show a ≤ 3 by omega) (by omega)]
  refine er_if_eqF (pc' := 7) rfl (by decide +kernel) rfl ?_
  refine er_loc (pc' := 8) rfl rfl rfl ?_
  refine er_k (pc' := 9) (nI 0) rfl rfl rfl ?_
  refine er_k (pc' := 10) (nI 1) rfl rfl rfl ?_
  refine er_cSi (pc' := 13) (rest := []) rfl rfl rfl (l_in _ _ _ _ _) ?_
  rw [hw]
  refine er_if_neT rfl (by decide +kernel) ?_
  refine er_loc (pc' := 24) rfl rfl rfl ?_
  refine er_gf (pc' := 27) (_) rfl rfl rfl rfl rfl ?_
  refine er_loc (pc' := 28) rfl rfl rfl ?_
  refine er_ia (pc' := 29) (a) rfl rfl rfl rfl ha rfl rfl ?_
  refine er_if_eq (pc' := 32) rfl rfl (fun h29 => ?_) (fun h29 => ?_)
  · refine er_loc (pc' := 47) rfl rfl rfl ?_
    refine er_ldc (pc' := 49) (-1000000002) rfl rfl rfl rfl rfl ?_
    refine er_cIz (pc' := 52) (rest := []) 12 rfl rfl rfl rfl rfl rfl (l_rError2 _ _ _) ?_
    intro Z9
    refine er_iret rfl rfl ?_
    exact ROs_err rfl (OM.rf X)
  · refine er_loc (pc' := 33) rfl rfl rfl ?_
    refine er_gf (pc' := 36) (_) rfl rfl rfl rfl rfl ?_
    refine er_loc (pc' := 37) rfl rfl rfl ?_
    refine er_ia (pc' := 38) (a) rfl rfl rfl rfl (by omega) rfl rfl ?_
    refine er_k (pc' := 39) (nI 1) rfl rfl rfl ?_
    refine er_k (pc' := 40) (nI 4) rfl rfl rfl ?_
    refine er_cSi (pc' := 43) (rest := []) rfl rfl rfl (l_in _ _ _ _ _) ?_
    refine er_if_neb (pc' := 46) rfl rfl (fun h43 => ?_) (fun h43 => ?_)
    · obtain ⟨q, q1, q4, hq⟩ := sIn_ex (by omega) (by omega) h43
      have hgq : g = q := nIj (by omega) (by omega) (hg.symm.trans hq)
      refine er_loc (pc' := 54) rfl rfl rfl ?_
      refine er_k (pc' := 55) (nI 0) rfl rfl rfl ?_
      refine er_pfIX (pc' := 58) 18 rfl rfl rfl rfl rfl rfl ?_
      refine er_loc (pc' := 59) rfl rfl rfl ?_
      refine er_k (pc' := 60) (-1) rfl rfl rfl ?_
      refine er_pfIX (pc' := 63) 19 rfl rfl rfl rfl rfl rfl ?_
      refine er_loc (pc' := 64) rfl rfl rfl ?_
      refine er_loc (pc' := 65) rfl rfl rfl ?_
      refine er_k (pc' := 66) (nI 0) rfl rfl rfl ?_
      refine er_cIf (pc' := 69) (rest := []) 12 rfl rfl rfl rfl rfl rfl (EC.up (l_rFitsOn d a g ha (by omega) g 0 (ud (ud X 63 18 (nI 0)) 63 19 (-1)) _ T (by omega) hI (by omega) (by rw [ud_ne (by omega), ud_ne (by omega)]; exact hg)) (by omega)) ?_
      intro X4 Z4 t4
      obtain ⟨e64, om⟩ := FS_OM t4
      refine er_loc (pc' := 70) rfl rfl rfl ?_
      refine er_if_ne (pc' := 73) rfl rfl (fun h70 => ?_) (fun h70 => ?_)
      · refine er_loc (pc' := 81) rfl rfl rfl ?_
        refine er_gf (pc' := 84) (.int (X4 63 19)) rfl rfl rfl rfl rfl ?_
        refine er_if_ge (pc' := 87) rfl rfl (fun h84 => ?_) (fun h84 => ?_)
        · refine er_loc (pc' := 97) rfl rfl rfl ?_
          refine er_gf (pc' := 100) (.int (X4 63 19)) rfl rfl rfl rfl rfl ?_
          refine er_iret rfl rfl ?_
          exact ROs_of e64 om
        · refine er_loc (pc' := 88) rfl rfl rfl ?_
          refine er_ldc (pc' := 90) (-1000000002) rfl rfl rfl rfl rfl ?_
          refine er_cIz (pc' := 93) (rest := []) 12 rfl rfl rfl rfl rfl rfl (l_rError2 _ _ _) ?_
          intro Z9
          refine er_goto rfl ?_
          refine er_iret rfl rfl ?_
          exact ROs_err e64 om
      · refine er_loc (pc' := 74) rfl rfl rfl ?_
        refine er_gf (pc' := 77) (.int (X4 63 18)) rfl rfl rfl rfl rfl ?_
        refine er_goto rfl ?_
        refine er_iret rfl rfl ?_
        exact ROs_of e64 om
    · refine er_loc (pc' := 47) rfl rfl rfl ?_
      refine er_ldc (pc' := 49) (-1000000002) rfl rfl rfl rfl rfl ?_
      refine er_cIz (pc' := 52) (rest := []) 12 rfl rfl rfl rfl rfl rfl (l_rError2 _ _ _) ?_
      intro Z9
      refine er_iret rfl rfl ?_
      exact ROs_err rfl (OM.rf X)
