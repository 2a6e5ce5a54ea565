/-! THE REFERENCE, its face: the best order, one by one -/
theorem cpf_at {f g : Nat → Int32} {sp dp n i : Nat} : cpf f g sp dp n i = if dp ≤ i ∧ i < dp + n then f (i - dp + sp) else g i := rfl
theorem cpf_sD {f g : Nat → Int32} {q i : Nat} : u1 (cpf f g 0 q i) (q + i) (f i) = cpf f g 0 q (i + 1) := by
  funext j
  rw [u1_at, cpf_at, cpf_at]
  by_cases h : j = q + i
  · subst h
    rw [if_pos rfl, if_pos ⟨by omega, by omega⟩]
    congr 1
    omega
  · rw [if_neg h]
    by_cases h2 : q ≤ j ∧ j < q + i
    · rw [if_pos h2, if_pos ⟨h2.1, by omega⟩]
    · rw [if_neg h2, if_neg (fun hh => h2 ⟨hh.1, by omega⟩)]
theorem cpf_sS {f g : Nat → Int32} {q i : Nat} : u1 (cpf f g q 0 i) i (f (q + i)) = cpf f g q 0 (i + 1) := by
  funext j
  rw [u1_at, cpf_at, cpf_at]
  by_cases h : j = i
  · subst h
    rw [if_pos rfl, if_pos ⟨by omega, by omega⟩]
    congr 1
    omega
  · rw [if_neg h]
    by_cases h2 : 0 ≤ j ∧ j < 0 + i
    · rw [if_pos h2, if_pos ⟨h2.1, by omega⟩]
    · rw [if_neg h2, if_neg (fun hh => h2 ⟨hh.1, by omega⟩)]
theorem cpf_z {f g : Nat → Int32} {sp dp : Nat} : cpf f g sp dp 0 = g := by
  funext j
  exact if_neg (by omega)
set_option maxRecDepth 100000 in
set_option maxHeartbeats 4000000 in
theorem l_rLa_loop (d : Nat) (X Z : Nat → Nat → Int32) {p : Nat} (hp : p ≤ 4) : ∀ (m i : Nat) (x : Int32), i + m = 125 → x = nI i → ER (d + 1) tb_m184 2 [(0, .ref 63), (1, .int (nI p)), (2, .int x)] [] (Wd (uc X 74 (cpf (X 64) (X 74) 0 (125 * p) i)) Z) (RV (uc X 74 (cpf (X 64) (X 74) 0 (125 * p) 125)))
  | 0, i, x, hi, h0 => by
    have hi0 : i = 125 := by omega
    subst h0
    subst hi0
    refine er_loc (pc' := 3) rfl rfl rfl ?_
    refine er_k (pc' := 5) (nI 125) rfl rfl rfl ?_
    refine er_cm_geT rfl (nI_nlt (by omega) (by omega)) ?_
    refine er_vret rfl rfl ?_
    exact RV_of rfl
  | m + 1, i, x, hi, h0 => by
    subst h0
    refine er_loc (pc' := 3) rfl rfl rfl ?_
    refine er_k (pc' := 5) (nI 125) rfl rfl rfl ?_
    refine er_cm_geF (pc' := 8) rfl (nI_lt (by omega) (by omega)) rfl ?_
    refine er_loc (pc' := 9) rfl rfl rfl ?_
    refine er_gf (pc' := 12) (_) rfl rfl rfl rfl rfl ?_
    refine er_k (pc' := 14) (nI 125) rfl rfl rfl ?_
    refine er_loc (pc' := 15) rfl rfl rfl ?_
    refine er_imul (pc' := 16) rfl rfl ?_
    refine er_loc (pc' := 17) rfl rfl rfl ?_
    refine er_iadd (pc' := 18) rfl rfl ?_
    refine er_loc (pc' := 19) rfl rfl rfl ?_
    refine er_gf (pc' := 22) (_) rfl rfl rfl rfl rfl ?_
    refine er_loc (pc' := 23) rfl rfl rfl ?_
    refine er_ia (pc' := 24) (i) rfl rfl rfl rfl (by omega) rfl rfl ?_
    refine er_isX (pc' := 25) (((125 * p) + i)) rfl rfl (fun _ => rfl) (by simp only [nI_add, nI_mul]) (by omega) rfl rfl ?_
    refine er_loc (L' := [(2, .int (_ + nI 1)), (0, _), (1, _)]) rfl rfl rfl ?_
    refine er_goto rfl ?_
    refine ER_loc [(0, _), (1, _), (2, _)] rfl (List.forall_mem_cons.mpr ⟨rfl, List.forall_mem_cons.mpr ⟨rfl, List.forall_mem_cons.mpr ⟨rfl, fun _ h => absurd h List.not_mem_nil⟩⟩⟩) rfl rfl ?_
    have ih := l_rLa_loop d X Z hp m (i + 1) _ (by omega) (nI_add i 1)
    rw [uc_ne (show 64 ≠ 74 by omega)]
    rw [show ud (uc X 74 (cpf (X 64) (X 74) 0 (125 * p) i)) 74 (125 * p + i) (X 64 i) = uc X 74 (cpf (X 64) (X 74) 0 (125 * p) (i + 1)) from by unfold ud; rw [uc_uc, uc_same, cpf_sD]]
    exact ih
set_option maxRecDepth 100000 in
set_option maxHeartbeats 4000000 in
theorem l_rLays (d : Nat) (X Z : Nat → Nat → Int32) {p : Nat} (hp : p ≤ 4) : EC (d + 2) 184 [.ref 63, .int (nI p)] (Wd X Z) (RV (uc X 74 (cpf (X 64) (X 74) 0 (125 * p) 125))) := by
  refine er_enter (L := [(0, _), (1, _)]) rfl rfl rfl ?_
  refine er_k (pc' := 1) (nI 0) rfl rfl rfl ?_
  refine er_loc (pc' := 2) (L' := [(2, _), (0, _), (1, _)]) rfl rfl rfl ?_
  refine ER_loc [(0, _), (1, _), (2, _)] rfl (List.forall_mem_cons.mpr ⟨rfl, List.forall_mem_cons.mpr ⟨rfl, List.forall_mem_cons.mpr ⟨rfl, fun _ h => absurd h List.not_mem_nil⟩⟩⟩) rfl rfl ?_
  have h := l_rLa_loop d X Z hp 125 0 (nI 0) (by omega) rfl
  rw [cpf_z, uc_id] at h
  exact h
set_option maxRecDepth 100000 in
set_option maxHeartbeats 4000000 in
theorem l_rTa_loop (d : Nat) (X Z : Nat → Nat → Int32) {p : Nat} (hp : p ≤ 4) : ∀ (m i : Nat) (x : Int32), i + m = 125 → x = nI i → ER (d + 1) tb_m185 2 [(0, .ref 63), (1, .int (nI p)), (2, .int x)] [] (Wd (uc X 64 (cpf (X 74) (X 64) (125 * p) 0 i)) Z) (RV (uc X 64 (cpf (X 74) (X 64) (125 * p) 0 125)))
  | 0, i, x, hi, h0 => by
    have hi0 : i = 125 := by omega
    subst h0
    subst hi0
    refine er_loc (pc' := 3) rfl rfl rfl ?_
    refine er_k (pc' := 5) (nI 125) rfl rfl rfl ?_
    refine er_cm_geT rfl (nI_nlt (by omega) (by omega)) ?_
    refine er_vret rfl rfl ?_
    exact RV_of rfl
  | m + 1, i, x, hi, h0 => by
    subst h0
    refine er_loc (pc' := 3) rfl rfl rfl ?_
    refine er_k (pc' := 5) (nI 125) rfl rfl rfl ?_
    refine er_cm_geF (pc' := 8) rfl (nI_lt (by omega) (by omega)) rfl ?_
    refine er_loc (pc' := 9) rfl rfl rfl ?_
    refine er_gf (pc' := 12) (_) rfl rfl rfl rfl rfl ?_
    refine er_loc (pc' := 13) rfl rfl rfl ?_
    refine er_loc (pc' := 14) rfl rfl rfl ?_
    refine er_gf (pc' := 17) (_) rfl rfl rfl rfl rfl ?_
    refine er_k (pc' := 19) (nI 125) rfl rfl rfl ?_
    refine er_loc (pc' := 20) rfl rfl rfl ?_
    refine er_imul (pc' := 21) rfl rfl ?_
    refine er_loc (pc' := 22) rfl rfl rfl ?_
    refine er_iadd (pc' := 23) rfl rfl ?_
    refine er_ia (pc' := 24) (((125 * p) + i)) rfl rfl rfl (by simp only [nI_add, nI_mul]) (by omega) rfl rfl ?_
    refine er_isX (pc' := 25) (i) rfl rfl (fun _ => rfl) rfl (by omega) rfl rfl ?_
    refine er_loc (L' := [(2, .int (_ + nI 1)), (0, _), (1, _)]) rfl rfl rfl ?_
    refine er_goto rfl ?_
    refine ER_loc [(0, _), (1, _), (2, _)] rfl (List.forall_mem_cons.mpr ⟨rfl, List.forall_mem_cons.mpr ⟨rfl, List.forall_mem_cons.mpr ⟨rfl, fun _ h => absurd h List.not_mem_nil⟩⟩⟩) rfl rfl ?_
    have ih := l_rTa_loop d X Z hp m (i + 1) _ (by omega) (nI_add i 1)
    rw [uc_ne (show 74 ≠ 64 by omega)]
    rw [show ud (uc X 64 (cpf (X 74) (X 64) (125 * p) 0 i)) 64 i (X 74 (125 * p + i)) = uc X 64 (cpf (X 74) (X 64) (125 * p) 0 (i + 1)) from by unfold ud; rw [uc_uc, uc_same, cpf_sS]]
    exact ih
set_option maxRecDepth 100000 in
set_option maxHeartbeats 4000000 in
theorem l_rTakes (d : Nat) (X Z : Nat → Nat → Int32) {p : Nat} (hp : p ≤ 4) : EC (d + 2) 185 [.ref 63, .int (nI p)] (Wd X Z) (RV (uc X 64 (cpf (X 74) (X 64) (125 * p) 0 125))) := by
  refine er_enter (L := [(0, _), (1, _)]) rfl rfl rfl ?_
  refine er_k (pc' := 1) (nI 0) rfl rfl rfl ?_
  refine er_loc (pc' := 2) (L' := [(2, _), (0, _), (1, _)]) rfl rfl rfl ?_
  refine ER_loc [(0, _), (1, _), (2, _)] rfl (List.forall_mem_cons.mpr ⟨rfl, List.forall_mem_cons.mpr ⟨rfl, List.forall_mem_cons.mpr ⟨rfl, fun _ h => absurd h List.not_mem_nil⟩⟩⟩) rfl rfl ?_
  have h := l_rTa_loop d X Z hp 125 0 (nI 0) (by omega) rfl
  rw [cpf_z, uc_id] at h
  exact h
def TS (p : Nat) (X X' : Nat → Nat → Int32) (s : skT) : Prop := (∀ c, c ≠ 63 → c ≠ 64 → c ≠ 72 → c ≠ 73 → c ≠ 74 → X' c = X c) ∧ X' 64 = X 64 ∧ (∀ k, k < 125 * p → X' 74 k = X 74 k) ∧ X' 63 16 = s.1 ∧ (∀ j, j ≠ 16 → X' 63 j = X 63 j) ∧ X' 73 = s.2.1 ∧ X' 72 = s.2.2
def RTS (p : Nat) (X : Nat → Nat → Int32) (s : skT) : ab_R → Prop := fun r => ∃ X' Z', r = (none, Wd X' Z') ∧ TS p X X' s
def ty (many : Nat) (b : Int32) : Nat → Nat → (Nat → Nat → Int32) → skT → skT
  | 0, _, J, s => if s.1 < 0 ∨ J 0 10 - b < s.1 then (J 0 10 - b, cpf s.2.2 s.2.1 0 0 many, s.2.2) else s
  | F + 1, dep, J, s => skLoop J dep (fun i t => ty many b F (dep + 1) (jFin J i) t) (jn J) 0 s
section ERM
variable {d pc pc' lk : Nat} {M : ab_M} {L L' : ab_Lo} {st : List Value} {w : ab_W} {P : ab_R → Prop} {X Z : Nat → Nat → Int32}
theorem er_cIy (cls : Nat) {c j p : Nat} {s : skT} {ins : Instr} {fs As rest : List Value} (hf : ab_fetch M.2.2.2.2.2.2.2 pc = some (ins, lk)) (hi : isCI ins = true) (hq : qI lk cls st = some (c, j, As, rest)) (hc : Nat.blt c 79 = true) (ho : cO c (X c) (Z c) = .inl (cls, fs)) (hp : pc + 3 = pc') (h : EC d j As (Wd X Z) (RTS p X s)) (k : ∀ X' Z', TS p X X' s → ER d M pc' L rest (Wd X' Z') P) : ER d M pc L st (Wd X Z) P :=
  er_cI cls hf hi hq hc ho hp h (fun r hr => by obtain ⟨X', Z', rfl, h1⟩ := hr; exact k X' Z' h1)
end ERM
theorem TS_of {p : Nat} {X X' Z : Nat → Nat → Int32} {s : skT} (h : TS p X X' s) : RTS p X s (none, Wd X' Z) := ⟨X', Z, rfl, h⟩
theorem take_row {X X1 X2 X4 : Nat → Nat → Int32} {p : Nat} (h1 : ∀ k, k < 125 → X4 74 (125 * p + k) = X 64 k) (h2 : ∀ k, 125 ≤ k → X4 64 k = X 64 k) : cpf (X4 74) (X4 64) (125 * p) 0 125 = X 64 := by
  funext k
  rw [cpf_at]
  by_cases h : k < 125
  · rw [if_pos ⟨by omega, by omega⟩, show k - 0 + 125 * p = 125 * p + k by omega]
    exact h1 k h
  · rw [if_neg (by omega)]
    exact h2 k (by omega)
set_option maxRecDepth 100000 in
set_option maxHeartbeats 4000000 in
theorem l_rFo_loop (d : Nat) (X Z : Nat → Nat → Int32) (y t : Int32) (many : Nat) (h5 : many ≤ 5) : ∀ (m i : Nat) (x : Int32), i + m = many → x = nI i → ER (d + 1) tb_m183 42 [(0, .ref 63), (1, .int y), (2, .int (nI many)), (3, .int t), (4, .int x)] [] (Wd (uc X 73 (cpf (X 72) (X 73) 0 0 i)) Z) (RV (uc X 73 (cpf (X 72) (X 73) 0 0 many)))
  | 0, i, x, hi, hx => by
    have hi0 : i = many := by omega
    subst hx
    subst hi0
    refine er_loc (pc' := 44) rfl rfl rfl ?_
    refine er_loc (pc' := 45) rfl rfl rfl ?_
    refine er_cm_geT rfl (nI_nlt (by omega) (by omega)) ?_
    refine er_vret rfl rfl ?_
    exact RV_of rfl
  | m + 1, i, x, hi, hx => by
    subst hx
    refine er_loc (pc' := 44) rfl rfl rfl ?_
    refine er_loc (pc' := 45) rfl rfl rfl ?_
    refine er_cm_geF (pc' := 48) rfl (nI_lt (by omega) (by omega)) rfl ?_
    refine er_loc (pc' := 49) rfl rfl rfl ?_
    refine er_gf (pc' := 52) (_) rfl rfl rfl rfl rfl ?_
    refine er_loc (pc' := 54) rfl rfl rfl ?_
    refine er_loc (pc' := 55) rfl rfl rfl ?_
    refine er_gf (pc' := 58) (_) rfl rfl rfl rfl rfl ?_
    refine er_loc (pc' := 60) rfl rfl rfl ?_
    refine er_ia (pc' := 61) (i) rfl rfl rfl rfl (by omega) rfl rfl ?_
    rw [uc_ne (show 72 ≠ 73 by omega)]
    refine er_isX (pc' := 62) (i) rfl rfl (fun _ => rfl) rfl (by omega) rfl rfl ?_
    refine er_loc (L' := [(4, .int (_ + nI 1)), (0, _), (1, _), (2, _), (3, _)]) rfl rfl rfl ?_
    refine er_goto rfl ?_
    refine ER_loc [(0, _), (1, _), (2, _), (3, _), (4, _)] rfl (List.forall_mem_cons.mpr ⟨rfl, List.forall_mem_cons.mpr ⟨rfl, List.forall_mem_cons.mpr ⟨rfl, List.forall_mem_cons.mpr ⟨rfl, List.forall_mem_cons.mpr ⟨rfl, fun _ h => absurd h List.not_mem_nil⟩⟩⟩⟩⟩) rfl rfl ?_
    have ih := l_rFo_loop d X Z y t many h5 m (i + 1) _ (by omega) (nI_add i 1)
    rw [show ud (uc X 73 (cpf (X 72) (X 73) 0 0 i)) 73 i (X 72 i) = uc X 73 (cpf (X 72) (X 73) 0 0 (i + 1)) from by unfold ud; rw [uc_uc, uc_same, cpf_step]]
    exact ih
set_option maxRecDepth 100000 in
set_option maxHeartbeats 4000000 in
theorem l_rTl_loop (d F : Nat) (X : Nat → Nat → Int32) (b : Int32) (many p : Nat) (hmany : p < many ∧ many ≤ 5) {T : Nat} (hI : RK T (X 64)) (hT : T + 300 < 2000000000) (hb : X 66 0 = b) (hrec : ∀ (X3 Z3 : Nat → Nat → Int32) (s : skT) (i : Nat), sMayDo (jm (X 64)) i = true → jm (X3 64) = jFin (jm (X 64)) i → RK (T + 300) (X3 64) → X3 66 0 = b → X3 63 16 = s.1 → X3 73 = s.2.1 → X3 72 = s.2.2 → EC (d + 6 + F) 183 [.ref 63, .int (nI (p + 1)), .int (nI many)] (Wd X3 Z3) (RTS (p + 1) X3 (ty many b F (p + 1) (jFin (jm (X 64)) i) s))) : ∀ (m i : Nat) (x : Int32) (X1 Z : Nat → Nat → Int32) (s : skT), i + m = jn (jm (X 64)) → x = nI i → TS p X X1 s → (∀ k, k < 125 → X1 74 (125 * p + k) = X 64 k) → ER (d + 6 + F) tb_m183 76 [(0, .ref 63), (1, .int (nI p)), (2, .int (nI many)), (3, .int x)] [] (Wd X1 Z) (RTS p X (skLoop (jm (X 64)) p (fun i t => ty many b F (p + 1) (jFin (jm (X 64)) i) t) m i s))
  | 0, i, x, X1, Z, s, hi, hx, hs, hsv => by
    have h8 := jn8 hI.ij
    have hI1 : RK T (X1 64) := by rw [hs.2.1]; exact hI
    have hn1 : X1 64 2 = nI (jn (jm (X 64))) := by rw [hs.2.1]; exact hI.n
    have hi0 : i = jn (jm (X 64)) := by omega
    subst hx
    subst hi0
    refine er_loc (pc' := 77) rfl rfl rfl ?_
    refine er_loc (pc' := 78) rfl rfl rfl ?_
    refine er_gf (pc' := 81) (_) rfl rfl rfl rfl rfl ?_
    refine er_k (pc' := 82) (nI 2) rfl rfl rfl ?_
    refine er_ia (pc' := 83) (2) rfl rfl rfl rfl (by omega) rfl rfl ?_
    rw [hn1]
    refine er_cm_geT rfl (nI_nlt (by omega) (by omega)) ?_
    refine er_vret rfl rfl ?_
    exact TS_of hs
  | m + 1, i, x, X1, Z, s, hi, hx, hs, hsv => by
    have h8 := jn8 hI.ij
    have hp4 : p ≤ 4 := by omega
    have hT1 : T < 2000000000 := by omega
    have hj1 : jm (X1 64) = jm (X 64) := by rw [hs.2.1]
    have hI1 : RK T (X1 64) := by rw [hs.2.1]; exact hI
    have hn1 : X1 64 2 = nI (jn (jm (X 64))) := by rw [hs.2.1]; exact hI.n
    subst hx
    refine er_loc (pc' := 77) rfl rfl rfl ?_
    refine er_loc (pc' := 78) rfl rfl rfl ?_
    refine er_gf (pc' := 81) (_) rfl rfl rfl rfl rfl ?_
    refine er_k (pc' := 82) (nI 2) rfl rfl rfl ?_
    refine er_ia (pc' := 83) (2) rfl rfl rfl rfl (by omega) rfl rfl ?_
    rw [hn1]
    refine er_cm_geF (pc' := 86) rfl (nI_lt (by omega) (by omega)) rfl ?_
    refine er_loc (pc' := 87) rfl rfl rfl ?_
    refine er_loc (pc' := 88) rfl rfl rfl ?_
    refine er_cIi (pc' := 91) (rest := []) 12 rfl rfl rfl rfl rfl rfl (EC.up (l_rMayDo d X1 _ hI1 (k := i) (by rw [hj1]; omega)) (by omega)) ?_
    rw [hj1]
    refine er_if_eqb (pc' := 94) rfl rfl (fun h91 => ?_) (fun h91 => ?_)
    · refine er_loc (L' := [(3, .int (_ + nI 1)), (0, _), (1, _), (2, _)]) rfl rfl rfl ?_
      refine er_goto rfl ?_
      refine ER_loc [(0, _), (1, _), (2, _), (3, _)] rfl (List.forall_mem_cons.mpr ⟨rfl, List.forall_mem_cons.mpr ⟨rfl, List.forall_mem_cons.mpr ⟨rfl, List.forall_mem_cons.mpr ⟨rfl, fun _ h => absurd h List.not_mem_nil⟩⟩⟩⟩) rfl rfl ?_
      rw [skLoop_succ, if_neg (by rw [h91]; decide)]
      exact l_rTl_loop d F X b many p hmany hI hT hb hrec m (i + 1) _ X1 Z s (by omega) (nI_add i 1) hs hsv
    · refine er_loc (pc' := 95) rfl rfl rfl ?_
      refine er_gf (pc' := 98) (_) rfl rfl rfl rfl rfl ?_
      refine er_loc (pc' := 99) rfl rfl rfl ?_
      refine er_loc (pc' := 100) rfl rfl rfl ?_
      refine er_isX (pc' := 101) (p) rfl rfl (fun _ => rfl) rfl (by omega) rfl rfl ?_
      refine er_loc (pc' := 102) rfl rfl rfl ?_
      refine er_loc (pc' := 103) rfl rfl rfl ?_
      refine er_cIw (pc' := 106) (rest := []) 12 rfl rfl rfl rfl rfl rfl (EC.up (l_rIsDone d (ud X1 72 p (nI i)) _ (by rw [ud_ne (by omega)]; exact hI1) hT1 (by rw [ud_ne (by omega), hj1]; exact h91)) (by omega)) ?_
      intro X3 Z3 w3
      have hj3 : jm (X3 64) = jFin (jm (X 64)) i := by rw [w3.j]; exact congrArg (fun J => jFin J i) hj1
      refine er_loc (pc' := 107) rfl rfl rfl ?_
      refine er_loc (pc' := 108) rfl rfl rfl ?_
      refine er_k (pc' := 109) (nI 1) rfl rfl rfl ?_
      refine er_iadd rfl rfl ?_
      rw [nI_add p 1]
      refine er_loc (pc' := 111) rfl rfl rfl ?_
      refine er_cIy (pc' := 114) (rest := []) 12 rfl rfl rfl rfl rfl rfl (hrec X3 Z3 (s.1, s.2.1, u1 s.2.2 p (nI i)) i h91 hj3 w3.rk (by rw [w3.off (by omega), ud_ne (by omega), hs.1 66 (by omega) (by omega) (by omega) (by omega) (by omega)]; exact hb) (by rw [w3.off (by omega), ud_ne (by omega)]; exact hs.2.2.2.1) (by rw [w3.off (by omega), ud_ne (by omega)]; exact hs.2.2.2.2.2.1) (by rw [w3.off (by omega), ud_same, hs.2.2.2.2.2.2])) ?_
      intro X4 Z4 t4
      refine er_loc (pc' := 115) rfl rfl rfl ?_
      refine er_loc (pc' := 116) rfl rfl rfl ?_
      refine er_cIv (pc' := 119) (rest := []) 12 rfl rfl rfl rfl rfl rfl (EC.up (l_rTakes d _ _ hp4) (by omega)) ?_
      have hrow : cpf (X4 74) (X4 64) (125 * p) 0 125 = X 64 := take_row (X1 := X) (X2 := X) (fun k hk => by rw [t4.2.2.1 _ (by omega), w3.off (by omega), ud_ne (by omega)]; exact hsv k hk) (fun k hk => by rw [t4.2.1, w3.2.2.2 k hk, ud_ne (by omega), hs.2.1])
      intro Z7
      refine er_loc (L' := [(3, .int (_ + nI 1)), (0, _), (1, _), (2, _)]) rfl rfl rfl ?_
      refine er_goto rfl ?_
      refine ER_loc [(0, _), (1, _), (2, _), (3, _)] rfl (List.forall_mem_cons.mpr ⟨rfl, List.forall_mem_cons.mpr ⟨rfl, List.forall_mem_cons.mpr ⟨rfl, List.forall_mem_cons.mpr ⟨rfl, fun _ h => absurd h List.not_mem_nil⟩⟩⟩⟩) rfl rfl ?_
      rw [skLoop_succ, if_pos h91]
      refine l_rTl_loop d F X b many p hmany hI hT hb hrec m (i + 1) _ _ _ _ (by omega) (nI_add i 1) ?_ ?_
      · refine ⟨fun c a1 a2 a3 a4 a5 => ?_, by rw [uc_same]; exact hrow, fun k hk => ?_, ?_, fun j hj => ?_, ?_, ?_⟩
        · rw [uc_ne a2, t4.1 c a1 a2 a3 a4 a5, w3.off a2, ud_ne a3]; exact hs.1 c a1 a2 a3 a4 a5
        · rw [uc_ne (by omega), t4.2.2.1 k (by omega), w3.off (by omega), ud_ne (by omega)]; exact hs.2.2.1 k hk
        · rw [uc_ne (by omega)]; exact t4.2.2.2.1
        · rw [uc_ne (by omega), t4.2.2.2.2.1 j hj, w3.off (by omega), ud_ne (by omega)]; exact hs.2.2.2.2.1 j hj
        · rw [uc_ne (by omega)]; exact t4.2.2.2.2.2.1
        · rw [uc_ne (by omega)]; exact t4.2.2.2.2.2.2
      · intro k hk
        rw [uc_ne (by omega), t4.2.2.1 _ (by omega), w3.off (by omega), ud_ne (by omega)]
        exact hsv k hk
set_option maxRecDepth 100000 in
set_option maxHeartbeats 4000000 in
theorem l_rTries (d many : Nat) (b : Int32) (h5 : many ≤ 5) : ∀ (F p : Nat) (X Z : Nat → Nat → Int32) (T : Nat) (s : skT), p + F = many → RK T (X 64) → T + 300 * F < 1000000000 → X 66 0 = b → X 63 16 = s.1 → X 73 = s.2.1 → X 72 = s.2.2 → EC (d + 6 + F) 183 [.ref 63, .int (nI p), .int (nI many)] (Wd X Z) (RTS p X (ty many b F p (jm (X 64)) s))
  | 0, p, X, Z, T, s, hp, hI, hT, hb, hs1, hs2, hs3 => by
    refine er_enter (L := [(0, _), (1, _), (2, _)]) rfl rfl rfl ?_
    refine er_loc (pc' := 1) rfl rfl rfl ?_
    refine er_loc (pc' := 2) rfl rfl rfl ?_
    refine er_cm_neF (pc' := 5) rfl (by rw [show p = many by omega]) rfl ?_
    refine er_loc (pc' := 6) rfl rfl rfl ?_
    refine er_gf (pc' := 9) (_) rfl rfl rfl rfl rfl ?_
    refine er_k (pc' := 10) (nI 0) rfl rfl rfl ?_
    refine er_ia (pc' := 11) (0) rfl rfl rfl rfl (by omega) rfl rfl ?_
    refine er_loc (pc' := 12) rfl rfl rfl ?_
    refine er_gf (pc' := 15) (_) rfl rfl rfl rfl rfl ?_
    refine er_k (pc' := 16) (nI 0) rfl rfl rfl ?_
    refine er_ia (pc' := 17) (0) rfl rfl rfl rfl (by omega) rfl rfl ?_
    rw [hb]
    refine er_isub (pc' := 18) rfl rfl ?_
    refine er_loc (pc' := 19) (L' := [(3, _), (0, _), (1, _), (2, _)]) rfl rfl rfl ?_
    refine er_loc (pc' := 20) rfl rfl rfl ?_
    refine er_gf (pc' := 23) (.int (X 63 16)) rfl rfl rfl rfl rfl ?_
    rw [hs1]
    refine er_if_lt (pc' := 26) rfl rfl (fun h23 => ?_) (fun h23 => ?_)
    · refine er_loc (pc' := 35) rfl rfl rfl ?_
      refine er_loc (pc' := 36) rfl rfl rfl ?_
      refine er_pfIX (pc' := 39) 16 rfl rfl rfl rfl rfl rfl ?_
      refine er_k (pc' := 40) (nI 0) rfl rfl rfl ?_
      refine er_loc (pc' := 42) (L' := [(4, _), (3, _), (0, _), (1, _), (2, _)]) rfl rfl rfl ?_
      refine ER_loc [(0, _), (1, _), (2, _), (3, _), (4, _)] rfl (List.forall_mem_cons.mpr ⟨rfl, List.forall_mem_cons.mpr ⟨rfl, List.forall_mem_cons.mpr ⟨rfl, List.forall_mem_cons.mpr ⟨rfl, List.forall_mem_cons.mpr ⟨rfl, fun _ h => absurd h List.not_mem_nil⟩⟩⟩⟩⟩) rfl rfl ?_
      have h := l_rFo_loop (d + 4) (ud X 63 16 (X 64 0 - b)) Z (nI p) (X 64 0 - b) many h5 many 0 (nI 0) (by omega) rfl
      rw [cpf_0, uc_id] at h
      refine h.mono (fun r hr => ?_)
      obtain ⟨Z7, rfl⟩ := hr
      rw [show ty many b 0 p (jm (X 64)) s = (X 64 0 - b, cpf s.2.2 s.2.1 0 0 many, s.2.2) from if_pos (Or.inl h23)]
      refine TS_of ⟨fun c a1 a2 a3 a4 a5 => by rw [uc_ne a4, ud_ne a1], by rw [uc_ne (by omega), ud_ne (by omega)], fun k hk => by rw [uc_ne (by omega), ud_ne (by omega)], by rw [uc_ne (by omega), ud_same, u1_same], fun j hj => by rw [uc_ne (by omega), ud_same, u1_ne hj], ?_, by rw [uc_ne (by omega), ud_ne (by omega)]; exact hs3⟩
      rw [uc_same, ud_ne (by omega), ud_ne (by omega), hs2, hs3]
    · refine er_loc (pc' := 27) rfl rfl rfl ?_
      refine er_loc (pc' := 28) rfl rfl rfl ?_
      refine er_gf (pc' := 31) (.int (X 63 16)) rfl rfl rfl rfl rfl ?_
      rw [hs1]
      refine er_cm_ge (pc' := 34) rfl rfl (fun h31 => ?_) (fun h31 => ?_)
      · refine er_vret rfl rfl ?_
        rw [show ty many b 0 p (jm (X 64)) s = s from if_neg (fun hh => by rcases hh with hh | hh; exact h23 hh; exact h31 hh)]
        exact TS_of ⟨fun _ _ _ _ _ _ => rfl, rfl, fun _ _ => rfl, hs1, fun _ _ => rfl, hs2, hs3⟩
      · refine er_loc (pc' := 35) rfl rfl rfl ?_
        refine er_loc (pc' := 36) rfl rfl rfl ?_
        refine er_pfIX (pc' := 39) 16 rfl rfl rfl rfl rfl rfl ?_
        refine er_k (pc' := 40) (nI 0) rfl rfl rfl ?_
        refine er_loc (pc' := 42) (L' := [(4, _), (3, _), (0, _), (1, _), (2, _)]) rfl rfl rfl ?_
        refine ER_loc [(0, _), (1, _), (2, _), (3, _), (4, _)] rfl (List.forall_mem_cons.mpr ⟨rfl, List.forall_mem_cons.mpr ⟨rfl, List.forall_mem_cons.mpr ⟨rfl, List.forall_mem_cons.mpr ⟨rfl, List.forall_mem_cons.mpr ⟨rfl, fun _ h => absurd h List.not_mem_nil⟩⟩⟩⟩⟩) rfl rfl ?_
        have h := l_rFo_loop (d + 4) (ud X 63 16 (X 64 0 - b)) Z (nI p) (X 64 0 - b) many h5 many 0 (nI 0) (by omega) rfl
        rw [cpf_0, uc_id] at h
        refine h.mono (fun r hr => ?_)
        obtain ⟨Z7, rfl⟩ := hr
        rw [show ty many b 0 p (jm (X 64)) s = (X 64 0 - b, cpf s.2.2 s.2.1 0 0 many, s.2.2) from if_pos (Or.inr h31)]
        refine TS_of ⟨fun c a1 a2 a3 a4 a5 => by rw [uc_ne a4, ud_ne a1], by rw [uc_ne (by omega), ud_ne (by omega)], fun k hk => by rw [uc_ne (by omega), ud_ne (by omega)], by rw [uc_ne (by omega), ud_same, u1_same], fun j hj => by rw [uc_ne (by omega), ud_same, u1_ne hj], ?_, by rw [uc_ne (by omega), ud_ne (by omega)]; exact hs3⟩
        rw [uc_same, ud_ne (by omega), ud_ne (by omega), hs2, hs3]
  | F + 1, p, X, Z, T, s, hp, hI, hT, hb, hs1, hs2, hs3 => by
    rw [show d + 6 + (F + 1) = d + 6 + F + 1 by omega]
    refine er_enter (L := [(0, _), (1, _), (2, _)]) rfl rfl rfl ?_
    refine er_loc (pc' := 1) rfl rfl rfl ?_
    refine er_loc (pc' := 2) rfl rfl rfl ?_
    refine er_cm_neT rfl (fun hh => absurd (nIj (by omega) (by omega) hh) (by omega)) ?_
    refine er_loc (pc' := 70) rfl rfl rfl ?_
    refine er_loc (pc' := 71) rfl rfl rfl ?_
    refine er_cIv (pc' := 74) (rest := []) 12 rfl rfl rfl rfl rfl rfl (EC.up (l_rLays d X _ (p := p) (by omega)) (by omega)) ?_
    intro Z5
    refine er_k (pc' := 75) (nI 0) rfl rfl rfl ?_
    refine er_loc (pc' := 76) (L' := [(3, _), (0, _), (1, _), (2, _)]) rfl rfl rfl ?_
    refine ER_loc [(0, _), (1, _), (2, _), (3, _)] rfl (List.forall_mem_cons.mpr ⟨rfl, List.forall_mem_cons.mpr ⟨rfl, List.forall_mem_cons.mpr ⟨rfl, List.forall_mem_cons.mpr ⟨rfl, fun _ h => absurd h List.not_mem_nil⟩⟩⟩⟩) rfl rfl ?_
    refine l_rTl_loop d F X b many p ⟨by omega, h5⟩ hI (by omega) hb ?_ (jn (jm (X 64))) 0 _ _ _ s (by omega) rfl ?_ ?_
    · intro X3 Z3 s3 i hm hj hI3 hb3 h1 h2 h3
      have ih := l_rTries d many b h5 F (p + 1) X3 Z3 (T + 300) s3 (by omega) hI3 (by omega) hb3 h1 h2 h3
      rw [hj] at ih
      exact ih
    · exact ⟨fun c a1 a2 a3 a4 a5 => uc_ne a5, uc_ne (by omega), fun k hk => by rw [uc_same, cpf_at, if_neg (by omega)], by rw [uc_ne (by omega)]; exact hs1, fun j hj => by rw [uc_ne (by omega)], by rw [uc_ne (by omega)]; exact hs2, by rw [uc_ne (by omega)]; exact hs3⟩
    · intro k hk
      rw [uc_same, cpf_at, if_pos ⟨by omega, by omega⟩]
      congr 1
      omega
