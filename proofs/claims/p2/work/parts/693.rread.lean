/-! THE REFERENCE reads: bytes, names, numbers -/
abbrev YS : Type := Nat × (Nat → Int32) × (Nat → Int32)
def yzf (l p op : Nat) (bad : Bool) (u : Nat) : Nat → Int32 := fun k => match k with
  | 9 => nI l
  | 10 => nI p
  | 11 => nI op
  | 12 => bI bad
  | 13 => nI u
  | _ => 0
def QZ (Z : Nat → Nat → Int32) (u op : Nat) (bad : Bool) (p : Nat) (y : YS) : Nat → Nat → Int32 := uc (uc (uc Z 63 (yzf y.1 p op bad u)) 68 y.2.1) 69 y.2.2
def wrY (y : YS) (a w : Int32) : YS := if y.1 < 50 then (y.1 + 1, u1 y.2.1 y.1 a, u1 y.2.2 y.1 w) else y
theorem wrY_le {y : YS} {a w : Int32} (h : y.1 ≤ 50) : (wrY y a w).1 ≤ 50 := by
  unfold wrY
  split
  · show y.1 + 1 ≤ 50; omega
  · exact h
section QZS
variable {Z : Nat → Nat → Int32} {u op p l q : Nat} {bad c : Bool} {y : YS}
theorem yzf_p : u1 (yzf l p op bad u) 10 (nI q) = yzf l q op bad u := by
  funext k
  match k with
  | 9 => rfl
  | 10 => rfl
  | 11 => rfl
  | 12 => rfl
  | 13 => rfl
  | 0 | 1 | 2 | 3 | 4 | 5 | 6 | 7 | 8 => rfl
  | k + 14 => rfl
theorem yzf_l : u1 (yzf l p op bad u) 9 (nI q) = yzf q p op bad u := by
  funext k
  match k with
  | 9 => rfl
  | 10 => rfl
  | 11 => rfl
  | 12 => rfl
  | 13 => rfl
  | 0 | 1 | 2 | 3 | 4 | 5 | 6 | 7 | 8 => rfl
  | k + 14 => rfl
theorem yzf_o : u1 (yzf l p op bad u) 11 (nI q) = yzf l p q bad u := by
  funext k
  match k with
  | 9 => rfl
  | 10 => rfl
  | 11 => rfl
  | 12 => rfl
  | 13 => rfl
  | 0 | 1 | 2 | 3 | 4 | 5 | 6 | 7 | 8 => rfl
  | k + 14 => rfl
theorem yzf_b : u1 (yzf l p op bad u) 12 (bI c) = yzf l p op c u := by
  funext k
  match k with
  | 9 => rfl
  | 10 => rfl
  | 11 => rfl
  | 12 => rfl
  | 13 => rfl
  | 0 | 1 | 2 | 3 | 4 | 5 | 6 | 7 | 8 => rfl
  | k + 14 => rfl
theorem QZ_63 : QZ Z u op bad p y 63 = yzf y.1 p op bad u := by
  unfold QZ
  rw [uc_ne (by omega), uc_ne (by omega), uc_same]
theorem QZ_u {f : Nat → Int32} {op' p' : Nat} {bad' : Bool} (h : f = yzf y.1 p' op' bad' u) : uc (QZ Z u op bad p y) 63 f = QZ Z u op' bad' p' y := by
  subst h
  unfold QZ
  rw [uc_comm (show 69 ≠ 63 by omega), uc_comm (show 68 ≠ 63 by omega), uc_uc]
theorem QZ_p : ud (QZ Z u op bad p y) 63 10 (nI q) = QZ Z u op bad q y := by
  unfold ud
  rw [QZ_63, yzf_p]
  exact QZ_u rfl
theorem QZ_o : ud (QZ Z u op bad p y) 63 11 (nI q) = QZ Z u q bad p y := by
  unfold ud
  rw [QZ_63, yzf_o]
  exact QZ_u rfl
theorem QZ_b : ud (QZ Z u op bad p y) 63 12 (bI c) = QZ Z u op c p y := by
  unfold ud
  rw [QZ_63, yzf_b]
  exact QZ_u rfl
theorem QZ_w {a w : Int32} (h : y.1 < 50) : ud (ud (ud (QZ Z u op bad p y) 68 y.1 a) 69 y.1 w) 63 9 (nI (y.1 + 1)) = QZ Z u op bad p (wrY y a w) := by
  rw [show wrY y a w = (y.1 + 1, u1 y.2.1 y.1 a, u1 y.2.2 y.1 w) from if_pos h]
  funext i j
  unfold QZ
  simp only [ud_at, uc]
  by_cases h63 : i = 63
  · subst h63
    by_cases h9 : j = 9
    · subst h9; simp [yzf]
    · simp only [if_neg h9]
      simp
      rw [← yzf_l (l := y.1) (q := y.1 + 1), u1_ne h9]
  · by_cases h68 : i = 68
    · subst h68; simp [u1]
    · by_cases h69 : i = 69
      · subst h69; simp [u1]
      · simp [h63, h68, h69]
end QZS
def CA (s : Nat × (Nat → Int32)) (y : YS) : Prop := s.1 = y.1 ∧ ∀ k, k < s.1 → s.2 k = cM (y.2.1 k) (y.2.2 k) ∧ aOK (y.2.1 k) (y.2.2 k)
theorem CA.wr {s : Nat × (Nat → Int32)} {y : YS} {a w g : Int32} (h : CA s y) (ha : aOK a w) (hg : cM a w = g) : CA (wrC s g) (wrY y a w) := by
  unfold wrC wrY
  rw [← h.1]
  by_cases hl : s.1 < 50
  · rw [if_pos hl, if_pos hl]
    refine ⟨rfl, fun k hk => ?_⟩
    show u1 s.2 s.1 g k = cM (u1 y.2.1 s.1 a k) (u1 y.2.2 s.1 w k) ∧ aOK (u1 y.2.1 s.1 a k) (u1 y.2.2 s.1 w k)
    rw [u1_at, u1_at, u1_at]
    by_cases he : k = s.1
    · rw [if_pos he, if_pos he, if_pos he]
      exact ⟨hg.symm, ha⟩
    · rw [if_neg he, if_neg he, if_neg he]
      exact h.2 k (by have : k < s.1 + 1 := hk; omega)
  · rw [if_neg hl, if_neg hl]
    exact h
theorem CA.le {s : Nat × (Nat → Int32)} {y : YS} (h : CA s y) (hs : s.1 ≤ 50) : y.1 ≤ 50 := by rw [← h.1]; exact hs
set_option maxRecDepth 100000 in
set_option maxHeartbeats 4000000 in
theorem l_yByte (d : Nat) (X Z : Nat → Nat → Int32) {u op e p : Nat} {bad : Bool} {y : YS} (he : X 64 5 = nI e) (he50 : e ≤ 50) (hp : p ≤ e) : EC (d + 1) 159 [.ref 63] (Wd X (QZ Z u op bad p y)) (PI (pk (jm (X 64) 9) e p) (Wd X (QZ Z u op bad p y))) := by
  refine er_enter (L := [(0, _)]) rfl rfl rfl ?_
  refine er_loc (pc' := 1) rfl rfl rfl ?_
  refine er_gf (pc' := 4) (.int (nI p)) rfl rfl rfl rfl rfl ?_
  refine er_loc (pc' := 5) rfl rfl rfl ?_
  refine er_gf (pc' := 8) (_) rfl rfl rfl rfl rfl ?_
  refine er_k (pc' := 9) (nI 5) rfl rfl rfl ?_
  refine er_ia (pc' := 10) (5) rfl rfl rfl rfl (by omega) rfl rfl ?_
  rw [he]
  refine er_cm_ge (pc' := 13) rfl rfl (fun h10 => ?_) (fun h10 => ?_)
  · have hlt : ¬ p < e := fun h => h10 (nI_lt h (by omega))
    refine er_k (pc' := 29) (-1) rfl rfl rfl ?_
    refine er_iret rfl rfl ?_
    exact PI_of (if_neg hlt).symm
  · have hlt : p < e := by
      rcases Nat.lt_or_ge p e with h | h
      · exact h
      · exact absurd h10 (nI_nlt h (by omega))
    refine er_loc (pc' := 14) rfl rfl rfl ?_
    refine er_gf (pc' := 17) (_) rfl rfl rfl rfl rfl ?_
    refine er_k (pc' := 19) (nI 55) rfl rfl rfl ?_
    refine er_loc (pc' := 20) rfl rfl rfl ?_
    refine er_gf (pc' := 23) (.int (nI p)) rfl rfl rfl rfl rfl ?_
    refine er_iadd (pc' := 24) rfl rfl ?_
    refine er_ia (pc' := 25) ((55 + p)) rfl rfl rfl (by simp only [nI_add, nI_mul]) (by omega) rfl rfl ?_
    refine er_goto rfl ?_
    refine er_iret rfl rfl ?_
    exact PI_of (((if_pos hlt).trans (jm9 (by omega))).symm)
section ERP
variable {d pc pc' lk : Nat} {M : ab_M} {L L' : ab_Lo} {st : List Value} {w : ab_W} {P : ab_R → Prop} {X Z : Nat → Nat → Int32}
theorem er_cIP (cls : Nat) {c j : Nat} {Q : ab_R → Prop} {ins : Instr} {fs As rest : List Value} (hf : ab_fetch M.2.2.2.2.2.2.2 pc = some (ins, lk)) (hi : isCI ins = true) (hq : qI lk cls st = some (c, j, As, rest)) (hc : Nat.blt c 79 = true) (ho : cO c (X c) (Z c) = .inl (cls, fs)) (hp : pc + 3 = pc') (h : EC d j As (Wd X Z) Q) (k : ∀ r, Q r → ER d M pc' L (r.1.toList ++ rest) r.2 P) : ER d M pc L st (Wd X Z) P :=
  er_cI cls hf hi hq hc ho hp h k
end ERP
set_option maxRecDepth 100000 in
set_option maxHeartbeats 4000000 in
theorem l_yLays (d : Nat) (X Z : Nat → Nat → Int32) {u op p : Nat} {bad : Bool} {y : YS} (hy : y.1 ≤ 50) (a w : Int32) : EC (d + 1) 161 [.ref 63, .int a, .int w] (Wd X (QZ Z u op bad p y)) (PN X (QZ Z u op bad p (wrY y a w))) := by
  refine er_enter (L := [(0, _), (1, _), (2, _)]) rfl rfl rfl ?_
  refine er_loc (pc' := 1) rfl rfl rfl ?_
  refine er_gf (pc' := 4) (.int (nI y.1)) rfl rfl rfl rfl rfl ?_
  refine er_loc (pc' := 5) rfl rfl rfl ?_
  refine er_gf (pc' := 8) (_) rfl rfl rfl rfl rfl ?_
  refine er_al (pc' := 9) rfl rfl rfl rfl ?_
  refine er_cm_ge (pc' := 12) rfl rfl (fun h9 => ?_) (fun h9 => ?_)
  · have hlt : ¬ y.1 < 50 := fun h => h9 (nI_lt h (by omega))
    refine er_vret rfl rfl ?_
    exact PN_of (by rw [show wrY y a w = y from if_neg hlt])
  · have hlt : y.1 < 50 := by
      rcases Nat.lt_or_ge y.1 50 with h | h
      · exact h
      · exact absurd h9 (nI_nlt h (by omega))
    refine er_loc (pc' := 13) rfl rfl rfl ?_
    refine er_gf (pc' := 16) (_) rfl rfl rfl rfl rfl ?_
    refine er_loc (pc' := 17) rfl rfl rfl ?_
    refine er_gf (pc' := 20) (.int (nI y.1)) rfl rfl rfl rfl rfl ?_
    refine er_loc (pc' := 21) rfl rfl rfl ?_
    refine er_isZ (pc' := 22) (y.1) rfl rfl (fun _ => rfl) rfl hlt rfl rfl ?_
    refine er_loc (pc' := 23) rfl rfl rfl ?_
    refine er_gf (pc' := 26) (_) rfl rfl rfl rfl rfl ?_
    refine er_loc (pc' := 27) rfl rfl rfl ?_
    refine er_gf (pc' := 30) (.int (nI y.1)) rfl rfl rfl rfl rfl ?_
    refine er_loc (pc' := 31) rfl rfl rfl ?_
    refine er_isZ (pc' := 32) (y.1) rfl rfl (fun _ => rfl) rfl hlt rfl rfl ?_
    refine er_loc (pc' := 33) rfl rfl rfl ?_
    refine er_pure (pc' := 34) rfl rfl rfl ?_
    refine er_gf (pc' := 37) (.int (nI y.1)) rfl rfl rfl rfl rfl ?_
    refine er_k (pc' := 38) (nI 1) rfl rfl rfl ?_
    refine er_iadd (pc' := 39) rfl rfl ?_
    rw [nI_add y.1 1]
    refine er_pfIZ (pc' := 42) 9 rfl rfl rfl rfl rfl rfl ?_
    refine er_vret rfl rfl ?_
    exact PN_of (QZ_w hlt)
theorem nmQ_no {u : Nat} {b : Int32} (h1 : ¬ b = 115) (h2 : ¬ b = 109) (h3 : ¬ b = 116) (h4 : ¬ b = 107) : nmQ u b = -1 := by
  unfold nmQ
  by_cases h : b < 0
  · rw [if_pos h]
  · rw [if_neg h]
    obtain ⟨c, hc, rfl⟩ := nI_of h
    rw [nN_nI hc]
    unfold nmI
    have c1 : ¬ c = 115 := fun e => h1 (by rw [e]; decide +kernel)
    have c2 : ¬ c = 109 := fun e => h2 (by rw [e]; decide +kernel)
    have c3 : ¬ c = 116 := fun e => h3 (by rw [e]; decide +kernel)
    have c4 : ¬ c = 107 := fun e => h4 (by rw [e]; decide +kernel)
    by_cases hu : u = 0
    · rw [if_pos hu, if_neg c1, if_neg c2, if_neg c3]
    · rw [if_neg hu, if_neg c2, if_neg c3, if_neg c4]
set_option maxRecDepth 100000 in
set_option maxHeartbeats 4000000 in
theorem l_yName0 (d : Nat) (X Z : Nat → Nat → Int32) {op p : Nat} {bad : Bool} {y : YS} (b : Int32) : EC (d + 1) 160 [.ref 63, .int b] (Wd X (QZ Z 0 op bad p y)) (PI (nmQ 0 b) (Wd X (QZ Z 0 op bad p y))) := by
  refine er_enter (L := [(0, _), (1, _)]) rfl rfl rfl ?_
  refine er_loc (pc' := 1) rfl rfl rfl ?_
  refine er_sw (107) rfl rfl (fun s1_107 => ?_) (fun s1_107 => ?_)
  · refine er_loc (pc' := 96) rfl rfl rfl ?_
    refine er_gf (pc' := 99) (.int (nI 0)) rfl rfl rfl rfl rfl ?_
    refine er_k (pc' := 100) (nI 1) rfl rfl rfl ?_
    refine er_cm_neT rfl (by decide +kernel) ?_
    refine er_k (pc' := 108) (-1) rfl rfl rfl ?_
    refine er_iret rfl rfl ?_
    rw [s1_107]
    exact PI_of (by decide +kernel)
  refine er_sw (109) rfl rfl (fun s1_109 => ?_) (fun s1_109 => ?_)
  · refine er_loc (pc' := 70) rfl rfl rfl ?_
    refine er_gf (pc' := 73) (.int (nI 0)) rfl rfl rfl rfl rfl ?_
    refine er_if_neF (pc' := 76) rfl (by decide +kernel) rfl ?_
    refine er_k (pc' := 77) (nI 1) rfl rfl rfl ?_
    refine er_goto rfl ?_
    refine er_iret rfl rfl ?_
    rw [s1_109]
    exact PI_of (by decide +kernel)
  refine er_sw (115) rfl rfl (fun s1_115 => ?_) (fun s1_115 => ?_)
  · refine er_loc (pc' := 57) rfl rfl rfl ?_
    refine er_gf (pc' := 60) (.int (nI 0)) rfl rfl rfl rfl rfl ?_
    refine er_if_neF (pc' := 63) rfl (by decide +kernel) rfl ?_
    refine er_k (pc' := 64) (nI 0) rfl rfl rfl ?_
    refine er_goto rfl ?_
    refine er_iret rfl rfl ?_
    rw [s1_115]
    exact PI_of (by decide +kernel)
  refine er_sw (116) rfl rfl (fun s1_116 => ?_) (fun s1_116 => ?_)
  · refine er_loc (pc' := 83) rfl rfl rfl ?_
    refine er_gf (pc' := 86) (.int (nI 0)) rfl rfl rfl rfl rfl ?_
    refine er_if_neF (pc' := 89) rfl (by decide +kernel) rfl ?_
    refine er_k (pc' := 90) (nI 2) rfl rfl rfl ?_
    refine er_goto rfl ?_
    refine er_iret rfl rfl ?_
    rw [s1_116]
    exact PI_of (by decide +kernel)
  refine er_tsD [107, 109, 115, 116] rfl rfl rfl rfl (List.forall_mem_cons.mpr ⟨ne_toInt s1_107 rfl, List.forall_mem_cons.mpr ⟨ne_toInt s1_109 rfl, List.forall_mem_cons.mpr ⟨ne_toInt s1_115 rfl, List.forall_mem_cons.mpr ⟨ne_toInt s1_116 rfl, fun _ h => absurd h List.not_mem_nil⟩⟩⟩⟩) ?_
  refine er_k (pc' := 110) (-1) rfl rfl rfl ?_
  refine er_iret rfl rfl ?_
  exact PI_of (nmQ_no s1_115 s1_109 s1_116 s1_107).symm
set_option maxRecDepth 100000 in
set_option maxHeartbeats 4000000 in
theorem l_yName1 (d : Nat) (X Z : Nat → Nat → Int32) {op p : Nat} {bad : Bool} {y : YS} (b : Int32) : EC (d + 1) 160 [.ref 63, .int b] (Wd X (QZ Z 1 op bad p y)) (PI (nmQ 1 b) (Wd X (QZ Z 1 op bad p y))) := by
  refine er_enter (L := [(0, _), (1, _)]) rfl rfl rfl ?_
  refine er_loc (pc' := 1) rfl rfl rfl ?_
  refine er_sw (107) rfl rfl (fun s1_107 => ?_) (fun s1_107 => ?_)
  · refine er_loc (pc' := 96) rfl rfl rfl ?_
    refine er_gf (pc' := 99) (.int (nI 1)) rfl rfl rfl rfl rfl ?_
    refine er_k (pc' := 100) (nI 1) rfl rfl rfl ?_
    refine er_cm_neF (pc' := 103) rfl (rfl) rfl ?_
    refine er_k (pc' := 104) (nI 2) rfl rfl rfl ?_
    refine er_goto rfl ?_
    refine er_iret rfl rfl ?_
    rw [s1_107]
    exact PI_of (by decide +kernel)
  refine er_sw (109) rfl rfl (fun s1_109 => ?_) (fun s1_109 => ?_)
  · refine er_loc (pc' := 70) rfl rfl rfl ?_
    refine er_gf (pc' := 73) (.int (nI 1)) rfl rfl rfl rfl rfl ?_
    refine er_if_neT rfl (by decide +kernel) ?_
    refine er_k (pc' := 81) (nI 0) rfl rfl rfl ?_
    refine er_iret rfl rfl ?_
    rw [s1_109]
    exact PI_of (by decide +kernel)
  refine er_sw (115) rfl rfl (fun s1_115 => ?_) (fun s1_115 => ?_)
  · refine er_loc (pc' := 57) rfl rfl rfl ?_
    refine er_gf (pc' := 60) (.int (nI 1)) rfl rfl rfl rfl rfl ?_
    refine er_if_neT rfl (by decide +kernel) ?_
    refine er_k (pc' := 68) (-1) rfl rfl rfl ?_
    refine er_iret rfl rfl ?_
    rw [s1_115]
    exact PI_of (by decide +kernel)
  refine er_sw (116) rfl rfl (fun s1_116 => ?_) (fun s1_116 => ?_)
  · refine er_loc (pc' := 83) rfl rfl rfl ?_
    refine er_gf (pc' := 86) (.int (nI 1)) rfl rfl rfl rfl rfl ?_
    refine er_if_neT rfl (by decide +kernel) ?_
    refine er_k (pc' := 94) (nI 1) rfl rfl rfl ?_
    refine er_iret rfl rfl ?_
    rw [s1_116]
    exact PI_of (by decide +kernel)
  refine er_tsD [107, 109, 115, 116] rfl rfl rfl rfl (List.forall_mem_cons.mpr ⟨ne_toInt s1_107 rfl, List.forall_mem_cons.mpr ⟨ne_toInt s1_109 rfl, List.forall_mem_cons.mpr ⟨ne_toInt s1_115 rfl, List.forall_mem_cons.mpr ⟨ne_toInt s1_116 rfl, fun _ h => absurd h List.not_mem_nil⟩⟩⟩⟩) ?_
  refine er_k (pc' := 110) (-1) rfl rfl rfl ?_
  refine er_iret rfl rfl ?_
  exact PI_of (nmQ_no s1_115 s1_109 s1_116 s1_107).symm
theorem l_yName (d : Nat) (X Z : Nat → Nat → Int32) {u op p : Nat} (hu : u = 0 ∨ u = 1) {bad : Bool} {y : YS} (b : Int32) : EC (d + 1) 160 [.ref 63, .int b] (Wd X (QZ Z u op bad p y)) (PI (nmQ u b) (Wd X (QZ Z u op bad p y))) := by
  rcases hu with h | h <;> subst h
  · exact l_yName0 d X Z b
  · exact l_yName1 d X Z b
theorem dg_in {b : Int32} : sIn b (nI 48) (nI 57) = dg b := rfl
set_option maxRecDepth 100000 in
set_option maxHeartbeats 4000000 in
theorem l_yNum_loop (d : Nat) (X Z : Nat → Nat → Int32) {u op e : Nat} {y : YS} (he : X 64 5 = nI e) (he50 : e ≤ 50) (hy : y.1 ≤ 50) : ∀ (m i p : Nat) (v x : Int32), (1 ≤ i ∧ i + m = 4) → x = nI i → p ≤ e → ER (d + 1) tb_m163 4 [(0, .ref 63), (1, .int v), (2, .int x)] [] (Wd X (QZ Z u op false p y)) (PN X (QZ Z u op false (pNum (jm (X 64) 9) e m p v).1 (wrY y (nI 1) (pNum (jm (X 64) 9) e m p v).2)))
  | 0, i, p, v, x, hi, hx, hp => by
    have hi0 : i = 4 := by omega
    subst hx
    subst hi0
    refine er_loc (pc' := 5) rfl rfl rfl ?_
    refine er_k (pc' := 6) (nI 4) rfl rfl rfl ?_
    refine er_cm_geT rfl (nI_nlt (by omega) (by omega)) ?_
    refine er_loc (pc' := 53) rfl rfl rfl ?_
    refine er_loc (pc' := 54) rfl rfl rfl ?_
    refine er_if_neT rfl (nI_ne0 (by omega) (by omega)) ?_
    refine er_k (pc' := 62) (nI 0) rfl rfl rfl ?_
    refine er_pfIZ 12 rfl rfl rfl rfl rfl rfl ?_
    rw [show (nI 0 : Int32) = bI false from rfl, QZ_b]
    refine er_loc (pc' := 66) rfl rfl rfl ?_
    refine er_k (pc' := 67) (nI 1) rfl rfl rfl ?_
    refine er_loc (pc' := 68) rfl rfl rfl ?_
    refine er_cIn (pc' := 71) (rest := []) 12 rfl rfl rfl rfl rfl rfl (l_yLays _ X _ (hy) _ _) ?_
    refine er_vret rfl rfl ?_
    exact PN_of rfl
  | m + 1, i, p, v, x, hi, hx, hp => by
    subst hx
    refine er_loc (pc' := 5) rfl rfl rfl ?_
    refine er_k (pc' := 6) (nI 4) rfl rfl rfl ?_
    refine er_cm_geF (pc' := 9) rfl (nI_lt (by omega) (by omega)) rfl ?_
    refine er_loc (pc' := 10) rfl rfl rfl ?_
    refine er_cIi (pc' := 13) (rest := []) 12 rfl rfl rfl rfl rfl rfl (l_yByte _ X _ he he50 hp) ?_
    refine er_k (pc' := 15) (nI 48) rfl rfl rfl ?_
    refine er_k (pc' := 17) (nI 57) rfl rfl rfl ?_
    refine er_cSi (pc' := 20) (rest := []) rfl rfl rfl (l_in _ _ _ _ _) ?_
    rw [dg_in]
    refine er_if_eqb (pc' := 23) rfl rfl (fun h20 => ?_) (fun h20 => ?_)
    · refine er_loc (pc' := 53) rfl rfl rfl ?_
      refine er_loc (pc' := 54) rfl rfl rfl ?_
      refine er_if_neT rfl (nI_ne0 (by omega) (by omega)) ?_
      refine er_k (pc' := 62) (nI 0) rfl rfl rfl ?_
      refine er_pfIZ 12 rfl rfl rfl rfl rfl rfl ?_
      rw [show (nI 0 : Int32) = bI false from rfl, QZ_b]
      refine er_loc (pc' := 66) rfl rfl rfl ?_
      refine er_k (pc' := 67) (nI 1) rfl rfl rfl ?_
      refine er_loc (pc' := 68) rfl rfl rfl ?_
      refine er_cIn (pc' := 71) (rest := []) 12 rfl rfl rfl rfl rfl rfl (l_yLays _ X _ (hy) _ _) ?_
      refine er_vret rfl rfl ?_
      rw [show pNum (jm (X 64) 9) e (m + 1) p v = (p, v) from if_neg (by rw [h20]; decide)]
      exact PN_of rfl
    · refine er_k (pc' := 25) (nI 10) rfl rfl rfl ?_
      refine er_loc (pc' := 26) rfl rfl rfl ?_
      refine er_imul (pc' := 27) rfl rfl ?_
      refine er_loc (pc' := 28) rfl rfl rfl ?_
      refine er_cIi (pc' := 31) (rest := [_]) 12 rfl rfl rfl rfl rfl rfl (l_yByte _ X _ he he50 hp) ?_
      refine er_iadd (pc' := 32) rfl rfl ?_
      refine er_k (pc' := 34) (nI 48) rfl rfl rfl ?_
      refine er_isub (pc' := 35) rfl rfl ?_
      refine er_loc (pc' := 36) (L' := [(1, _), (0, _), (2, _)]) rfl rfl rfl ?_
      refine er_loc (pc' := 37) rfl rfl rfl ?_
      refine er_pure (pc' := 38) rfl rfl rfl ?_
      refine er_gf (pc' := 41) (.int (nI p)) rfl rfl rfl rfl rfl ?_
      refine er_k (pc' := 42) (nI 1) rfl rfl rfl ?_
      refine er_iadd (pc' := 43) rfl rfl ?_
      rw [nI_add p 1]
      refine er_pfIZ (pc' := 46) 10 rfl rfl rfl rfl rfl rfl ?_
      rw [QZ_p]
      refine er_loc (L' := [(2, .int (_ + nI 1)), (1, _), (0, _)]) rfl rfl rfl ?_
      refine er_goto rfl ?_
      refine ER_loc [(0, _), (1, _), (2, _)] rfl (List.forall_mem_cons.mpr ⟨rfl, List.forall_mem_cons.mpr ⟨rfl, List.forall_mem_cons.mpr ⟨rfl, fun _ h => absurd h List.not_mem_nil⟩⟩⟩) rfl rfl ?_
      have e2 : pNum (jm (X 64) 9) e (m + 1) p v = pNum (jm (X 64) 9) e m (p + 1) (v * nI 10 + pk (jm (X 64) 9) e p - nI 48) := if_pos h20
      rw [e2, Int32.mul_comm (nI 10) v]
      exact l_yNum_loop d X Z he he50 hy m (i + 1) (p + 1) _ _ (by omega) (nI_add i 1) (dg_lt h20)
set_option maxRecDepth 100000 in
set_option maxHeartbeats 4000000 in
theorem l_yNum (d : Nat) (X Z : Nat → Nat → Int32) {u op e p : Nat} {y : YS} (he : X 64 5 = nI e) (he50 : e ≤ 50) (hp : p ≤ e) (hy : y.1 ≤ 50) : EC (d + 3) 163 [.ref 63] (Wd X (QZ Z u op false p y)) (PN X (if dg (pk (jm (X 64) 9) e p) = true then QZ Z u op false (pNum (jm (X 64) 9) e 4 p (nI 0)).1 (wrY y (nI 1) (pNum (jm (X 64) 9) e 4 p (nI 0)).2) else QZ Z u op true p (wrY y (nI 1) (nI 0)))) := by
  refine er_enter (L := [(0, _)]) rfl rfl rfl ?_
  refine er_k (pc' := 1) (nI 0) rfl rfl rfl ?_
  refine er_loc (pc' := 2) (L' := [(1, _), (0, _)]) rfl rfl rfl ?_
  refine er_k (pc' := 3) (nI 0) rfl rfl rfl ?_
  refine er_loc (pc' := 4) (L' := [(2, _), (1, _), (0, _)]) rfl rfl rfl ?_
  refine er_loc (pc' := 5) rfl rfl rfl ?_
  refine er_k (pc' := 6) (nI 4) rfl rfl rfl ?_
  refine er_cm_geF (pc' := 9) rfl (nI_lt (by omega) (by omega)) rfl ?_
  refine er_loc (pc' := 10) rfl rfl rfl ?_
  refine er_cIi (pc' := 13) (rest := []) 12 rfl rfl rfl rfl rfl rfl (l_yByte _ X _ he he50 hp) ?_
  refine er_k (pc' := 15) (nI 48) rfl rfl rfl ?_
  refine er_k (pc' := 17) (nI 57) rfl rfl rfl ?_
  refine er_cSi (pc' := 20) (rest := []) rfl rfl rfl (l_in _ _ _ _ _) ?_
  rw [dg_in]
  refine er_if_eqb (pc' := 23) rfl rfl (fun h20 => ?_) (fun h20 => ?_)
  · refine er_loc (pc' := 53) rfl rfl rfl ?_
    refine er_loc (pc' := 54) rfl rfl rfl ?_
    refine er_if_neF (pc' := 57) rfl (rfl) rfl ?_
    refine er_k (pc' := 58) (nI 1) rfl rfl rfl ?_
    refine er_goto rfl ?_
    refine er_pfIZ 12 rfl rfl rfl rfl rfl rfl ?_
    rw [show (nI 1 : Int32) = bI true from rfl, QZ_b]
    refine er_loc (pc' := 66) rfl rfl rfl ?_
    refine er_k (pc' := 67) (nI 1) rfl rfl rfl ?_
    refine er_loc (pc' := 68) rfl rfl rfl ?_
    refine er_cIn (pc' := 71) (rest := []) 12 rfl rfl rfl rfl rfl rfl (l_yLays _ X _ (hy) _ _) ?_
    refine er_vret rfl rfl ?_
    rw [if_neg (by rw [h20]; decide)]
    exact PN_of rfl
  · refine er_k (pc' := 25) (nI 10) rfl rfl rfl ?_
    refine er_loc (pc' := 26) rfl rfl rfl ?_
    refine er_imul (pc' := 27) rfl rfl ?_
    refine er_loc (pc' := 28) rfl rfl rfl ?_
    refine er_cIi (pc' := 31) (rest := [_]) 12 rfl rfl rfl rfl rfl rfl (l_yByte _ X _ he he50 hp) ?_
    refine er_iadd (pc' := 32) rfl rfl ?_
    refine er_k (pc' := 34) (nI 48) rfl rfl rfl ?_
    refine er_isub (pc' := 35) rfl rfl ?_
    refine er_loc (pc' := 36) (L' := [(1, _), (2, _), (0, _)]) rfl rfl rfl ?_
    refine er_loc (pc' := 37) rfl rfl rfl ?_
    refine er_pure (pc' := 38) rfl rfl rfl ?_
    refine er_gf (pc' := 41) (.int (nI p)) rfl rfl rfl rfl rfl ?_
    refine er_k (pc' := 42) (nI 1) rfl rfl rfl ?_
    refine er_iadd (pc' := 43) rfl rfl ?_
    rw [nI_add p 1]
    refine er_pfIZ (pc' := 46) 10 rfl rfl rfl rfl rfl rfl ?_
    rw [QZ_p]
    refine er_loc (L' := [(2, .int (_ + nI 1)), (1, _), (0, _)]) rfl rfl rfl ?_
    refine er_goto rfl ?_
    refine ER_loc [(0, _), (1, _), (2, _)] rfl (List.forall_mem_cons.mpr ⟨rfl, List.forall_mem_cons.mpr ⟨rfl, List.forall_mem_cons.mpr ⟨rfl, fun _ h => absurd h List.not_mem_nil⟩⟩⟩) rfl rfl ?_
    have e2 : pNum (jm (X 64) 9) e 4 p (nI 0) = pNum (jm (X 64) 9) e 3 (p + 1) (nI 0 * nI 10 + pk (jm (X 64) 9) e p - nI 48) := if_pos h20
    rw [if_pos h20, e2, Int32.mul_comm (nI 10) (nI 0)]
    exact l_yNum_loop (d + 1) X Z he he50 hy 3 1 (p + 1) _ _ (by omega) rfl (dg_lt h20)
