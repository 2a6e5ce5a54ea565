/-! READING a text: the whole, and the method -/
def PRd (X Z : Nat → Nat → Int32) (u e : Nat) (t : PT) : ab_R → Prop := fun r => match t with
  | .inl f => ∃ s' : Nat × (Nat → Int32), f ≤ e ∧ r = (some (.int (nI f)), Wd X (RZ Z u e f true s'))
  | .inr s => s.1 ≤ e ∧ s.2.1 ≤ 50 ∧ r = (some (.int (if s.1 < e then nI s.1 else -1)), Wd X (RZ Z u e s.1 false s.2))
theorem PRd_inl {X Z : Nat → Nat → Int32} {u e f : Nat} {t : PT} {s' : Nat × (Nat → Int32)} (ht : t = .inl f) (h2 : f ≤ e) : PRd X Z u e t (some (.int (nI f)), Wd X (RZ Z u e f true s')) := by
  subst ht
  exact ⟨s', h2, rfl⟩
theorem PRd_inr {X Z : Nat → Nat → Int32} {u e p : Nat} {t : PT} {v : Int32} {s : PS} (ht : t = .inr s) (h1 : s.1 ≤ e) (h2 : s.2.1 ≤ 50) (hv : v = if s.1 < e then nI s.1 else -1) : PRd X Z u e t (some (.int v), Wd X (RZ Z u e s.1 false s.2)) := by
  subst ht
  subst hv
  exact ⟨h1, h2, rfl⟩
def z48 (Z : Nat → Nat → Int32) (a b c p q w : Int32) : Nat → Nat → Int32 := uc Z 48 (fun k => match k with
  | 0 => a
  | 1 => b
  | 2 => c
  | 3 => p
  | 4 => q
  | 6 => w
  | _ => 0)
theorem z48_end {Z : Nat → Nat → Int32} {u e : Nat} : z48 Z (nI 20) (nI e) (nI (1000101 + u)) (nI 0) (nI 0) (nI 0) = RZ Z u e 0 false (0, Z 50) := by
  unfold RZ z48
  rw [uc_comm (show 48 ≠ 50 by omega), uc_id]
  refine congrArg (uc Z 48) (funext fun k => ?_)
  match k with
  | 0 => rfl
  | 1 => rfl
  | 2 => rfl
  | 3 => rfl
  | 4 => rfl
  | 5 => rfl
  | 6 => rfl
  | k + 7 => rfl
theorem z48_uc {Z : Nat → Nat → Int32} {a b c p q w : Int32} {g : Nat → Int32} : uc (z48 Z a b c p q w) 48 g = uc Z 48 g := uc_uc _ _ _ _
set_option maxRecDepth 100000 in
set_option maxHeartbeats 4000000 in
theorem l_read0 (d : Nat) (X Z : Nat → Nat → Int32) {e : Nat} (ht : ∀ k, isN (X 20 k) 255) (he50 : e ≤ 50) : EC (d + 80) 61 [.ref 48, .ref 20, .int (nI e), .ref 1000101] (Wd X Z) (PRd X Z 0 e (qq (X 20) e 0 36 0 0 (0, (0, Z 50)))) := by
  refine er_enter (L := [(0, _), (1, _), (2, _), (3, _)]) rfl rfl rfl ?_
  refine er_loc (pc' := 1) rfl rfl rfl ?_
  refine er_loc (pc' := 2) rfl rfl rfl ?_
  refine er_pfZ (pc' := 5) (fun k => match k with | 0 => nI 20 | 1 => Z 48 1 | 2 => Z 48 2 | 3 => Z 48 3 | 4 => Z 48 4 | 6 => Z 48 6 | _ => 0) rfl rfl rfl rfl rfl rfl ?_
  change ER _ _ _ _ _ (Wd X (z48 Z (nI 20) (Z 48 1) (Z 48 2) (Z 48 3) (Z 48 4) (Z 48 6))) _
  refine er_loc (pc' := 6) rfl rfl rfl ?_
  refine er_loc (pc' := 7) rfl rfl rfl ?_
  refine er_loc (pc' := 8) rfl rfl rfl ?_
  refine er_al (pc' := 9) rfl rfl rfl rfl ?_
  refine er_min (pc' := 12) rfl rfl rfl rfl ?_
  rw [if_neg (nI_nlt (by omega) (by omega))]
  refine er_pfZ (pc' := 15) (fun k => match k with | 0 => nI 20 | 1 => nI e | 2 => Z 48 2 | 3 => Z 48 3 | 4 => Z 48 4 | 6 => Z 48 6 | _ => 0) rfl rfl rfl rfl rfl rfl ?_
  rw [z48_uc]
  change ER _ _ _ _ _ (Wd X (z48 Z (nI 20) (nI e) (Z 48 2) (Z 48 3) (Z 48 4) (Z 48 6))) _
  refine er_loc (pc' := 16) rfl rfl rfl ?_
  refine er_loc (pc' := 17) rfl rfl rfl ?_
  refine er_pfZ (pc' := 20) (fun k => match k with | 0 => nI 20 | 1 => nI e | 2 => nI 1000101 | 3 => Z 48 3 | 4 => Z 48 4 | 6 => Z 48 6 | _ => 0) rfl rfl rfl rfl rfl rfl ?_
  rw [z48_uc]
  change ER _ _ _ _ _ (Wd X (z48 Z (nI 20) (nI e) (nI 1000101) (Z 48 3) (Z 48 4) (Z 48 6))) _
  refine er_loc (pc' := 21) rfl rfl rfl ?_
  refine er_k (pc' := 22) (nI 0) rfl rfl rfl ?_
  refine er_pfZ (pc' := 25) (fun k => match k with | 0 => nI 20 | 1 => nI e | 2 => nI 1000101 | 3 => nI 0 | 4 => Z 48 4 | 6 => Z 48 6 | _ => 0) rfl rfl rfl rfl rfl rfl ?_
  rw [z48_uc]
  change ER _ _ _ _ _ (Wd X (z48 Z (nI 20) (nI e) (nI 1000101) (nI 0) (Z 48 4) (Z 48 6))) _
  refine er_loc (pc' := 26) rfl rfl rfl ?_
  refine er_k (pc' := 27) (nI 0) rfl rfl rfl ?_
  refine er_pfZ (pc' := 30) (fun k => match k with | 0 => nI 20 | 1 => nI e | 2 => nI 1000101 | 3 => nI 0 | 4 => nI 0 | 6 => Z 48 6 | _ => 0) rfl rfl rfl rfl rfl rfl ?_
  rw [z48_uc]
  change ER _ _ _ _ _ (Wd X (z48 Z (nI 20) (nI e) (nI 1000101) (nI 0) (nI 0) (Z 48 6))) _
  refine er_loc (pc' := 31) rfl rfl rfl ?_
  refine er_k (pc' := 32) (nI 0) rfl rfl rfl ?_
  refine er_pfZ (pc' := 35) (fun k => match k with | 0 => nI 20 | 1 => nI e | 2 => nI 1000101 | 3 => nI 0 | 4 => nI 0 | 6 => nI 0 | _ => 0) rfl rfl rfl rfl rfl rfl ?_
  rw [z48_uc]
  change ER _ _ _ _ _ (Wd X (z48 Z (nI 20) (nI e) (nI 1000101) (nI 0) (nI 0) (nI 0))) _
  rw [show nI 1000101 = nI (1000101 + 0) from rfl, z48_end]
  refine er_loc (pc' := 36) rfl rfl rfl ?_
  refine er_k (pc' := 37) (nI 0) rfl rfl rfl ?_
  refine er_k (pc' := 38) (nI 0) rfl rfl rfl ?_
  refine er_cS (pc' := 41) (rest := []) rfl rfl rfl ((l_qq0 X Z ht he50 36 (d + 78) (by omega)).2 0 0 0 (0, Z 50) (by omega) (by omega) (by omega) (by omega) (by omega)) (fun r hr => ?_)
  cases hf : qq (X 20) e 0 36 0 0 (0, (0, Z 50)) with
  | inl y =>
    rw [hf] at hr
    obtain ⟨s', g1, g2, rfl⟩ := hr
    change ER _ _ _ _ [] (Wd X (RZ Z 0 e y true s')) _
    refine er_loc (pc' := 42) rfl rfl rfl ?_
    refine er_gf (pc' := 45) (.int (nI 1)) rfl rfl rfl rfl rfl ?_
    refine er_if_neT rfl (by decide +kernel) ?_
    refine er_loc (pc' := 60) rfl rfl rfl ?_
    refine er_gf (pc' := 63) (.int (nI y)) rfl rfl rfl rfl rfl ?_
    refine er_goto rfl ?_
    refine er_iret rfl rfl ?_
    exact PRd_inl rfl g2
  | inr s' =>
    rw [hf] at hr
    obtain ⟨g1, g2, rfl⟩ := hr
    change ER _ _ _ _ [] (Wd X (RZ Z 0 e s'.1 false s'.2)) _
    refine er_loc (pc' := 42) rfl rfl rfl ?_
    refine er_gf (pc' := 45) (.int (nI 0)) rfl rfl rfl rfl rfl ?_
    refine er_if_neF (pc' := 48) rfl (by decide +kernel) rfl ?_
    refine er_loc (pc' := 49) rfl rfl rfl ?_
    refine er_gf (pc' := 52) (.int (nI s'.1)) rfl rfl rfl rfl rfl ?_
    refine er_loc (pc' := 53) rfl rfl rfl ?_
    refine er_gf (pc' := 56) (.int (nI e)) rfl rfl rfl rfl rfl ?_
    refine er_cm_ge (pc' := 59) rfl rfl (fun h56 => ?_) (fun h56 => ?_)
    · have hlt : ¬ s'.1 < e := fun c => h56 (nI_lt c (by omega))
      refine er_k (pc' := 67) (-1) rfl rfl rfl ?_
      refine er_iret rfl rfl ?_
      exact PRd_inr (p := 0) rfl g1 g2 (by first | rw [if_pos hlt] | rw [if_neg hlt])
    · have hlt : s'.1 < e := (nI_ltI (by omega) (by omega)).mp h56
      refine er_loc (pc' := 60) rfl rfl rfl ?_
      refine er_gf (pc' := 63) (.int (nI s'.1)) rfl rfl rfl rfl rfl ?_
      refine er_goto rfl ?_
      refine er_iret rfl rfl ?_
      exact PRd_inr (p := 0) rfl g1 g2 (by first | rw [if_pos hlt] | rw [if_neg hlt])
set_option maxRecDepth 100000 in
set_option maxHeartbeats 4000000 in
theorem l_read1 (d : Nat) (X Z : Nat → Nat → Int32) {e : Nat} (ht : ∀ k, isN (X 20 k) 255) (he50 : e ≤ 50) : EC (d + 80) 61 [.ref 48, .ref 20, .int (nI e), .ref 1000102] (Wd X Z) (PRd X Z 1 e (qq (X 20) e 1 36 0 0 (0, (0, Z 50)))) := by
  refine er_enter (L := [(0, _), (1, _), (2, _), (3, _)]) rfl rfl rfl ?_
  refine er_loc (pc' := 1) rfl rfl rfl ?_
  refine er_loc (pc' := 2) rfl rfl rfl ?_
  refine er_pfZ (pc' := 5) (fun k => match k with | 0 => nI 20 | 1 => Z 48 1 | 2 => Z 48 2 | 3 => Z 48 3 | 4 => Z 48 4 | 6 => Z 48 6 | _ => 0) rfl rfl rfl rfl rfl rfl ?_
  change ER _ _ _ _ _ (Wd X (z48 Z (nI 20) (Z 48 1) (Z 48 2) (Z 48 3) (Z 48 4) (Z 48 6))) _
  refine er_loc (pc' := 6) rfl rfl rfl ?_
  refine er_loc (pc' := 7) rfl rfl rfl ?_
  refine er_loc (pc' := 8) rfl rfl rfl ?_
  refine er_al (pc' := 9) rfl rfl rfl rfl ?_
  refine er_min (pc' := 12) rfl rfl rfl rfl ?_
  rw [if_neg (nI_nlt (by omega) (by omega))]
  refine er_pfZ (pc' := 15) (fun k => match k with | 0 => nI 20 | 1 => nI e | 2 => Z 48 2 | 3 => Z 48 3 | 4 => Z 48 4 | 6 => Z 48 6 | _ => 0) rfl rfl rfl rfl rfl rfl ?_
  rw [z48_uc]
  change ER _ _ _ _ _ (Wd X (z48 Z (nI 20) (nI e) (Z 48 2) (Z 48 3) (Z 48 4) (Z 48 6))) _
  refine er_loc (pc' := 16) rfl rfl rfl ?_
  refine er_loc (pc' := 17) rfl rfl rfl ?_
  refine er_pfZ (pc' := 20) (fun k => match k with | 0 => nI 20 | 1 => nI e | 2 => nI 1000102 | 3 => Z 48 3 | 4 => Z 48 4 | 6 => Z 48 6 | _ => 0) rfl rfl rfl rfl rfl rfl ?_
  rw [z48_uc]
  change ER _ _ _ _ _ (Wd X (z48 Z (nI 20) (nI e) (nI 1000102) (Z 48 3) (Z 48 4) (Z 48 6))) _
  refine er_loc (pc' := 21) rfl rfl rfl ?_
  refine er_k (pc' := 22) (nI 0) rfl rfl rfl ?_
  refine er_pfZ (pc' := 25) (fun k => match k with | 0 => nI 20 | 1 => nI e | 2 => nI 1000102 | 3 => nI 0 | 4 => Z 48 4 | 6 => Z 48 6 | _ => 0) rfl rfl rfl rfl rfl rfl ?_
  rw [z48_uc]
  change ER _ _ _ _ _ (Wd X (z48 Z (nI 20) (nI e) (nI 1000102) (nI 0) (Z 48 4) (Z 48 6))) _
  refine er_loc (pc' := 26) rfl rfl rfl ?_
  refine er_k (pc' := 27) (nI 0) rfl rfl rfl ?_
  refine er_pfZ (pc' := 30) (fun k => match k with | 0 => nI 20 | 1 => nI e | 2 => nI 1000102 | 3 => nI 0 | 4 => nI 0 | 6 => Z 48 6 | _ => 0) rfl rfl rfl rfl rfl rfl ?_
  rw [z48_uc]
  change ER _ _ _ _ _ (Wd X (z48 Z (nI 20) (nI e) (nI 1000102) (nI 0) (nI 0) (Z 48 6))) _
  refine er_loc (pc' := 31) rfl rfl rfl ?_
  refine er_k (pc' := 32) (nI 0) rfl rfl rfl ?_
  refine er_pfZ (pc' := 35) (fun k => match k with | 0 => nI 20 | 1 => nI e | 2 => nI 1000102 | 3 => nI 0 | 4 => nI 0 | 6 => nI 0 | _ => 0) rfl rfl rfl rfl rfl rfl ?_
  rw [z48_uc]
  change ER _ _ _ _ _ (Wd X (z48 Z (nI 20) (nI e) (nI 1000102) (nI 0) (nI 0) (nI 0))) _
  rw [show nI 1000102 = nI (1000101 + 1) from rfl, z48_end]
  refine er_loc (pc' := 36) rfl rfl rfl ?_
  refine er_k (pc' := 37) (nI 0) rfl rfl rfl ?_
  refine er_k (pc' := 38) (nI 0) rfl rfl rfl ?_
  refine er_cS (pc' := 41) (rest := []) rfl rfl rfl ((l_qq1 X Z ht he50 36 (d + 78) (by omega)).2 0 0 0 (0, Z 50) (by omega) (by omega) (by omega) (by omega) (by omega)) (fun r hr => ?_)
  cases hf : qq (X 20) e 1 36 0 0 (0, (0, Z 50)) with
  | inl y =>
    rw [hf] at hr
    obtain ⟨s', g1, g2, rfl⟩ := hr
    change ER _ _ _ _ [] (Wd X (RZ Z 1 e y true s')) _
    refine er_loc (pc' := 42) rfl rfl rfl ?_
    refine er_gf (pc' := 45) (.int (nI 1)) rfl rfl rfl rfl rfl ?_
    refine er_if_neT rfl (by decide +kernel) ?_
    refine er_loc (pc' := 60) rfl rfl rfl ?_
    refine er_gf (pc' := 63) (.int (nI y)) rfl rfl rfl rfl rfl ?_
    refine er_goto rfl ?_
    refine er_iret rfl rfl ?_
    exact PRd_inl rfl g2
  | inr s' =>
    rw [hf] at hr
    obtain ⟨g1, g2, rfl⟩ := hr
    change ER _ _ _ _ [] (Wd X (RZ Z 1 e s'.1 false s'.2)) _
    refine er_loc (pc' := 42) rfl rfl rfl ?_
    refine er_gf (pc' := 45) (.int (nI 0)) rfl rfl rfl rfl rfl ?_
    refine er_if_neF (pc' := 48) rfl (by decide +kernel) rfl ?_
    refine er_loc (pc' := 49) rfl rfl rfl ?_
    refine er_gf (pc' := 52) (.int (nI s'.1)) rfl rfl rfl rfl rfl ?_
    refine er_loc (pc' := 53) rfl rfl rfl ?_
    refine er_gf (pc' := 56) (.int (nI e)) rfl rfl rfl rfl rfl ?_
    refine er_cm_ge (pc' := 59) rfl rfl (fun h56 => ?_) (fun h56 => ?_)
    · have hlt : ¬ s'.1 < e := fun c => h56 (nI_lt c (by omega))
      refine er_k (pc' := 67) (-1) rfl rfl rfl ?_
      refine er_iret rfl rfl ?_
      exact PRd_inr (p := 0) rfl g1 g2 (by first | rw [if_pos hlt] | rw [if_neg hlt])
    · have hlt : s'.1 < e := (nI_ltI (by omega) (by omega)).mp h56
      refine er_loc (pc' := 60) rfl rfl rfl ?_
      refine er_gf (pc' := 63) (.int (nI s'.1)) rfl rfl rfl rfl rfl ?_
      refine er_goto rfl ?_
      refine er_iret rfl rfl ?_
      exact PRd_inr (p := 0) rfl g1 g2 (by first | rw [if_pos hlt] | rw [if_neg hlt])
