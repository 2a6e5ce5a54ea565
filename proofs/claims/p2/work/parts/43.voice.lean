/-! VOICES -/
abbrev VT : Type := Nat × (Nat → Int32)
def bg (t : VT) (b : Int32) : VT := if t.1 < 40 then (t.1 + 1, u1 t.2 t.1 b) else t
theorem bg_le {t : VT} {b : Int32} (h : t.1 ≤ 40) : (bg t b).1 ≤ 40 := by
  unfold bg
  split
  · show t.1 + 1 ≤ 40; omega
  · exact h
def XT (X : Nat → Nat → Int32) (t : VT) : Nat → Nat → Int32 := ud (uc X 52 t.2) 51 1 (nI t.1)
theorem XT_bg {X : Nat → Nat → Int32} {t : VT} {b : Int32} (h : t.1 < 40) : ud (ud (XT X t) 52 t.1 b) 51 1 (nI t.1 + nI 1) = XT X (bg t b) := by
  have e : bg t b = (t.1 + 1, u1 t.2 t.1 b) := if_pos h
  rw [e, nI_add]
  unfold XT
  funext i j
  simp only [ud_at, uc]
  by_cases h1 : i = 51
  · subst h1
    by_cases h2 : j = 1
    · subst h2; simp
    · simp [h2]
  · by_cases h3 : i = 52
    · subst h3
      simp [u1]
    · simp [h1, h3]
def vPF (n x : Int32) (t : VT) : Int32 × VT := (x + n, bg t (nI 10))
def vFits (q : Nat) (n x : Int32) (t : VT) : Int32 × VT := if q = 1 ∨ q = 4 then ((vPF n x (bg t (nI 20))).1 * nI 3, (vPF n x (bg t (nI 20))).2) else vPF n x t
def vPE (q : Nat) (n x : Int32) (t : VT) : Int32 × VT := ((vFits q n x (bg t (nI 11))).1 * nI 2, (vFits q n x (bg t (nI 11))).2)
def vPL (m x : Int32) (t : VT) : Int32 × VT := (x - m, bg t (nI 12))
def vHL (m x : Int32) (t : VT) : Int32 × VT := (-(vPL m x (bg t (nI 40))).1, (vPL m x (bg t (nI 40))).2)
def vLooks (q : Nat) (n m x : Int32) (t : VT) : Int32 × VT := if q = 3 then vHL m x t else if q = 6 then ((vHL m x (bg t (nI 70))).1 ^^^ n, (vHL m x (bg t (nI 70))).2) else vPL m x t
def vGE (q : Nat) (n m x : Int32) (t : VT) : Int32 × VT := ((vPE q n x (bg t (nI 30))).1 - (vLooks q n m (nI 1) (vPE q n x (bg t (nI 30))).2).1, (vLooks q n m (nI 1) (vPE q n x (bg t (nI 30))).2).2)
def vErrs (q : Nat) (n m x : Int32) (t : VT) : Int32 × VT := if q = 2 then vGE q n m x t else if q = 5 then vGE q n m (x + nI 1) (bg t (nI 60)) else vPE q n x t
def vPU (q : Nat) (n m x : Int32) (t : VT) : Int32 × VT := ((vErrs q n m x (bg t (nI 13))).1 ^^^ (vLooks q n m x (vErrs q n m x (bg t (nI 13))).2).1, (vLooks q n m x (vErrs q n m x (bg t (nI 13))).2).2)
def vUndoes (q : Nat) (n m x : Int32) (t : VT) : Int32 × VT :=
  if q = 4 then ((vPU q n m x (bg t (nI 50))).1 - (vFits q n (nI 2) (vPU q n m x (bg t (nI 50))).2).1, (vFits q n (nI 2) (vPU q n m x (bg t (nI 50))).2).2)
  else if q = 6 then ((vErrs q n m x (bg t (nI 71))).1 - (vPU q n m x (vErrs q n m x (bg t (nI 71))).2).1, (vPU q n m x (vErrs q n m x (bg t (nI 71))).2).2)
  else vPU q n m x t
section VLE
variable {q : Nat} {n m x : Int32} {t : VT}
theorem vPF_le (h : t.1 ≤ 40) : (vPF n x t).2.1 ≤ 40 := bg_le h
theorem vFits_le (h : t.1 ≤ 40) : (vFits q n x t).2.1 ≤ 40 := by
  unfold vFits
  split
  · exact vPF_le (n := n) (x := x) (bg_le h)
  · exact vPF_le (n := n) (x := x) h
theorem vPE_le (h : t.1 ≤ 40) : (vPE q n x t).2.1 ≤ 40 := vFits_le (q := q) (n := n) (x := x) (bg_le h)
theorem vPL_le (h : t.1 ≤ 40) : (vPL m x t).2.1 ≤ 40 := bg_le h
theorem vHL_le (h : t.1 ≤ 40) : (vHL m x t).2.1 ≤ 40 := vPL_le (m := m) (x := x) (bg_le h)
theorem vLooks_le (h : t.1 ≤ 40) : (vLooks q n m x t).2.1 ≤ 40 := by
  unfold vLooks
  split
  · exact vHL_le (m := m) (x := x) h
  · split
    · exact vHL_le (m := m) (x := x) (bg_le h)
    · exact vPL_le (m := m) (x := x) h
theorem vGE_le (h : t.1 ≤ 40) : (vGE q n m x t).2.1 ≤ 40 := vLooks_le (q := q) (n := n) (m := m) (x := nI 1) (vPE_le (q := q) (n := n) (x := x) (bg_le h))
theorem vErrs_le (h : t.1 ≤ 40) : (vErrs q n m x t).2.1 ≤ 40 := by
  unfold vErrs
  split
  · exact vGE_le (q := q) (n := n) (m := m) (x := x) h
  · split
    · exact vGE_le (q := q) (n := n) (m := m) (x := x + nI 1) (bg_le h)
    · exact vPE_le (q := q) (n := n) (x := x) h
theorem vPU_le (h : t.1 ≤ 40) : (vPU q n m x t).2.1 ≤ 40 := vLooks_le (q := q) (n := n) (m := m) (x := x) (vErrs_le (q := q) (n := n) (m := m) (x := x) (bg_le h))
theorem vUndoes_le (h : t.1 ≤ 40) : (vUndoes q n m x t).2.1 ≤ 40 := by
  unfold vUndoes
  split
  · exact vFits_le (q := q) (n := n) (x := nI 2) (vPU_le (q := q) (n := n) (m := m) (x := x) (bg_le h))
  · split
    · exact vPU_le (q := q) (n := n) (m := m) (x := x) (vErrs_le (q := q) (n := n) (m := m) (x := x) (bg_le h))
    · exact vPU_le (q := q) (n := n) (m := m) (x := x) h
end VLE
set_option maxRecDepth 100000 in
set_option maxHeartbeats 4000000 in
theorem l_begins (d : Nat) (X Z : Nat → Nat → Int32) (t : VT) (ht : t.1 ≤ 40) (b : Int32) : EC (d + 1) 72 [.ref 51, .int b] (Wd (XT X t) Z) (RV (XT X (bg t b))) := by
  refine er_enter (L := [(0, _), (1, _)]) rfl rfl rfl ?_
  refine er_loc (pc' := 1) rfl rfl rfl ?_
  refine er_gf (pc' := 4) (.int (nI t.1)) rfl rfl rfl rfl rfl ?_
  refine er_loc (pc' := 5) rfl rfl rfl ?_
  refine er_gf (pc' := 8) (_) rfl rfl rfl rfl rfl ?_
  refine er_al (pc' := 9) rfl rfl rfl rfl ?_
  refine er_cm_ge (pc' := 12) rfl rfl (fun h9 => ?_) (fun h9 => ?_)
  · have hlt : ¬ t.1 < 40 := fun c => h9 (nI_lt c (by omega))
    refine er_vret rfl rfl ?_
    exact RV_of (by first | exact XT_bg hlt | (show XT X t = _; unfold bg; rw [if_neg hlt]))
  · have hlt : t.1 < 40 := by
      rcases Nat.lt_or_ge t.1 40 with c | c
      · exact c
      · exact absurd h9 (nI_nlt c (by omega))
    refine er_loc (pc' := 13) rfl rfl rfl ?_
    refine er_gf (pc' := 16) (_) rfl rfl rfl rfl rfl ?_
    refine er_loc (pc' := 17) rfl rfl rfl ?_
    refine er_gf (pc' := 20) (.int (nI t.1)) rfl rfl rfl rfl rfl ?_
    refine er_loc (pc' := 21) rfl rfl rfl ?_
    refine er_isX (pc' := 22) (t.1) rfl rfl (fun _ => rfl) rfl hlt rfl rfl ?_
    refine er_loc (pc' := 23) rfl rfl rfl ?_
    refine er_pure (pc' := 24) rfl rfl rfl ?_
    refine er_gf (pc' := 27) (.int (nI t.1)) rfl rfl rfl rfl rfl ?_
    refine er_k (pc' := 28) (nI 1) rfl rfl rfl ?_
    refine er_iadd (pc' := 29) rfl rfl ?_
    refine er_pfIX (pc' := 32) 1 rfl rfl rfl rfl rfl rfl ?_
    refine er_vret rfl rfl ?_
    exact RV_of (by first | exact XT_bg hlt | (show XT X t = _; unfold bg; rw [if_neg hlt]))
set_option maxRecDepth 100000 in
set_option maxHeartbeats 4000000 in
theorem l_v5 (c : Nat) (d : Nat) (X Z : Nat → Nat → Int32) (n m : Int32) (hn : X 51 2 = n) (hm : X 51 3 = m) (t : VT) (ht : t.1 ≤ 40) (x : Int32) : EC (d + 2) 5 [.ref c, .ref 51, .int x] (Wd (XT X t) Z) (RI (vPF n x t).1 (XT X (vPF n x t).2)) := by
  refine er_enter (L := [(0, _), (1, _), (2, _)]) rfl rfl rfl ?_
  unfold vPF
  refine er_loc (pc' := 1) rfl rfl rfl ?_
  refine er_k (pc' := 3) (nI 10) rfl rfl rfl ?_
  refine er_cIv (pc' := 6) (rest := []) 10 rfl rfl rfl rfl rfl rfl (l_begins _ _ _ _ ht _) ?_
  intro Z7
  refine er_loc (pc' := 7) rfl rfl rfl ?_
  refine er_loc (pc' := 8) rfl rfl rfl ?_
  refine er_gf (pc' := 11) (.int (X 51 2)) rfl rfl rfl rfl rfl ?_
  rw [hn]
  refine er_iadd (pc' := 12) rfl rfl ?_
  refine er_iret rfl rfl ?_
  exact RI_of (by dsimp only) (by dsimp only)
set_option maxRecDepth 100000 in
set_option maxHeartbeats 4000000 in
theorem l_v6 (c : Nat) (d : Nat) (X Z : Nat → Nat → Int32) (n m : Int32) (hn : X 51 2 = n) (hm : X 51 3 = m) (t : VT) (ht : t.1 ≤ 40) (x : Int32) : EC (d + 2) 6 [.ref c, .ref 51, .int x] (Wd (XT X t) Z) (RI (vPL m x t).1 (XT X (vPL m x t).2)) := by
  refine er_enter (L := [(0, _), (1, _), (2, _)]) rfl rfl rfl ?_
  unfold vPL
  refine er_loc (pc' := 1) rfl rfl rfl ?_
  refine er_k (pc' := 3) (nI 12) rfl rfl rfl ?_
  refine er_cIv (pc' := 6) (rest := []) 10 rfl rfl rfl rfl rfl rfl (l_begins _ _ _ _ ht _) ?_
  intro Z7
  refine er_loc (pc' := 7) rfl rfl rfl ?_
  refine er_loc (pc' := 8) rfl rfl rfl ?_
  refine er_gf (pc' := 11) (.int (X 51 3)) rfl rfl rfl rfl rfl ?_
  rw [hm]
  refine er_isub (pc' := 12) rfl rfl ?_
  refine er_iret rfl rfl ?_
  exact RI_of (by dsimp only) (by dsimp only)
set_option maxRecDepth 100000 in
set_option maxHeartbeats 4000000 in
theorem l_v11_1 (d : Nat) (X Z : Nat → Nat → Int32) (n m : Int32) (hn : X 51 2 = n) (hm : X 51 3 = m) (t : VT) (ht : t.1 ≤ 40) (x : Int32) : EC (d + 3) 11 [.ref 3, .ref 51, .int x] (Wd (XT X t) Z) (RI (vFits 1 n x t).1 (XT X (vFits 1 n x t).2)) := by
  refine er_enter (L := [(0, _), (1, _), (2, _)]) rfl rfl rfl ?_
  unfold vFits
  rw [if_pos (by omega)]
  refine er_loc (pc' := 1) rfl rfl rfl ?_
  refine er_k (pc' := 3) (nI 20) rfl rfl rfl ?_
  refine er_cIv (pc' := 6) (rest := []) 10 rfl rfl rfl rfl rfl rfl (l_begins _ _ _ _ ht _) ?_
  intro Z7
  refine er_loc (pc' := 7) rfl rfl rfl ?_
  refine er_loc (pc' := 8) rfl rfl rfl ?_
  refine er_loc (pc' := 9) rfl rfl rfl ?_
  refine er_cIz (pc' := 12) (rest := []) 1 rfl rfl rfl rfl rfl rfl (l_v5 _ _ _ _ n m hn hm _ (bg_le ht) _) ?_
  intro Z2
  refine er_k (pc' := 13) (nI 3) rfl rfl rfl ?_
  refine er_imul (pc' := 14) rfl rfl ?_
  refine er_iret rfl rfl ?_
  exact RI_of (by dsimp only) (by dsimp only)
set_option maxRecDepth 100000 in
set_option maxHeartbeats 4000000 in
theorem l_v11_4 (d : Nat) (X Z : Nat → Nat → Int32) (n m : Int32) (hn : X 51 2 = n) (hm : X 51 3 = m) (t : VT) (ht : t.1 ≤ 40) (x : Int32) : EC (d + 3) 11 [.ref 6, .ref 51, .int x] (Wd (XT X t) Z) (RI (vFits 4 n x t).1 (XT X (vFits 4 n x t).2)) := by
  refine er_enter (L := [(0, _), (1, _), (2, _)]) rfl rfl rfl ?_
  unfold vFits
  rw [if_pos (by omega)]
  refine er_loc (pc' := 1) rfl rfl rfl ?_
  refine er_k (pc' := 3) (nI 20) rfl rfl rfl ?_
  refine er_cIv (pc' := 6) (rest := []) 10 rfl rfl rfl rfl rfl rfl (l_begins _ _ _ _ ht _) ?_
  intro Z7
  refine er_loc (pc' := 7) rfl rfl rfl ?_
  refine er_loc (pc' := 8) rfl rfl rfl ?_
  refine er_loc (pc' := 9) rfl rfl rfl ?_
  refine er_cIz (pc' := 12) (rest := []) 4 rfl rfl rfl rfl rfl rfl (l_v5 _ _ _ _ n m hn hm _ (bg_le ht) _) ?_
  intro Z2
  refine er_k (pc' := 13) (nI 3) rfl rfl rfl ?_
  refine er_imul (pc' := 14) rfl rfl ?_
  refine er_iret rfl rfl ?_
  exact RI_of (by dsimp only) (by dsimp only)
def tgF (q : Nat) : Nat := if q = 1 ∨ q = 4 then 11 else 5
theorem l_vFits (d q : Nat) (hq : q < 7) (X Z : Nat → Nat → Int32) (n m : Int32) (hn : X 51 2 = n) (hm : X 51 3 = m) (t : VT) (ht : t.1 ≤ 40) (x : Int32) : EC (d + 3) (tgF q) [.ref (2 + q), .ref 51, .int x] (Wd (XT X t) Z) (RI (vFits q n x t).1 (XT X (vFits q n x t).2)) := by
  rcases lt7 hq with rfl | rfl | rfl | rfl | rfl | rfl | rfl
  · rw [show vFits 0 n x t = vPF n x t from if_neg (by omega)]; exact l_v5 (2 + 0) (d + 1) X Z n m hn hm t ht x
  · exact l_v11_1 d X Z n m hn hm t ht x
  · rw [show vFits 2 n x t = vPF n x t from if_neg (by omega)]; exact l_v5 (2 + 2) (d + 1) X Z n m hn hm t ht x
  · rw [show vFits 3 n x t = vPF n x t from if_neg (by omega)]; exact l_v5 (2 + 3) (d + 1) X Z n m hn hm t ht x
  · exact l_v11_4 d X Z n m hn hm t ht x
  · rw [show vFits 5 n x t = vPF n x t from if_neg (by omega)]; exact l_v5 (2 + 5) (d + 1) X Z n m hn hm t ht x
  · rw [show vFits 6 n x t = vPF n x t from if_neg (by omega)]; exact l_v5 (2 + 6) (d + 1) X Z n m hn hm t ht x
set_option maxRecDepth 100000 in
set_option maxHeartbeats 4000000 in
theorem l_v7_0 (d : Nat) (X Z : Nat → Nat → Int32) (n m : Int32) (hn : X 51 2 = n) (hm : X 51 3 = m) (t : VT) (ht : t.1 ≤ 40) (x : Int32) : EC (d + 4) 7 [.ref 2, .ref 51, .int x] (Wd (XT X t) Z) (RI (vPE 0 n x t).1 (XT X (vPE 0 n x t).2)) := by
  refine er_enter (L := [(0, _), (1, _), (2, _)]) rfl rfl rfl ?_
  unfold vPE
  refine er_loc (pc' := 1) rfl rfl rfl ?_
  refine er_k (pc' := 3) (nI 11) rfl rfl rfl ?_
  refine er_cIv (pc' := 6) (rest := []) 10 rfl rfl rfl rfl rfl rfl (l_begins _ _ _ _ ht _) ?_
  intro Z7
  refine er_loc (pc' := 7) rfl rfl rfl ?_
  refine er_loc (pc' := 8) rfl rfl rfl ?_
  refine er_loc (pc' := 9) rfl rfl rfl ?_
  refine er_cIz (pc' := 12) (rest := []) 0 rfl rfl rfl rfl rfl rfl (l_vFits _ 0 (by omega) _ _ n m hn hm _ (bg_le ht) _) ?_
  intro Z2
  refine er_k (pc' := 13) (nI 2) rfl rfl rfl ?_
  refine er_imul (pc' := 14) rfl rfl ?_
  refine er_iret rfl rfl ?_
  exact RI_of (by dsimp only) (by dsimp only)
set_option maxRecDepth 100000 in
set_option maxHeartbeats 4000000 in
theorem l_v7_1 (d : Nat) (X Z : Nat → Nat → Int32) (n m : Int32) (hn : X 51 2 = n) (hm : X 51 3 = m) (t : VT) (ht : t.1 ≤ 40) (x : Int32) : EC (d + 4) 7 [.ref 3, .ref 51, .int x] (Wd (XT X t) Z) (RI (vPE 1 n x t).1 (XT X (vPE 1 n x t).2)) := by
  refine er_enter (L := [(0, _), (1, _), (2, _)]) rfl rfl rfl ?_
  unfold vPE
  refine er_loc (pc' := 1) rfl rfl rfl ?_
  refine er_k (pc' := 3) (nI 11) rfl rfl rfl ?_
  refine er_cIv (pc' := 6) (rest := []) 10 rfl rfl rfl rfl rfl rfl (l_begins _ _ _ _ ht _) ?_
  intro Z7
  refine er_loc (pc' := 7) rfl rfl rfl ?_
  refine er_loc (pc' := 8) rfl rfl rfl ?_
  refine er_loc (pc' := 9) rfl rfl rfl ?_
  refine er_cIz (pc' := 12) (rest := []) 1 rfl rfl rfl rfl rfl rfl (l_vFits _ 1 (by omega) _ _ n m hn hm _ (bg_le ht) _) ?_
  intro Z2
  refine er_k (pc' := 13) (nI 2) rfl rfl rfl ?_
  refine er_imul (pc' := 14) rfl rfl ?_
  refine er_iret rfl rfl ?_
  exact RI_of (by dsimp only) (by dsimp only)
set_option maxRecDepth 100000 in
set_option maxHeartbeats 4000000 in
theorem l_v7_2 (d : Nat) (X Z : Nat → Nat → Int32) (n m : Int32) (hn : X 51 2 = n) (hm : X 51 3 = m) (t : VT) (ht : t.1 ≤ 40) (x : Int32) : EC (d + 4) 7 [.ref 4, .ref 51, .int x] (Wd (XT X t) Z) (RI (vPE 2 n x t).1 (XT X (vPE 2 n x t).2)) := by
  refine er_enter (L := [(0, _), (1, _), (2, _)]) rfl rfl rfl ?_
  unfold vPE
  refine er_loc (pc' := 1) rfl rfl rfl ?_
  refine er_k (pc' := 3) (nI 11) rfl rfl rfl ?_
  refine er_cIv (pc' := 6) (rest := []) 10 rfl rfl rfl rfl rfl rfl (l_begins _ _ _ _ ht _) ?_
  intro Z7
  refine er_loc (pc' := 7) rfl rfl rfl ?_
  refine er_loc (pc' := 8) rfl rfl rfl ?_
  refine er_loc (pc' := 9) rfl rfl rfl ?_
  refine er_cIz (pc' := 12) (rest := []) 2 rfl rfl rfl rfl rfl rfl (l_vFits _ 2 (by omega) _ _ n m hn hm _ (bg_le ht) _) ?_
  intro Z2
  refine er_k (pc' := 13) (nI 2) rfl rfl rfl ?_
  refine er_imul (pc' := 14) rfl rfl ?_
  refine er_iret rfl rfl ?_
  exact RI_of (by dsimp only) (by dsimp only)
set_option maxRecDepth 100000 in
set_option maxHeartbeats 4000000 in
theorem l_v7_3 (d : Nat) (X Z : Nat → Nat → Int32) (n m : Int32) (hn : X 51 2 = n) (hm : X 51 3 = m) (t : VT) (ht : t.1 ≤ 40) (x : Int32) : EC (d + 4) 7 [.ref 5, .ref 51, .int x] (Wd (XT X t) Z) (RI (vPE 3 n x t).1 (XT X (vPE 3 n x t).2)) := by
  refine er_enter (L := [(0, _), (1, _), (2, _)]) rfl rfl rfl ?_
  unfold vPE
  refine er_loc (pc' := 1) rfl rfl rfl ?_
  refine er_k (pc' := 3) (nI 11) rfl rfl rfl ?_
  refine er_cIv (pc' := 6) (rest := []) 10 rfl rfl rfl rfl rfl rfl (l_begins _ _ _ _ ht _) ?_
  intro Z7
  refine er_loc (pc' := 7) rfl rfl rfl ?_
  refine er_loc (pc' := 8) rfl rfl rfl ?_
  refine er_loc (pc' := 9) rfl rfl rfl ?_
  refine er_cIz (pc' := 12) (rest := []) 3 rfl rfl rfl rfl rfl rfl (l_vFits _ 3 (by omega) _ _ n m hn hm _ (bg_le ht) _) ?_
  intro Z2
  refine er_k (pc' := 13) (nI 2) rfl rfl rfl ?_
  refine er_imul (pc' := 14) rfl rfl ?_
  refine er_iret rfl rfl ?_
  exact RI_of (by dsimp only) (by dsimp only)
set_option maxRecDepth 100000 in
set_option maxHeartbeats 4000000 in
theorem l_v7_4 (d : Nat) (X Z : Nat → Nat → Int32) (n m : Int32) (hn : X 51 2 = n) (hm : X 51 3 = m) (t : VT) (ht : t.1 ≤ 40) (x : Int32) : EC (d + 4) 7 [.ref 6, .ref 51, .int x] (Wd (XT X t) Z) (RI (vPE 4 n x t).1 (XT X (vPE 4 n x t).2)) := by
  refine er_enter (L := [(0, _), (1, _), (2, _)]) rfl rfl rfl ?_
  unfold vPE
  refine er_loc (pc' := 1) rfl rfl rfl ?_
  refine er_k (pc' := 3) (nI 11) rfl rfl rfl ?_
  refine er_cIv (pc' := 6) (rest := []) 10 rfl rfl rfl rfl rfl rfl (l_begins _ _ _ _ ht _) ?_
  intro Z7
  refine er_loc (pc' := 7) rfl rfl rfl ?_
  refine er_loc (pc' := 8) rfl rfl rfl ?_
  refine er_loc (pc' := 9) rfl rfl rfl ?_
  refine er_cIz (pc' := 12) (rest := []) 4 rfl rfl rfl rfl rfl rfl (l_vFits _ 4 (by omega) _ _ n m hn hm _ (bg_le ht) _) ?_
  intro Z2
  refine er_k (pc' := 13) (nI 2) rfl rfl rfl ?_
  refine er_imul (pc' := 14) rfl rfl ?_
  refine er_iret rfl rfl ?_
  exact RI_of (by dsimp only) (by dsimp only)
set_option maxRecDepth 100000 in
set_option maxHeartbeats 4000000 in
theorem l_v7_5 (d : Nat) (X Z : Nat → Nat → Int32) (n m : Int32) (hn : X 51 2 = n) (hm : X 51 3 = m) (t : VT) (ht : t.1 ≤ 40) (x : Int32) : EC (d + 4) 7 [.ref 7, .ref 51, .int x] (Wd (XT X t) Z) (RI (vPE 5 n x t).1 (XT X (vPE 5 n x t).2)) := by
  refine er_enter (L := [(0, _), (1, _), (2, _)]) rfl rfl rfl ?_
  unfold vPE
  refine er_loc (pc' := 1) rfl rfl rfl ?_
  refine er_k (pc' := 3) (nI 11) rfl rfl rfl ?_
  refine er_cIv (pc' := 6) (rest := []) 10 rfl rfl rfl rfl rfl rfl (l_begins _ _ _ _ ht _) ?_
  intro Z7
  refine er_loc (pc' := 7) rfl rfl rfl ?_
  refine er_loc (pc' := 8) rfl rfl rfl ?_
  refine er_loc (pc' := 9) rfl rfl rfl ?_
  refine er_cIz (pc' := 12) (rest := []) 5 rfl rfl rfl rfl rfl rfl (l_vFits _ 5 (by omega) _ _ n m hn hm _ (bg_le ht) _) ?_
  intro Z2
  refine er_k (pc' := 13) (nI 2) rfl rfl rfl ?_
  refine er_imul (pc' := 14) rfl rfl ?_
  refine er_iret rfl rfl ?_
  exact RI_of (by dsimp only) (by dsimp only)
set_option maxRecDepth 100000 in
set_option maxHeartbeats 4000000 in
theorem l_v7_6 (d : Nat) (X Z : Nat → Nat → Int32) (n m : Int32) (hn : X 51 2 = n) (hm : X 51 3 = m) (t : VT) (ht : t.1 ≤ 40) (x : Int32) : EC (d + 4) 7 [.ref 8, .ref 51, .int x] (Wd (XT X t) Z) (RI (vPE 6 n x t).1 (XT X (vPE 6 n x t).2)) := by
  refine er_enter (L := [(0, _), (1, _), (2, _)]) rfl rfl rfl ?_
  unfold vPE
  refine er_loc (pc' := 1) rfl rfl rfl ?_
  refine er_k (pc' := 3) (nI 11) rfl rfl rfl ?_
  refine er_cIv (pc' := 6) (rest := []) 10 rfl rfl rfl rfl rfl rfl (l_begins _ _ _ _ ht _) ?_
  intro Z7
  refine er_loc (pc' := 7) rfl rfl rfl ?_
  refine er_loc (pc' := 8) rfl rfl rfl ?_
  refine er_loc (pc' := 9) rfl rfl rfl ?_
  refine er_cIz (pc' := 12) (rest := []) 6 rfl rfl rfl rfl rfl rfl (l_vFits _ 6 (by omega) _ _ n m hn hm _ (bg_le ht) _) ?_
  intro Z2
  refine er_k (pc' := 13) (nI 2) rfl rfl rfl ?_
  refine er_imul (pc' := 14) rfl rfl ?_
  refine er_iret rfl rfl ?_
  exact RI_of (by dsimp only) (by dsimp only)
set_option maxRecDepth 100000 in
set_option maxHeartbeats 4000000 in
theorem l_v19_3 (d : Nat) (X Z : Nat → Nat → Int32) (n m : Int32) (hn : X 51 2 = n) (hm : X 51 3 = m) (t : VT) (ht : t.1 ≤ 40) (x : Int32) : EC (d + 3) 19 [.ref 5, .ref 51, .int x] (Wd (XT X t) Z) (RI (vHL m x t).1 (XT X (vHL m x t).2)) := by
  refine er_enter (L := [(0, _), (1, _), (2, _)]) rfl rfl rfl ?_
  unfold vHL
  refine er_loc (pc' := 1) rfl rfl rfl ?_
  refine er_k (pc' := 3) (nI 40) rfl rfl rfl ?_
  refine er_cIv (pc' := 6) (rest := []) 10 rfl rfl rfl rfl rfl rfl (l_begins _ _ _ _ ht _) ?_
  intro Z7
  refine er_loc (pc' := 7) rfl rfl rfl ?_
  refine er_loc (pc' := 8) rfl rfl rfl ?_
  refine er_loc (pc' := 9) rfl rfl rfl ?_
  refine er_cIz (pc' := 12) (rest := []) 3 rfl rfl rfl rfl rfl rfl (l_v6 _ _ _ _ n m hn hm _ (bg_le ht) _) ?_
  intro Z2
  refine er_ineg (pc' := 13) rfl rfl ?_
  refine er_iret rfl rfl ?_
  exact RI_of (by dsimp only) (by dsimp only)
set_option maxRecDepth 100000 in
set_option maxHeartbeats 4000000 in
theorem l_v19_6 (d : Nat) (X Z : Nat → Nat → Int32) (n m : Int32) (hn : X 51 2 = n) (hm : X 51 3 = m) (t : VT) (ht : t.1 ≤ 40) (x : Int32) : EC (d + 3) 19 [.ref 8, .ref 51, .int x] (Wd (XT X t) Z) (RI (vHL m x t).1 (XT X (vHL m x t).2)) := by
  refine er_enter (L := [(0, _), (1, _), (2, _)]) rfl rfl rfl ?_
  unfold vHL
  refine er_loc (pc' := 1) rfl rfl rfl ?_
  refine er_k (pc' := 3) (nI 40) rfl rfl rfl ?_
  refine er_cIv (pc' := 6) (rest := []) 10 rfl rfl rfl rfl rfl rfl (l_begins _ _ _ _ ht _) ?_
  intro Z7
  refine er_loc (pc' := 7) rfl rfl rfl ?_
  refine er_loc (pc' := 8) rfl rfl rfl ?_
  refine er_loc (pc' := 9) rfl rfl rfl ?_
  refine er_cIz (pc' := 12) (rest := []) 6 rfl rfl rfl rfl rfl rfl (l_v6 _ _ _ _ n m hn hm _ (bg_le ht) _) ?_
  intro Z2
  refine er_ineg (pc' := 13) rfl rfl ?_
  refine er_iret rfl rfl ?_
  exact RI_of (by dsimp only) (by dsimp only)
set_option maxRecDepth 100000 in
set_option maxHeartbeats 4000000 in
theorem l_v29 (d : Nat) (X Z : Nat → Nat → Int32) (n m : Int32) (hn : X 51 2 = n) (hm : X 51 3 = m) (t : VT) (ht : t.1 ≤ 40) (x : Int32) : EC (d + 4) 29 [.ref 8, .ref 51, .int x] (Wd (XT X t) Z) (RI (vLooks 6 n m x t).1 (XT X (vLooks 6 n m x t).2)) := by
  refine er_enter (L := [(0, _), (1, _), (2, _)]) rfl rfl rfl ?_
  unfold vLooks
  rw [if_neg (by omega), if_pos rfl]
  refine er_loc (pc' := 1) rfl rfl rfl ?_
  refine er_k (pc' := 3) (nI 70) rfl rfl rfl ?_
  refine er_cIv (pc' := 6) (rest := []) 10 rfl rfl rfl rfl rfl rfl (l_begins _ _ _ _ ht _) ?_
  intro Z7
  refine er_loc (pc' := 7) rfl rfl rfl ?_
  refine er_loc (pc' := 8) rfl rfl rfl ?_
  refine er_loc (pc' := 9) rfl rfl rfl ?_
  refine er_cIz (pc' := 12) (rest := []) 6 rfl rfl rfl rfl rfl rfl (l_v19_6 _ _ _ n m hn hm _ (bg_le ht) _) ?_
  intro Z2
  refine er_loc (pc' := 13) rfl rfl rfl ?_
  refine er_gf (pc' := 16) (.int (X 51 2)) rfl rfl rfl rfl rfl ?_
  rw [hn]
  refine er_ixor (pc' := 17) rfl rfl ?_
  refine er_iret rfl rfl ?_
  exact RI_of (by dsimp only) (by dsimp only)
def tgK (q : Nat) : Nat := if q = 3 then 19 else if q = 6 then 29 else 6
theorem l_vLooks (d q : Nat) (hq : q < 7) (X Z : Nat → Nat → Int32) (n m : Int32) (hn : X 51 2 = n) (hm : X 51 3 = m) (t : VT) (ht : t.1 ≤ 40) (x : Int32) : EC (d + 4) (tgK q) [.ref (2 + q), .ref 51, .int x] (Wd (XT X t) Z) (RI (vLooks q n m x t).1 (XT X (vLooks q n m x t).2)) := by
  rcases lt7 hq with rfl | rfl | rfl | rfl | rfl | rfl | rfl
  · rw [show vLooks 0 n m x t = vPL m x t from by unfold vLooks; rw [if_neg (by omega), if_neg (by omega)]]; exact l_v6 (2 + 0) (d + 2) X Z n m hn hm t ht x
  · rw [show vLooks 1 n m x t = vPL m x t from by unfold vLooks; rw [if_neg (by omega), if_neg (by omega)]]; exact l_v6 (2 + 1) (d + 2) X Z n m hn hm t ht x
  · rw [show vLooks 2 n m x t = vPL m x t from by unfold vLooks; rw [if_neg (by omega), if_neg (by omega)]]; exact l_v6 (2 + 2) (d + 2) X Z n m hn hm t ht x
  · rw [show vLooks 3 n m x t = vHL m x t from if_pos rfl]; exact l_v19_3 (d + 1) X Z n m hn hm t ht x
  · rw [show vLooks 4 n m x t = vPL m x t from by unfold vLooks; rw [if_neg (by omega), if_neg (by omega)]]; exact l_v6 (2 + 4) (d + 2) X Z n m hn hm t ht x
  · rw [show vLooks 5 n m x t = vPL m x t from by unfold vLooks; rw [if_neg (by omega), if_neg (by omega)]]; exact l_v6 (2 + 5) (d + 2) X Z n m hn hm t ht x
  · exact l_v29 d X Z n m hn hm t ht x
set_option maxRecDepth 100000 in
set_option maxHeartbeats 4000000 in
theorem l_v15_2 (d : Nat) (X Z : Nat → Nat → Int32) (n m : Int32) (hn : X 51 2 = n) (hm : X 51 3 = m) (t : VT) (ht : t.1 ≤ 40) (x : Int32) : EC (d + 5) 15 [.ref 4, .ref 51, .int x] (Wd (XT X t) Z) (RI (vGE 2 n m x t).1 (XT X (vGE 2 n m x t).2)) := by
  refine er_enter (L := [(0, _), (1, _), (2, _)]) rfl rfl rfl ?_
  unfold vGE
  refine er_loc (pc' := 1) rfl rfl rfl ?_
  refine er_k (pc' := 3) (nI 30) rfl rfl rfl ?_
  refine er_cIv (pc' := 6) (rest := []) 10 rfl rfl rfl rfl rfl rfl (l_begins _ _ _ _ ht _) ?_
  intro Z7
  refine er_loc (pc' := 7) rfl rfl rfl ?_
  refine er_loc (pc' := 8) rfl rfl rfl ?_
  refine er_loc (pc' := 9) rfl rfl rfl ?_
  refine er_cIz (pc' := 12) (rest := []) 2 rfl rfl rfl rfl rfl rfl (l_v7_2 _ _ _ n m hn hm _ (bg_le ht) _) ?_
  intro Z2
  refine er_loc (pc' := 13) rfl rfl rfl ?_
  refine er_loc (pc' := 14) rfl rfl rfl ?_
  refine er_k (pc' := 15) (nI 1) rfl rfl rfl ?_
  refine er_cIz (pc' := 18) (rest := [_]) 2 rfl rfl rfl rfl rfl rfl (l_vLooks _ 2 (by omega) _ _ n m hn hm _ (vPE_le (q := 2) (n := n) (x := x) (bg_le ht)) _) ?_
  intro Z3
  refine er_isub (pc' := 19) rfl rfl ?_
  refine er_iret rfl rfl ?_
  exact RI_of (by dsimp only) (by dsimp only)
set_option maxRecDepth 100000 in
set_option maxHeartbeats 4000000 in
theorem l_v15_5 (d : Nat) (X Z : Nat → Nat → Int32) (n m : Int32) (hn : X 51 2 = n) (hm : X 51 3 = m) (t : VT) (ht : t.1 ≤ 40) (x : Int32) : EC (d + 5) 15 [.ref 7, .ref 51, .int x] (Wd (XT X t) Z) (RI (vGE 5 n m x t).1 (XT X (vGE 5 n m x t).2)) := by
  refine er_enter (L := [(0, _), (1, _), (2, _)]) rfl rfl rfl ?_
  unfold vGE
  refine er_loc (pc' := 1) rfl rfl rfl ?_
  refine er_k (pc' := 3) (nI 30) rfl rfl rfl ?_
  refine er_cIv (pc' := 6) (rest := []) 10 rfl rfl rfl rfl rfl rfl (l_begins _ _ _ _ ht _) ?_
  intro Z7
  refine er_loc (pc' := 7) rfl rfl rfl ?_
  refine er_loc (pc' := 8) rfl rfl rfl ?_
  refine er_loc (pc' := 9) rfl rfl rfl ?_
  refine er_cIz (pc' := 12) (rest := []) 5 rfl rfl rfl rfl rfl rfl (l_v7_5 _ _ _ n m hn hm _ (bg_le ht) _) ?_
  intro Z2
  refine er_loc (pc' := 13) rfl rfl rfl ?_
  refine er_loc (pc' := 14) rfl rfl rfl ?_
  refine er_k (pc' := 15) (nI 1) rfl rfl rfl ?_
  refine er_cIz (pc' := 18) (rest := [_]) 5 rfl rfl rfl rfl rfl rfl (l_vLooks _ 5 (by omega) _ _ n m hn hm _ (vPE_le (q := 5) (n := n) (x := x) (bg_le ht)) _) ?_
  intro Z3
  refine er_isub (pc' := 19) rfl rfl ?_
  refine er_iret rfl rfl ?_
  exact RI_of (by dsimp only) (by dsimp only)
set_option maxRecDepth 100000 in
set_option maxHeartbeats 4000000 in
theorem l_v25 (d : Nat) (X Z : Nat → Nat → Int32) (n m : Int32) (hn : X 51 2 = n) (hm : X 51 3 = m) (t : VT) (ht : t.1 ≤ 40) (x : Int32) : EC (d + 6) 25 [.ref 7, .ref 51, .int x] (Wd (XT X t) Z) (RI (vErrs 5 n m x t).1 (XT X (vErrs 5 n m x t).2)) := by
  refine er_enter (L := [(0, _), (1, _), (2, _)]) rfl rfl rfl ?_
  unfold vErrs
  rw [if_neg (by omega), if_pos rfl]
  refine er_loc (pc' := 1) rfl rfl rfl ?_
  refine er_k (pc' := 3) (nI 60) rfl rfl rfl ?_
  refine er_cIv (pc' := 6) (rest := []) 10 rfl rfl rfl rfl rfl rfl (l_begins _ _ _ _ ht _) ?_
  intro Z7
  refine er_loc (pc' := 7) rfl rfl rfl ?_
  refine er_loc (pc' := 8) rfl rfl rfl ?_
  refine er_loc (pc' := 9) rfl rfl rfl ?_
  refine er_k (pc' := 10) (nI 1) rfl rfl rfl ?_
  refine er_iadd (pc' := 11) rfl rfl ?_
  refine er_cIz (pc' := 14) (rest := []) 5 rfl rfl rfl rfl rfl rfl (l_v15_5 _ _ _ n m hn hm _ (bg_le ht) _) ?_
  intro Z2
  refine er_iret rfl rfl ?_
  exact RI_of (by dsimp only) (by dsimp only)
def tgE (q : Nat) : Nat := if q = 2 then 15 else if q = 5 then 25 else 7
theorem l_vErrs (d q : Nat) (hq : q < 7) (X Z : Nat → Nat → Int32) (n m : Int32) (hn : X 51 2 = n) (hm : X 51 3 = m) (t : VT) (ht : t.1 ≤ 40) (x : Int32) : EC (d + 6) (tgE q) [.ref (2 + q), .ref 51, .int x] (Wd (XT X t) Z) (RI (vErrs q n m x t).1 (XT X (vErrs q n m x t).2)) := by
  rcases lt7 hq with rfl | rfl | rfl | rfl | rfl | rfl | rfl
  · rw [show vErrs 0 n m x t = vPE 0 n x t from by unfold vErrs; rw [if_neg (by omega), if_neg (by omega)]]; exact l_v7_0 (d + 2) X Z n m hn hm t ht x
  · rw [show vErrs 1 n m x t = vPE 1 n x t from by unfold vErrs; rw [if_neg (by omega), if_neg (by omega)]]; exact l_v7_1 (d + 2) X Z n m hn hm t ht x
  · rw [show vErrs 2 n m x t = vGE 2 n m x t from if_pos rfl]; exact l_v15_2 (d + 1) X Z n m hn hm t ht x
  · rw [show vErrs 3 n m x t = vPE 3 n x t from by unfold vErrs; rw [if_neg (by omega), if_neg (by omega)]]; exact l_v7_3 (d + 2) X Z n m hn hm t ht x
  · rw [show vErrs 4 n m x t = vPE 4 n x t from by unfold vErrs; rw [if_neg (by omega), if_neg (by omega)]]; exact l_v7_4 (d + 2) X Z n m hn hm t ht x
  · exact l_v25 d X Z n m hn hm t ht x
  · rw [show vErrs 6 n m x t = vPE 6 n x t from by unfold vErrs; rw [if_neg (by omega), if_neg (by omega)]]; exact l_v7_6 (d + 2) X Z n m hn hm t ht x
set_option maxRecDepth 100000 in
set_option maxHeartbeats 4000000 in
theorem l_v8_0 (d : Nat) (X Z : Nat → Nat → Int32) (n m : Int32) (hn : X 51 2 = n) (hm : X 51 3 = m) (t : VT) (ht : t.1 ≤ 40) (x : Int32) : EC (d + 7) 8 [.ref 2, .ref 51, .int x] (Wd (XT X t) Z) (RI (vPU 0 n m x t).1 (XT X (vPU 0 n m x t).2)) := by
  refine er_enter (L := [(0, _), (1, _), (2, _)]) rfl rfl rfl ?_
  unfold vPU
  refine er_loc (pc' := 1) rfl rfl rfl ?_
  refine er_k (pc' := 3) (nI 13) rfl rfl rfl ?_
  refine er_cIv (pc' := 6) (rest := []) 10 rfl rfl rfl rfl rfl rfl (l_begins _ _ _ _ ht _) ?_
  intro Z7
  refine er_loc (pc' := 7) rfl rfl rfl ?_
  refine er_loc (pc' := 8) rfl rfl rfl ?_
  refine er_loc (pc' := 9) rfl rfl rfl ?_
  refine er_cIz (pc' := 12) (rest := []) 0 rfl rfl rfl rfl rfl rfl (l_vErrs _ 0 (by omega) _ _ n m hn hm _ (bg_le ht) _) ?_
  intro Z2
  refine er_loc (pc' := 13) rfl rfl rfl ?_
  refine er_loc (pc' := 14) rfl rfl rfl ?_
  refine er_loc (pc' := 15) rfl rfl rfl ?_
  refine er_cIz (pc' := 18) (rest := [_]) 0 rfl rfl rfl rfl rfl rfl (l_vLooks _ 0 (by omega) _ _ n m hn hm _ (vErrs_le (q := 0) (n := n) (m := m) (x := x) (bg_le ht)) _) ?_
  intro Z3
  refine er_ixor (pc' := 19) rfl rfl ?_
  refine er_iret rfl rfl ?_
  exact RI_of (by dsimp only) (by dsimp only)
set_option maxRecDepth 100000 in
set_option maxHeartbeats 4000000 in
theorem l_v8_1 (d : Nat) (X Z : Nat → Nat → Int32) (n m : Int32) (hn : X 51 2 = n) (hm : X 51 3 = m) (t : VT) (ht : t.1 ≤ 40) (x : Int32) : EC (d + 7) 8 [.ref 3, .ref 51, .int x] (Wd (XT X t) Z) (RI (vPU 1 n m x t).1 (XT X (vPU 1 n m x t).2)) := by
  refine er_enter (L := [(0, _), (1, _), (2, _)]) rfl rfl rfl ?_
  unfold vPU
  refine er_loc (pc' := 1) rfl rfl rfl ?_
  refine er_k (pc' := 3) (nI 13) rfl rfl rfl ?_
  refine er_cIv (pc' := 6) (rest := []) 10 rfl rfl rfl rfl rfl rfl (l_begins _ _ _ _ ht _) ?_
  intro Z7
  refine er_loc (pc' := 7) rfl rfl rfl ?_
  refine er_loc (pc' := 8) rfl rfl rfl ?_
  refine er_loc (pc' := 9) rfl rfl rfl ?_
  refine er_cIz (pc' := 12) (rest := []) 1 rfl rfl rfl rfl rfl rfl (l_vErrs _ 1 (by omega) _ _ n m hn hm _ (bg_le ht) _) ?_
  intro Z2
  refine er_loc (pc' := 13) rfl rfl rfl ?_
  refine er_loc (pc' := 14) rfl rfl rfl ?_
  refine er_loc (pc' := 15) rfl rfl rfl ?_
  refine er_cIz (pc' := 18) (rest := [_]) 1 rfl rfl rfl rfl rfl rfl (l_vLooks _ 1 (by omega) _ _ n m hn hm _ (vErrs_le (q := 1) (n := n) (m := m) (x := x) (bg_le ht)) _) ?_
  intro Z3
  refine er_ixor (pc' := 19) rfl rfl ?_
  refine er_iret rfl rfl ?_
  exact RI_of (by dsimp only) (by dsimp only)
set_option maxRecDepth 100000 in
set_option maxHeartbeats 4000000 in
theorem l_v8_2 (d : Nat) (X Z : Nat → Nat → Int32) (n m : Int32) (hn : X 51 2 = n) (hm : X 51 3 = m) (t : VT) (ht : t.1 ≤ 40) (x : Int32) : EC (d + 7) 8 [.ref 4, .ref 51, .int x] (Wd (XT X t) Z) (RI (vPU 2 n m x t).1 (XT X (vPU 2 n m x t).2)) := by
  refine er_enter (L := [(0, _), (1, _), (2, _)]) rfl rfl rfl ?_
  unfold vPU
  refine er_loc (pc' := 1) rfl rfl rfl ?_
  refine er_k (pc' := 3) (nI 13) rfl rfl rfl ?_
  refine er_cIv (pc' := 6) (rest := []) 10 rfl rfl rfl rfl rfl rfl (l_begins _ _ _ _ ht _) ?_
  intro Z7
  refine er_loc (pc' := 7) rfl rfl rfl ?_
  refine er_loc (pc' := 8) rfl rfl rfl ?_
  refine er_loc (pc' := 9) rfl rfl rfl ?_
  refine er_cIz (pc' := 12) (rest := []) 2 rfl rfl rfl rfl rfl rfl (l_vErrs _ 2 (by omega) _ _ n m hn hm _ (bg_le ht) _) ?_
  intro Z2
  refine er_loc (pc' := 13) rfl rfl rfl ?_
  refine er_loc (pc' := 14) rfl rfl rfl ?_
  refine er_loc (pc' := 15) rfl rfl rfl ?_
  refine er_cIz (pc' := 18) (rest := [_]) 2 rfl rfl rfl rfl rfl rfl (l_vLooks _ 2 (by omega) _ _ n m hn hm _ (vErrs_le (q := 2) (n := n) (m := m) (x := x) (bg_le ht)) _) ?_
  intro Z3
  refine er_ixor (pc' := 19) rfl rfl ?_
  refine er_iret rfl rfl ?_
  exact RI_of (by dsimp only) (by dsimp only)
set_option maxRecDepth 100000 in
set_option maxHeartbeats 4000000 in
theorem l_v8_3 (d : Nat) (X Z : Nat → Nat → Int32) (n m : Int32) (hn : X 51 2 = n) (hm : X 51 3 = m) (t : VT) (ht : t.1 ≤ 40) (x : Int32) : EC (d + 7) 8 [.ref 5, .ref 51, .int x] (Wd (XT X t) Z) (RI (vPU 3 n m x t).1 (XT X (vPU 3 n m x t).2)) := by
  refine er_enter (L := [(0, _), (1, _), (2, _)]) rfl rfl rfl ?_
  unfold vPU
  refine er_loc (pc' := 1) rfl rfl rfl ?_
  refine er_k (pc' := 3) (nI 13) rfl rfl rfl ?_
  refine er_cIv (pc' := 6) (rest := []) 10 rfl rfl rfl rfl rfl rfl (l_begins _ _ _ _ ht _) ?_
  intro Z7
  refine er_loc (pc' := 7) rfl rfl rfl ?_
  refine er_loc (pc' := 8) rfl rfl rfl ?_
  refine er_loc (pc' := 9) rfl rfl rfl ?_
  refine er_cIz (pc' := 12) (rest := []) 3 rfl rfl rfl rfl rfl rfl (l_vErrs _ 3 (by omega) _ _ n m hn hm _ (bg_le ht) _) ?_
  intro Z2
  refine er_loc (pc' := 13) rfl rfl rfl ?_
  refine er_loc (pc' := 14) rfl rfl rfl ?_
  refine er_loc (pc' := 15) rfl rfl rfl ?_
  refine er_cIz (pc' := 18) (rest := [_]) 3 rfl rfl rfl rfl rfl rfl (l_vLooks _ 3 (by omega) _ _ n m hn hm _ (vErrs_le (q := 3) (n := n) (m := m) (x := x) (bg_le ht)) _) ?_
  intro Z3
  refine er_ixor (pc' := 19) rfl rfl ?_
  refine er_iret rfl rfl ?_
  exact RI_of (by dsimp only) (by dsimp only)
set_option maxRecDepth 100000 in
set_option maxHeartbeats 4000000 in
theorem l_v8_4 (d : Nat) (X Z : Nat → Nat → Int32) (n m : Int32) (hn : X 51 2 = n) (hm : X 51 3 = m) (t : VT) (ht : t.1 ≤ 40) (x : Int32) : EC (d + 7) 8 [.ref 6, .ref 51, .int x] (Wd (XT X t) Z) (RI (vPU 4 n m x t).1 (XT X (vPU 4 n m x t).2)) := by
  refine er_enter (L := [(0, _), (1, _), (2, _)]) rfl rfl rfl ?_
  unfold vPU
  refine er_loc (pc' := 1) rfl rfl rfl ?_
  refine er_k (pc' := 3) (nI 13) rfl rfl rfl ?_
  refine er_cIv (pc' := 6) (rest := []) 10 rfl rfl rfl rfl rfl rfl (l_begins _ _ _ _ ht _) ?_
  intro Z7
  refine er_loc (pc' := 7) rfl rfl rfl ?_
  refine er_loc (pc' := 8) rfl rfl rfl ?_
  refine er_loc (pc' := 9) rfl rfl rfl ?_
  refine er_cIz (pc' := 12) (rest := []) 4 rfl rfl rfl rfl rfl rfl (l_vErrs _ 4 (by omega) _ _ n m hn hm _ (bg_le ht) _) ?_
  intro Z2
  refine er_loc (pc' := 13) rfl rfl rfl ?_
  refine er_loc (pc' := 14) rfl rfl rfl ?_
  refine er_loc (pc' := 15) rfl rfl rfl ?_
  refine er_cIz (pc' := 18) (rest := [_]) 4 rfl rfl rfl rfl rfl rfl (l_vLooks _ 4 (by omega) _ _ n m hn hm _ (vErrs_le (q := 4) (n := n) (m := m) (x := x) (bg_le ht)) _) ?_
  intro Z3
  refine er_ixor (pc' := 19) rfl rfl ?_
  refine er_iret rfl rfl ?_
  exact RI_of (by dsimp only) (by dsimp only)
set_option maxRecDepth 100000 in
set_option maxHeartbeats 4000000 in
theorem l_v8_5 (d : Nat) (X Z : Nat → Nat → Int32) (n m : Int32) (hn : X 51 2 = n) (hm : X 51 3 = m) (t : VT) (ht : t.1 ≤ 40) (x : Int32) : EC (d + 7) 8 [.ref 7, .ref 51, .int x] (Wd (XT X t) Z) (RI (vPU 5 n m x t).1 (XT X (vPU 5 n m x t).2)) := by
  refine er_enter (L := [(0, _), (1, _), (2, _)]) rfl rfl rfl ?_
  unfold vPU
  refine er_loc (pc' := 1) rfl rfl rfl ?_
  refine er_k (pc' := 3) (nI 13) rfl rfl rfl ?_
  refine er_cIv (pc' := 6) (rest := []) 10 rfl rfl rfl rfl rfl rfl (l_begins _ _ _ _ ht _) ?_
  intro Z7
  refine er_loc (pc' := 7) rfl rfl rfl ?_
  refine er_loc (pc' := 8) rfl rfl rfl ?_
  refine er_loc (pc' := 9) rfl rfl rfl ?_
  refine er_cIz (pc' := 12) (rest := []) 5 rfl rfl rfl rfl rfl rfl (l_vErrs _ 5 (by omega) _ _ n m hn hm _ (bg_le ht) _) ?_
  intro Z2
  refine er_loc (pc' := 13) rfl rfl rfl ?_
  refine er_loc (pc' := 14) rfl rfl rfl ?_
  refine er_loc (pc' := 15) rfl rfl rfl ?_
  refine er_cIz (pc' := 18) (rest := [_]) 5 rfl rfl rfl rfl rfl rfl (l_vLooks _ 5 (by omega) _ _ n m hn hm _ (vErrs_le (q := 5) (n := n) (m := m) (x := x) (bg_le ht)) _) ?_
  intro Z3
  refine er_ixor (pc' := 19) rfl rfl ?_
  refine er_iret rfl rfl ?_
  exact RI_of (by dsimp only) (by dsimp only)
set_option maxRecDepth 100000 in
set_option maxHeartbeats 4000000 in
theorem l_v8_6 (d : Nat) (X Z : Nat → Nat → Int32) (n m : Int32) (hn : X 51 2 = n) (hm : X 51 3 = m) (t : VT) (ht : t.1 ≤ 40) (x : Int32) : EC (d + 7) 8 [.ref 8, .ref 51, .int x] (Wd (XT X t) Z) (RI (vPU 6 n m x t).1 (XT X (vPU 6 n m x t).2)) := by
  refine er_enter (L := [(0, _), (1, _), (2, _)]) rfl rfl rfl ?_
  unfold vPU
  refine er_loc (pc' := 1) rfl rfl rfl ?_
  refine er_k (pc' := 3) (nI 13) rfl rfl rfl ?_
  refine er_cIv (pc' := 6) (rest := []) 10 rfl rfl rfl rfl rfl rfl (l_begins _ _ _ _ ht _) ?_
  intro Z7
  refine er_loc (pc' := 7) rfl rfl rfl ?_
  refine er_loc (pc' := 8) rfl rfl rfl ?_
  refine er_loc (pc' := 9) rfl rfl rfl ?_
  refine er_cIz (pc' := 12) (rest := []) 6 rfl rfl rfl rfl rfl rfl (l_vErrs _ 6 (by omega) _ _ n m hn hm _ (bg_le ht) _) ?_
  intro Z2
  refine er_loc (pc' := 13) rfl rfl rfl ?_
  refine er_loc (pc' := 14) rfl rfl rfl ?_
  refine er_loc (pc' := 15) rfl rfl rfl ?_
  refine er_cIz (pc' := 18) (rest := [_]) 6 rfl rfl rfl rfl rfl rfl (l_vLooks _ 6 (by omega) _ _ n m hn hm _ (vErrs_le (q := 6) (n := n) (m := m) (x := x) (bg_le ht)) _) ?_
  intro Z3
  refine er_ixor (pc' := 19) rfl rfl ?_
  refine er_iret rfl rfl ?_
  exact RI_of (by dsimp only) (by dsimp only)
set_option maxRecDepth 100000 in
set_option maxHeartbeats 4000000 in
theorem l_v22 (d : Nat) (X Z : Nat → Nat → Int32) (n m : Int32) (hn : X 51 2 = n) (hm : X 51 3 = m) (t : VT) (ht : t.1 ≤ 40) (x : Int32) : EC (d + 8) 22 [.ref 6, .ref 51, .int x] (Wd (XT X t) Z) (RI (vUndoes 4 n m x t).1 (XT X (vUndoes 4 n m x t).2)) := by
  refine er_enter (L := [(0, _), (1, _), (2, _)]) rfl rfl rfl ?_
  unfold vUndoes
  rw [if_pos rfl]
  refine er_loc (pc' := 1) rfl rfl rfl ?_
  refine er_k (pc' := 3) (nI 50) rfl rfl rfl ?_
  refine er_cIv (pc' := 6) (rest := []) 10 rfl rfl rfl rfl rfl rfl (l_begins _ _ _ _ ht _) ?_
  intro Z7
  refine er_loc (pc' := 7) rfl rfl rfl ?_
  refine er_loc (pc' := 8) rfl rfl rfl ?_
  refine er_loc (pc' := 9) rfl rfl rfl ?_
  refine er_cIz (pc' := 12) (rest := []) 4 rfl rfl rfl rfl rfl rfl (l_v8_4 _ _ _ n m hn hm _ (bg_le ht) _) ?_
  intro Z2
  refine er_loc (pc' := 13) rfl rfl rfl ?_
  refine er_loc (pc' := 14) rfl rfl rfl ?_
  refine er_k (pc' := 15) (nI 2) rfl rfl rfl ?_
  refine er_cIz (pc' := 18) (rest := [_]) 4 rfl rfl rfl rfl rfl rfl (l_vFits _ 4 (by omega) _ _ n m hn hm _ (vPU_le (q := 4) (n := n) (m := m) (x := x) (bg_le ht)) _) ?_
  intro Z3
  refine er_isub (pc' := 19) rfl rfl ?_
  refine er_iret rfl rfl ?_
  exact RI_of (by dsimp only) (by dsimp only)
set_option maxRecDepth 100000 in
set_option maxHeartbeats 4000000 in
theorem l_v30 (d : Nat) (X Z : Nat → Nat → Int32) (n m : Int32) (hn : X 51 2 = n) (hm : X 51 3 = m) (t : VT) (ht : t.1 ≤ 40) (x : Int32) : EC (d + 8) 30 [.ref 8, .ref 51, .int x] (Wd (XT X t) Z) (RI (vUndoes 6 n m x t).1 (XT X (vUndoes 6 n m x t).2)) := by
  refine er_enter (L := [(0, _), (1, _), (2, _)]) rfl rfl rfl ?_
  unfold vUndoes
  rw [if_neg (by omega), if_pos rfl]
  refine er_loc (pc' := 1) rfl rfl rfl ?_
  refine er_k (pc' := 3) (nI 71) rfl rfl rfl ?_
  refine er_cIv (pc' := 6) (rest := []) 10 rfl rfl rfl rfl rfl rfl (l_begins _ _ _ _ ht _) ?_
  intro Z7
  refine er_loc (pc' := 7) rfl rfl rfl ?_
  refine er_loc (pc' := 8) rfl rfl rfl ?_
  refine er_loc (pc' := 9) rfl rfl rfl ?_
  refine er_cIz (pc' := 12) (rest := []) 6 rfl rfl rfl rfl rfl rfl (l_vErrs _ 6 (by omega) _ _ n m hn hm _ (bg_le ht) _) ?_
  intro Z2
  refine er_loc (pc' := 13) rfl rfl rfl ?_
  refine er_loc (pc' := 14) rfl rfl rfl ?_
  refine er_loc (pc' := 15) rfl rfl rfl ?_
  refine er_cIz (pc' := 18) (rest := [_]) 6 rfl rfl rfl rfl rfl rfl (l_v8_6 _ _ _ n m hn hm _ (vErrs_le (q := 6) (n := n) (m := m) (x := x) (bg_le ht)) _) ?_
  intro Z3
  refine er_isub (pc' := 19) rfl rfl ?_
  refine er_iret rfl rfl ?_
  exact RI_of (by dsimp only) (by dsimp only)
def tgU (q : Nat) : Nat := if q = 4 then 22 else if q = 6 then 30 else 8
theorem l_vUndoes (d q : Nat) (hq : q < 7) (X Z : Nat → Nat → Int32) (n m : Int32) (hn : X 51 2 = n) (hm : X 51 3 = m) (t : VT) (ht : t.1 ≤ 40) (x : Int32) : EC (d + 8) (tgU q) [.ref (2 + q), .ref 51, .int x] (Wd (XT X t) Z) (RI (vUndoes q n m x t).1 (XT X (vUndoes q n m x t).2)) := by
  rcases lt7 hq with rfl | rfl | rfl | rfl | rfl | rfl | rfl
  · rw [show vUndoes 0 n m x t = vPU 0 n m x t from by unfold vUndoes; rw [if_neg (by omega), if_neg (by omega)]]; exact l_v8_0 (d + 1) X Z n m hn hm t ht x
  · rw [show vUndoes 1 n m x t = vPU 1 n m x t from by unfold vUndoes; rw [if_neg (by omega), if_neg (by omega)]]; exact l_v8_1 (d + 1) X Z n m hn hm t ht x
  · rw [show vUndoes 2 n m x t = vPU 2 n m x t from by unfold vUndoes; rw [if_neg (by omega), if_neg (by omega)]]; exact l_v8_2 (d + 1) X Z n m hn hm t ht x
  · rw [show vUndoes 3 n m x t = vPU 3 n m x t from by unfold vUndoes; rw [if_neg (by omega), if_neg (by omega)]]; exact l_v8_3 (d + 1) X Z n m hn hm t ht x
  · exact l_v22 d X Z n m hn hm t ht x
  · rw [show vUndoes 5 n m x t = vPU 5 n m x t from by unfold vUndoes; rw [if_neg (by omega), if_neg (by omega)]]; exact l_v8_5 (d + 1) X Z n m hn hm t ht x
  · exact l_v30 d X Z n m hn hm t ht x
def xStart (X : Nat → Nat → Int32) (n m : Int32) : Nat → Nat → Int32 := ud (ud (ud X 51 1 (nI 0)) 51 2 n) 51 3 m
theorem XT_id {X : Nat → Nat → Int32} {g : Nat} (h : X 51 1 = nI g) : XT X (g, X 52) = X := by
  unfold XT
  rw [uc_id, ← h, ud_id]
theorem XT_start {X : Nat → Nat → Int32} {n m : Int32} : XT (xStart X n m) (0, X 52) = xStart X n m := by
  have e : X 52 = xStart X n m 52 := by
    unfold xStart
    rw [ud_ne (by omega), ud_ne (by omega), ud_ne (by omega)]
  rw [e]
  exact XT_id rfl
def sVoice (q k : Nat) (m w x : Int32) (t : VT) : Int32 × VT := if w = 0 then vFits q (nI k) x t else if w = 1 then vErrs q (nI k) m x t else if w = 2 then vLooks q (nI k) m x t else vUndoes q (nI k) m x t
set_option maxRecDepth 100000 in
set_option maxHeartbeats 4000000 in
theorem l_start (d : Nat) (X Z : Nat → Nat → Int32) (n m : Int32) : EC (d + 1) 71 [.ref 51, .int n, .int m] (Wd X Z) (RV (xStart X n m)) := by
  refine er_enter (L := [(0, _), (1, _), (2, _)]) rfl rfl rfl ?_
  refine er_loc (pc' := 1) rfl rfl rfl ?_
  refine er_k (pc' := 2) (nI 0) rfl rfl rfl ?_
  refine er_pfIX (pc' := 5) 1 rfl rfl rfl rfl rfl rfl ?_
  refine er_loc (pc' := 6) rfl rfl rfl ?_
  refine er_loc (pc' := 7) rfl rfl rfl ?_
  refine er_pfIX (pc' := 10) 2 rfl rfl rfl rfl rfl rfl ?_
  refine er_loc (pc' := 11) rfl rfl rfl ?_
  refine er_loc (pc' := 12) rfl rfl rfl ?_
  refine er_pfIX (pc' := 15) 3 rfl rfl rfl rfl rfl rfl ?_
  refine er_vret rfl rfl ?_
  exact RV_of rfl
set_option maxRecDepth 100000 in
set_option maxHeartbeats 4000000 in
theorem l_voice (d : Nat) (X Z : Nat → Nat → Int32) {T : Nat} (hI : IJ T (jx X 9)) {k : Nat} (hk : k < jn (jx X 9)) (w x : Int32) : EC (d + 9) 110 [.ref 0, .int (nI k), .int w, .int x] (Wd X Z) (fun r => if sIn w (nI 0) (nI 3) = true then RI (sVoice (sKind (jx X 9) k) k (jx X 9 2 k) w x (0, X 52)).1 (XT (xStart X (nI k) (jx X 9 2 k)) (sVoice (sKind (jx X 9) k) k (jx X 9 2 k) w x (0, X 52)).2) r else RI (sErr 1) (xErr X 1) r) := by
  refine er_enter (L := [(0, _), (1, _), (2, _), (3, _)]) rfl rfl rfl ?_
  have h8 := jn8 hI
  have hk8 : k < 8 := by omega
  have hq := kind7 hI k
  refine er_loc (pc' := 1) rfl rfl rfl ?_
  refine er_gf (pc' := 4) (_) rfl rfl rfl rfl rfl ?_
  refine er_loc (pc' := 5) rfl rfl rfl ?_
  refine er_cIi (pc' := 8) (rest := []) 7 rfl rfl rfl rfl rfl rfl (l_has_t _ j9 _ _ hI hk) ?_
  refine er_if_eqF (pc' := 11) rfl (by decide +kernel) rfl ?_
  refine er_loc (pc' := 12) rfl rfl rfl ?_
  refine er_k (pc' := 13) (nI 0) rfl rfl rfl ?_
  refine er_k (pc' := 14) (nI 3) rfl rfl rfl ?_
  refine er_cSi (pc' := 17) (rest := []) rfl rfl rfl (l_within _ _ _ _ _) ?_
  refine er_if_neb (pc' := 20) rfl rfl (fun h17 => ?_) (fun h17 => ?_)
  · refine er_loc (pc' := 27) rfl rfl rfl ?_
    refine er_gf (pc' := 30) (_) rfl rfl rfl rfl rfl ?_
    refine er_loc (pc' := 31) rfl rfl rfl ?_
    refine er_loc (pc' := 32) rfl rfl rfl ?_
    refine er_gf (pc' := 35) (_) rfl rfl rfl rfl rfl ?_
    refine er_gf (pc' := 38) (_) rfl rfl rfl rfl rfl ?_
    refine er_loc (pc' := 39) rfl rfl rfl ?_
    refine er_ia (pc' := 40) (k) rfl rfl rfl rfl hk8 rfl rfl ?_
    refine er_cIv (pc' := 43) (rest := []) 10 rfl rfl rfl rfl rfl rfl (l_start _ _ _ _ _) ?_
    intro Z6
    have hjS : jx (xStart X (nI k) (X 11 k)) 9 = jx X 9 := jx_off (fun c _ hc => by unfold xStart; rw [ud_ne (by omega), ud_ne (by omega), ud_ne (by omega)])
    refine er_loc (pc' := 44) rfl rfl rfl ?_
    refine er_gf (pc' := 47) (_) rfl rfl rfl rfl rfl ?_
    refine er_loc (pc' := 48) rfl rfl rfl ?_
    refine er_cIr (pc' := 51) (rest := []) 7 rfl rfl rfl rfl rfl rfl (l_kindOf _ j9 _ _ (by rw [hjS]; exact hI) (by rw [hjS]; exact hk)) ?_
    rw [hjS, ← XT_start]
    refine er_loc (pc' := 53) (L' := [(4, _), (0, _), (1, _), (2, _), (3, _)]) rfl rfl rfl ?_
    refine er_loc (pc' := 54) rfl rfl rfl ?_
    refine er_sw (0) rfl rfl (fun s54_0 => ?_) (fun s54_0 => ?_)
    · refine er_loc (pc' := 82) rfl rfl rfl ?_
      refine er_loc (pc' := 83) rfl rfl rfl ?_
      refine er_gf (pc' := 86) (_) rfl rfl rfl rfl rfl ?_
      refine er_loc (pc' := 87) rfl rfl rfl ?_
      refine er_cIz (pc' := 90) (rest := []) (sKind (jx X 9) k) rfl rfl (by rcases lt7 hq with e | e | e | e | e | e | e <;> rw [e] <;> rfl) (blt_S hq) (cO_S hq _ _) rfl (l_vFits _ (sKind (jx X 9) k) hq _ _ (nI k) (X 11 k) rfl rfl (0, X 52) (by omega) _) ?_
      intro Z3
      refine er_iret rfl rfl ?_
      rw [if_pos h17]
      have e : sVoice (sKind (jx X 9) k) k (jx X 9 2 k) w x (0, X 52) = vFits (sKind (jx X 9) k) (nI k) x (0, X 52) := by
        unfold sVoice
        rw [jx2 hk8]
        rw [if_pos s54_0]
      rw [e, jx2 hk8]
      exact RI_of rfl rfl
    refine er_sw (1) rfl rfl (fun s54_1 => ?_) (fun s54_1 => ?_)
    · refine er_loc (pc' := 93) rfl rfl rfl ?_
      refine er_loc (pc' := 94) rfl rfl rfl ?_
      refine er_gf (pc' := 97) (_) rfl rfl rfl rfl rfl ?_
      refine er_loc (pc' := 98) rfl rfl rfl ?_
      refine er_cIz (pc' := 101) (rest := []) (sKind (jx X 9) k) rfl rfl (by rcases lt7 hq with e | e | e | e | e | e | e <;> rw [e] <;> rfl) (blt_S hq) (cO_S hq _ _) rfl (l_vErrs _ (sKind (jx X 9) k) hq _ _ (nI k) (X 11 k) rfl rfl (0, X 52) (by omega) _) ?_
      intro Z3
      refine er_iret rfl rfl ?_
      rw [if_pos h17]
      have e : sVoice (sKind (jx X 9) k) k (jx X 9 2 k) w x (0, X 52) = vErrs (sKind (jx X 9) k) (nI k) (X 11 k) x (0, X 52) := by
        unfold sVoice
        rw [jx2 hk8]
        rw [if_neg s54_0, if_pos s54_1]
      rw [e, jx2 hk8]
      exact RI_of rfl rfl
    refine er_sw (2) rfl rfl (fun s54_2 => ?_) (fun s54_2 => ?_)
    · refine er_loc (pc' := 104) rfl rfl rfl ?_
      refine er_loc (pc' := 105) rfl rfl rfl ?_
      refine er_gf (pc' := 108) (_) rfl rfl rfl rfl rfl ?_
      refine er_loc (pc' := 109) rfl rfl rfl ?_
      refine er_cIz (pc' := 112) (rest := []) (sKind (jx X 9) k) rfl rfl (by rcases lt7 hq with e | e | e | e | e | e | e <;> rw [e] <;> rfl) (blt_S hq) (cO_S hq _ _) rfl (l_vLooks _ (sKind (jx X 9) k) hq _ _ (nI k) (X 11 k) rfl rfl (0, X 52) (by omega) _) ?_
      intro Z3
      refine er_iret rfl rfl ?_
      rw [if_pos h17]
      have e : sVoice (sKind (jx X 9) k) k (jx X 9 2 k) w x (0, X 52) = vLooks (sKind (jx X 9) k) (nI k) (X 11 k) x (0, X 52) := by
        unfold sVoice
        rw [jx2 hk8]
        rw [if_neg s54_0, if_neg s54_1, if_pos s54_2]
      rw [e, jx2 hk8]
      exact RI_of rfl rfl
    refine er_tsD [0, 1, 2] rfl rfl rfl rfl (List.forall_mem_cons.mpr ⟨ne_toInt s54_0 rfl, List.forall_mem_cons.mpr ⟨ne_toInt s54_1 rfl, List.forall_mem_cons.mpr ⟨ne_toInt s54_2 rfl, fun _ h => absurd h List.not_mem_nil⟩⟩⟩) ?_
    refine er_loc (pc' := 115) rfl rfl rfl ?_
    refine er_loc (pc' := 116) rfl rfl rfl ?_
    refine er_gf (pc' := 119) (_) rfl rfl rfl rfl rfl ?_
    refine er_loc (pc' := 120) rfl rfl rfl ?_
    refine er_cIz (pc' := 123) (rest := []) (sKind (jx X 9) k) rfl rfl (by rcases lt7 hq with e | e | e | e | e | e | e <;> rw [e] <;> rfl) (blt_S hq) (cO_S hq _ _) rfl (l_vUndoes _ (sKind (jx X 9) k) hq _ _ (nI k) (X 11 k) rfl rfl (0, X 52) (by omega) _) ?_
    intro Z3
    refine er_iret rfl rfl ?_
    rw [if_pos h17]
    have e : sVoice (sKind (jx X 9) k) k (jx X 9 2 k) w x (0, X 52) = vUndoes (sKind (jx X 9) k) (nI k) (X 11 k) x (0, X 52) := by
      unfold sVoice
      rw [jx2 hk8]
      rw [if_neg s54_0, if_neg s54_1, if_neg s54_2]
    rw [e, jx2 hk8]
    exact RI_of rfl rfl
  · refine er_loc (pc' := 21) rfl rfl rfl ?_
    refine er_k (pc' := 22) (nI 1) rfl rfl rfl ?_
    refine er_cIz (pc' := 25) (rest := []) 11 rfl rfl rfl rfl rfl rfl (l_error _ _ _ 1 (by decide)) ?_
    intro Z9
    refine er_iret rfl rfl ?_
    rw [if_neg (by rw [h17]; decide)]
    exact RI_of rfl rfl
