/-! THE REFERENCE reads: text -/
theorem jm_text0 {R R' : Nat → Int32} {s : Nat × (Nat → Int32)} {y : YS} (hs : s.1 ≤ 50) (hn : nN (R 2) ≤ 8) (hl : nN (R 125) ≤ 50) (hca : CA s y) (h1 : ∀ q, q < 125 → R' q = R q) (h2 : R' 125 = nI s.1) (h3 : ∀ k, k < s.1 → R' (126 + k) = y.2.1 k ∧ R' (176 + k) = y.2.2 k) (h4 : ∀ q, 226 ≤ q → R' q = R q) : jm R' = jTx0 (jm R) s := by
  have e2 : R' 2 = R 2 := h1 2 (by omega)
  have e6 : rB R' 11 (nN (R' 2)) = rB R 11 (nN (R 2)) := by rw [e2]; exact rB_cong (fun i hi => h1 _ (by omega))
  have e7 : rB R' 12 (nN (R' 2)) = rB R 12 (nN (R 2)) := by rw [e2]; exact rB_cong (fun i hi => h1 _ (by omega))
  funext i j
  match i with
  | 0 =>
    show jm R' 0 j = jm R 0 j
    match j with
    | 0 => exact (show jm R' 0 0 = 0 from rfl).trans (show 0 = jm R 0 0 from rfl)
    | 1 => exact h1 2 (by omega)
    | 2 => exact (show jm R' 0 2 = 0 from rfl).trans (show 0 = jm R 0 2 from rfl)
    | 3 => exact (show jm R' 0 3 = 0 from rfl).trans (show 0 = jm R 0 3 from rfl)
    | 4 => exact (show jm R' 0 4 = 0 from rfl).trans (show 0 = jm R 0 4 from rfl)
    | 5 => exact (show jm R' 0 5 = 0 from rfl).trans (show 0 = jm R 0 5 from rfl)
    | 6 => exact e6
    | 7 => exact e7
    | 8 => exact h1 3 (by omega)
    | 9 => exact h1 4 (by omega)
    | 10 => exact h1 0 (by omega)
    | 11 => exact (show jm R' 0 11 = 0 from rfl).trans (show 0 = jm R 0 11 from rfl)
    | 12 => exact (show jm R' 0 12 = 0 from rfl).trans (show 0 = jm R 0 12 from rfl)
    | 13 => exact (show jm R' 0 13 = 0 from rfl).trans (show 0 = jm R 0 13 from rfl)
    | 14 => exact h1 5 (by omega)
    | 15 => exact (show jm R' 0 15 = 0 from rfl).trans (show 0 = jm R 0 15 from rfl)
    | 16 => exact h1 6 (by omega)
    | 17 => exact h1 1 (by omega)
    | j + 18 => exact (show jm R' 0 (j + 18) = 0 from rfl).trans (show 0 = jm R 0 (j + 18) from rfl)
  | 1 =>
    show (if j < 8 then R' (7 + 6 * j) else 0) = (if j < 8 then R (7 + 6 * j) else 0)
    split
    · exact h1 _ (by omega)
    · rfl
  | 2 =>
    show (if j < 8 then R' (8 + 6 * j) else 0) = (if j < 8 then R (8 + 6 * j) else 0)
    split
    · exact h1 _ (by omega)
    · rfl
  | 3 =>
    show (if j < 8 then R' (9 + 6 * j) else 0) = (if j < 8 then R (9 + 6 * j) else 0)
    split
    · exact h1 _ (by omega)
    · rfl
  | 4 =>
    show (if j < 8 then R' (10 + 6 * j) else 0) = (if j < 8 then R (10 + 6 * j) else 0)
    split
    · exact h1 _ (by omega)
    · rfl
  | 9 =>
    show (if j < 50 then R' (55 + j) else 0) = (if j < 50 then R (55 + j) else 0)
    split
    · exact h1 _ (by omega)
    · rfl
  | 10 =>
    show (if j < 20 then R' (105 + j) else 0) = (if j < 20 then R (105 + j) else 0)
    split
    · exact h1 _ (by omega)
    · rfl
  | 5 =>
    show (if j = 0 then R' 125 else 0) = (if j = 0 then nI s.1 else 0)
    rw [h2]
  | 7 =>
    show (if j = 0 then R' 226 else 0) = (if j = 0 then R 226 else 0)
    rw [h4 226 (by omega)]
  | 6 =>
    show (if j < nN (R' 125) then cM (R' (126 + j)) (R' (176 + j)) else 0) = (if j < s.1 then s.2 j else 0)
    rw [h2, nN_nI (by omega)]
    by_cases hj : j < s.1
    · rw [if_pos hj, if_pos hj, (h3 j hj).1, (h3 j hj).2]
      exact (hca.2 j hj).1.symm
    · rw [if_neg hj, if_neg hj]
  | 8 =>
    show (if j < nN (R' 226) then cM (R' (227 + j)) (R' (277 + j)) else 0) = (if j < nN (R 226) then cM (R (227 + j)) (R (277 + j)) else 0)
    rw [h4 226 (by omega), h4 (227 + j) (by omega), h4 (277 + j) (by omega)]
  | i + 11 =>
    exact (show jm R' (i + 11) j = 0 from rfl).trans (show 0 = jm R (i + 11) j from rfl)
theorem jm_text1 {R R' : Nat → Int32} {s : Nat × (Nat → Int32)} {y : YS} (hs : s.1 ≤ 50) (hn : nN (R 2) ≤ 8) (hl : nN (R 125) ≤ 50) (hca : CA s y) (h1 : ∀ q, q < 226 → R' q = R q) (h2 : R' 226 = nI s.1) (h3 : ∀ k, k < s.1 → R' (227 + k) = y.2.1 k ∧ R' (277 + k) = y.2.2 k) : jm R' = jTx1 (jm R) s := by
  have e2 : R' 2 = R 2 := h1 2 (by omega)
  have e6 : rB R' 11 (nN (R' 2)) = rB R 11 (nN (R 2)) := by rw [e2]; exact rB_cong (fun i hi => h1 _ (by omega))
  have e7 : rB R' 12 (nN (R' 2)) = rB R 12 (nN (R 2)) := by rw [e2]; exact rB_cong (fun i hi => h1 _ (by omega))
  funext i j
  match i with
  | 0 =>
    show jm R' 0 j = jm R 0 j
    match j with
    | 0 => exact (show jm R' 0 0 = 0 from rfl).trans (show 0 = jm R 0 0 from rfl)
    | 1 => exact h1 2 (by omega)
    | 2 => exact (show jm R' 0 2 = 0 from rfl).trans (show 0 = jm R 0 2 from rfl)
    | 3 => exact (show jm R' 0 3 = 0 from rfl).trans (show 0 = jm R 0 3 from rfl)
    | 4 => exact (show jm R' 0 4 = 0 from rfl).trans (show 0 = jm R 0 4 from rfl)
    | 5 => exact (show jm R' 0 5 = 0 from rfl).trans (show 0 = jm R 0 5 from rfl)
    | 6 => exact e6
    | 7 => exact e7
    | 8 => exact h1 3 (by omega)
    | 9 => exact h1 4 (by omega)
    | 10 => exact h1 0 (by omega)
    | 11 => exact (show jm R' 0 11 = 0 from rfl).trans (show 0 = jm R 0 11 from rfl)
    | 12 => exact (show jm R' 0 12 = 0 from rfl).trans (show 0 = jm R 0 12 from rfl)
    | 13 => exact (show jm R' 0 13 = 0 from rfl).trans (show 0 = jm R 0 13 from rfl)
    | 14 => exact h1 5 (by omega)
    | 15 => exact (show jm R' 0 15 = 0 from rfl).trans (show 0 = jm R 0 15 from rfl)
    | 16 => exact h1 6 (by omega)
    | 17 => exact h1 1 (by omega)
    | j + 18 => exact (show jm R' 0 (j + 18) = 0 from rfl).trans (show 0 = jm R 0 (j + 18) from rfl)
  | 1 =>
    show (if j < 8 then R' (7 + 6 * j) else 0) = (if j < 8 then R (7 + 6 * j) else 0)
    split
    · exact h1 _ (by omega)
    · rfl
  | 2 =>
    show (if j < 8 then R' (8 + 6 * j) else 0) = (if j < 8 then R (8 + 6 * j) else 0)
    split
    · exact h1 _ (by omega)
    · rfl
  | 3 =>
    show (if j < 8 then R' (9 + 6 * j) else 0) = (if j < 8 then R (9 + 6 * j) else 0)
    split
    · exact h1 _ (by omega)
    · rfl
  | 4 =>
    show (if j < 8 then R' (10 + 6 * j) else 0) = (if j < 8 then R (10 + 6 * j) else 0)
    split
    · exact h1 _ (by omega)
    · rfl
  | 9 =>
    show (if j < 50 then R' (55 + j) else 0) = (if j < 50 then R (55 + j) else 0)
    split
    · exact h1 _ (by omega)
    · rfl
  | 10 =>
    show (if j < 20 then R' (105 + j) else 0) = (if j < 20 then R (105 + j) else 0)
    split
    · exact h1 _ (by omega)
    · rfl
  | 5 =>
    show (if j = 0 then R' 125 else 0) = (if j = 0 then R 125 else 0)
    rw [h1 125 (by omega)]
  | 7 =>
    show (if j = 0 then R' 226 else 0) = (if j = 0 then nI s.1 else 0)
    rw [h2]
  | 6 =>
    show (if j < nN (R' 125) then cM (R' (126 + j)) (R' (176 + j)) else 0) = (if j < nN (R 125) then cM (R (126 + j)) (R (176 + j)) else 0)
    rw [h1 125 (by omega)]
    by_cases hj : j < nN (R 125)
    · rw [if_pos hj, if_pos hj, h1 (126 + j) (by omega), h1 (176 + j) (by omega)]
    · rw [if_neg hj, if_neg hj]
  | 8 =>
    show (if j < nN (R' 226) then cM (R' (227 + j)) (R' (277 + j)) else 0) = (if j < s.1 then s.2 j else 0)
    rw [h2, nN_nI (by omega)]
    by_cases hj : j < s.1
    · rw [if_pos hj, if_pos hj, (h3 j hj).1, (h3 j hj).2]
      exact (hca.2 j hj).1.symm
    · rw [if_neg hj, if_neg hj]
  | i + 11 =>
    exact (show jm R' (i + 11) j = 0 from rfl).trans (show 0 = jm R (i + 11) j from rfl)
theorem RK.text0 {T : Nat} {R R' : Nat → Int32} {s : Nat × (Nat → Int32)} {y : YS} (h : RK T R) (hs : s.1 ≤ 50) (hw : wfC s.2 s.1) (hca : CA s y) (h1 : ∀ q, q < 125 → R' q = R q) (h2 : R' 125 = nI s.1) (h3 : ∀ k, k < s.1 → R' (126 + k) = y.2.1 k ∧ R' (176 + k) = y.2.2 k) (h4 : ∀ q, 226 ≤ q → R' q = R q) : RK T R' := by
  refine ⟨?_, fun i hi => ?_, fun k hk => ?_, fun k hk => ?_⟩
  · rw [jm_text0 hs h.n8 h.ij.tl.1.2 hca h1 h2 h3 h4]
    exact h.ij.text0 hs hw
  · rw [h1 _ (by omega), h1 _ (by omega)]
    exact h.2.1 i hi
  · rw [h2, nN_nI (by omega)] at hk
    have e := h3 k hk
    rw [show 125 + 1 + k = 126 + k by omega, show 125 + 51 + k = 176 + k by omega, e.1, e.2]
    exact (hca.2 k hk).2
  · rw [h4 _ (by omega)] at hk
    rw [h4 _ (by omega), h4 _ (by omega)]
    exact h.2.2.2 k hk
theorem RK.text1 {T : Nat} {R R' : Nat → Int32} {s : Nat × (Nat → Int32)} {y : YS} (h : RK T R) (hs : s.1 ≤ 50) (hw : wfC s.2 s.1) (hca : CA s y) (h1 : ∀ q, q < 226 → R' q = R q) (h2 : R' 226 = nI s.1) (h3 : ∀ k, k < s.1 → R' (227 + k) = y.2.1 k ∧ R' (277 + k) = y.2.2 k) : RK T R' := by
  have h50 : nN (R 125) ≤ 50 := h.ij.tl.1.2
  refine ⟨?_, fun i hi => ?_, fun k hk => ?_, fun k hk => ?_⟩
  · rw [jm_text1 hs h.n8 h50 hca h1 h2 h3]
    exact h.ij.text1 hs hw
  · rw [h1 _ (by omega), h1 _ (by omega)]
    exact h.2.1 i hi
  · rw [h1 _ (by omega)] at hk
    rw [h1 _ (by omega), h1 _ (by omega)]
    exact h.2.2.1 k hk
  · rw [h2, nN_nI (by omega)] at hk
    have e := h3 k hk
    rw [show 226 + 1 + k = 227 + k by omega, show 226 + 51 + k = 277 + k by omega, e.1, e.2]
    exact (hca.2 k hk).2
def yTx (R : Nat → Int32) (p : Nat) (B W : Nat → Int32) (i : Nat) : Nat → Int32 := fun q => if p + 1 ≤ q ∧ q < p + 1 + i then B (q - (p + 1)) else if p + 51 ≤ q ∧ q < p + 51 + i then W (q - (p + 51)) else R q
theorem yTx_at {R B W : Nat → Int32} {p i q : Nat} : yTx R p B W i q = if p + 1 ≤ q ∧ q < p + 1 + i then B (q - (p + 1)) else if p + 51 ≤ q ∧ q < p + 51 + i then W (q - (p + 51)) else R q := rfl
theorem yTx_0 {R B W : Nat → Int32} {p : Nat} : yTx R p B W 0 = R := by
  funext q
  rw [yTx_at, if_neg (by omega), if_neg (by omega)]
theorem yTx_s {R B W : Nat → Int32} {p i : Nat} (h : i < 50) : u1 (u1 (yTx R p B W i) (p + 1 + i) (B i)) (p + 51 + i) (W i) = yTx R p B W (i + 1) := by
  funext q
  rw [u1_at, u1_at, yTx_at, yTx_at]
  by_cases h1 : q = p + 51 + i
  · rw [if_pos h1, if_neg (by omega), if_pos ⟨by omega, by omega⟩, show q - (p + 51) = i by omega]
  · rw [if_neg h1]
    by_cases h2 : q = p + 1 + i
    · rw [if_pos h2, if_pos ⟨by omega, by omega⟩, show q - (p + 1) = i by omega]
    · rw [if_neg h2]
      by_cases h3 : p + 1 ≤ q ∧ q < p + 1 + i
      · rw [if_pos h3, if_pos ⟨h3.1, by omega⟩]
      · rw [if_neg h3, if_neg (show ¬ (p + 1 ≤ q ∧ q < p + 1 + (i + 1)) from fun hh => h3 ⟨hh.1, by omega⟩)]
        by_cases h4 : p + 51 ≤ q ∧ q < p + 51 + i
        · rw [if_pos h4, if_pos ⟨h4.1, by omega⟩]
        · rw [if_neg h4, if_neg (show ¬ (p + 51 ≤ q ∧ q < p + 51 + (i + 1)) from fun hh => h4 ⟨hh.1, by omega⟩)]
theorem QZ_68 {Z : Nat → Nat → Int32} {u op p : Nat} {bad : Bool} {y : YS} : QZ Z u op bad p y 68 = y.2.1 := by
  unfold QZ
  rw [uc_ne (by omega), uc_same]
theorem QZ_69 {Z : Nat → Nat → Int32} {u op p : Nat} {bad : Bool} {y : YS} : QZ Z u op bad p y 69 = y.2.2 := by
  unfold QZ
  rw [uc_same]
theorem Wd_Z63 {X Z Z' : Nat → Nat → Int32} (h : ∀ c, c ≠ 63 → Z c = Z' c) (h9 : Z 63 9 = Z' 63 9) (h10 : Z 63 10 = Z' 63 10) (h11 : Z 63 11 = Z' 63 11) (h12 : Z 63 12 = Z' 63 12) (h13 : Z 63 13 = Z' 63 13) : Wd X Z = Wd X Z' := by
  unfold Wd
  apply List.map_congr_left
  intro c _
  by_cases hc : c = 63
  · subst hc
    show (.inl (12, [.ref 64, .ref 65, .ref 66, .int (X 63 3), .ref 67, .ref 68, .ref 69, .ref 70, .ref 71, .int (Z 63 9), .int (Z 63 10), .int (Z 63 11), .int (Z 63 12), .int (Z 63 13), .ref 72, .ref 73, .int (X 63 16), .ref 74, .int (X 63 18), .int (X 63 19), .ref 75, .int (X 63 21), .ref 76, .ref 77, .ref 78]) : ab_C) = _
    rw [h9, h10, h11, h12, h13]
    rfl
  · rw [h c hc]
theorem Wd_start {X Z : Nat → Nat → Int32} {u : Nat} : Wd X (ud (ud (ud (ud (ud Z 63 13 (nI u)) 63 9 (nI 0)) 63 10 (nI 0)) 63 11 (nI 0)) 63 12 (nI 0)) = Wd X (QZ Z u 0 false 0 (0, Z 68, Z 69)) := by
  refine Wd_Z63 (fun c hc => ?_) ?_ ?_ ?_ ?_ ?_
  · rw [ud_ne hc, ud_ne hc, ud_ne hc, ud_ne hc, ud_ne hc]
    unfold QZ
    by_cases h9 : c = 69
    · subst h9; rw [uc_same]
    · rw [uc_ne h9]
      by_cases h8 : c = 68
      · subst h8; rw [uc_same]
      · rw [uc_ne h8, uc_ne hc]
  · rw [QZ_63]; simp [ud_at, yzf]
  · rw [QZ_63]; simp [ud_at, yzf]
  · rw [QZ_63]; simp [ud_at, yzf]
  · rw [QZ_63]; simp [ud_at, yzf, bI]
  · rw [QZ_63]; simp [ud_at, yzf]
theorem QZ_b0 {Z : Nat → Nat → Int32} {u op p : Nat} {bad : Bool} {y : YS} : ud (QZ Z u op bad p y) 63 12 (nI 0) = QZ Z u op false p y := QZ_b (c := false)
theorem QZ_b1 {Z : Nat → Nat → Int32} {u op p : Nat} {bad : Bool} {y : YS} : ud (QZ Z u op bad p y) 63 12 (nI 1) = QZ Z u op true p y := QZ_b (c := true)
def RNT (v : Int32) (J : Nat → Nat → Int32) (T : Nat) (X : Nat → Nat → Int32) : ab_R → Prop := fun r => ∃ X' Z', r = (some (.int v), Wd X' Z') ∧ jm (X' 64) = J ∧ RK T (X' 64) ∧ ∀ c, c ≠ 64 → X' c = X c
theorem RNT_of {v x : Int32} {J : Nat → Nat → Int32} {T : Nat} {X X' Z : Nat → Nat → Int32} (hx : x = v) (h1 : jm (X' 64) = J) (h2 : RK T (X' 64)) (h3 : ∀ c, c ≠ 64 → X' c = X c) : RNT v J T X (some (.int x), Wd X' Z) := ⟨X', Z, by rw [hx], h1, h2, h3⟩
theorem RNT_w {v x : Int32} {J : Nat → Nat → Int32} {T : Nat} {X X' Z : Nat → Nat → Int32} (hx : x = v) (h : WJ J T X X') : RNT v J T X (some (.int x), Wd X' Z) := ⟨X', Z, by rw [hx], h.1, h.2.1, h.2.2.1⟩
def rTx (X : Nat → Nat → Int32) (u f : Nat) : PT := sTx (fun _ => jm (X 64) 9) u f
set_option maxRecDepth 100000 in
set_option maxHeartbeats 4000000 in
theorem l_rText_no (d : Nat) (X Z : Nat → Nat → Int32) (u : Int32) (hu : sUse u = false) : EC (d + 3) 152 [.ref 63, .int u] (Wd X Z) (RI (sErr 1) (yErr X 1)) := by
  refine er_enter (L := [(0, _), (1, _)]) rfl rfl rfl ?_
  refine er_loc (pc' := 1) rfl rfl rfl ?_
  refine er_k (pc' := 2) (nI 0) rfl rfl rfl ?_
  refine er_k (pc' := 3) (nI 1) rfl rfl rfl ?_
  refine er_cSi (pc' := 6) (rest := []) rfl rfl rfl (l_in _ _ _ _ _) ?_
  rw [sIn_01, hu]
  refine er_if_neF (pc' := 9) rfl (by decide +kernel) rfl ?_
  refine er_loc (pc' := 10) rfl rfl rfl ?_
  refine er_ldc (pc' := 12) (-1000000001) rfl rfl rfl rfl rfl ?_
  refine er_cIz (pc' := 15) (rest := []) 12 rfl rfl rfl rfl rfl rfl (l_rError1 _ _ _) ?_
  intro Z9
  refine er_iret rfl rfl ?_
  exact RI_of rfl rfl
set_option maxRecDepth 100000 in
set_option maxHeartbeats 4000000 in
theorem l_yStore0 (d : Nat) (X : Nat → Nat → Int32) {Z : Nat → Nat → Int32} {u q : Nat} {bad : Bool} {y : YS} (hy : y.1 ≤ 50) : ∀ (m i : Nat) (x : Int32), i + m = y.1 → x = nI i → ER (d + 1) tb_m152 116 [(0, .ref 63), (2, .int (nI 125)), (3, .int x)] [] (Wd (uc X 64 (yTx (X 64) 125 y.2.1 y.2.2 i)) (QZ Z u 0 bad q y)) (RI (nI 1) (uc X 64 (yTx (X 64) 125 y.2.1 y.2.2 y.1)))
  | 0, i, x, hi, hx => by
    have hi0 : i = y.1 := by omega
    subst hx
    rw [hi0]
    refine er_loc (pc' := 117) rfl rfl rfl ?_
    refine er_loc (pc' := 118) rfl rfl rfl ?_
    refine er_gf (pc' := 121) (.int (nI y.1)) rfl rfl rfl rfl rfl ?_
    refine er_cm_geT rfl (nI_nlt (Nat.le_refl _) (by omega)) ?_
    refine er_k (pc' := 164) (nI 1) rfl rfl rfl ?_
    refine er_iret rfl rfl ?_
    exact RI_of rfl rfl
  | m + 1, i, x, hi, hx => by
    subst hx
    refine er_loc (pc' := 117) rfl rfl rfl ?_
    refine er_loc (pc' := 118) rfl rfl rfl ?_
    refine er_gf (pc' := 121) (.int (nI y.1)) rfl rfl rfl rfl rfl ?_
    refine er_cm_geF (pc' := 124) rfl (nI_lt (by omega) (by omega)) rfl ?_
    refine er_loc (pc' := 125) rfl rfl rfl ?_
    refine er_gf (pc' := 128) (_) rfl rfl rfl rfl rfl ?_
    refine er_loc (pc' := 129) rfl rfl rfl ?_
    refine er_k (pc' := 130) (nI 1) rfl rfl rfl ?_
    refine er_iadd (pc' := 131) rfl rfl ?_
    refine er_loc (pc' := 132) rfl rfl rfl ?_
    refine er_iadd (pc' := 133) rfl rfl ?_
    refine er_loc (pc' := 134) rfl rfl rfl ?_
    refine er_gf (pc' := 137) (_) rfl rfl rfl rfl rfl ?_
    refine er_loc (pc' := 138) rfl rfl rfl ?_
    refine er_ia (pc' := 139) (i) rfl rfl rfl rfl (by omega) rfl rfl ?_
    rw [QZ_68]
    refine er_isX (pc' := 140) (((125 + 1) + i)) rfl rfl (fun _ => rfl) (by simp only [nI_add, nI_mul]) (by omega) rfl rfl ?_
    refine er_loc (pc' := 141) rfl rfl rfl ?_
    refine er_gf (pc' := 144) (_) rfl rfl rfl rfl rfl ?_
    refine er_loc (pc' := 145) rfl rfl rfl ?_
    refine er_k (pc' := 147) (nI 51) rfl rfl rfl ?_
    refine er_iadd (pc' := 148) rfl rfl ?_
    refine er_loc (pc' := 149) rfl rfl rfl ?_
    refine er_iadd (pc' := 150) rfl rfl ?_
    refine er_loc (pc' := 151) rfl rfl rfl ?_
    refine er_gf (pc' := 154) (_) rfl rfl rfl rfl rfl ?_
    refine er_loc (pc' := 155) rfl rfl rfl ?_
    refine er_ia (pc' := 156) (i) rfl rfl rfl rfl (by omega) rfl rfl ?_
    rw [QZ_69]
    refine er_isX (pc' := 157) (((125 + 51) + i)) rfl rfl (fun _ => rfl) (by simp only [nI_add, nI_mul]) (by omega) rfl rfl ?_
    refine er_loc (L' := [(3, .int (_ + nI 1)), (0, _), (2, _)]) rfl rfl rfl ?_
    refine er_goto rfl ?_
    refine ER_loc [(0, _), (2, _), (3, _)] rfl (List.forall_mem_cons.mpr ⟨rfl, List.forall_mem_cons.mpr ⟨rfl, List.forall_mem_cons.mpr ⟨rfl, fun _ h => absurd h List.not_mem_nil⟩⟩⟩) rfl rfl ?_
    have ih := l_yStore0 d X (Z := Z) (u := u) (q := q) (bad := bad) hy m (i + 1) _ (by omega) (nI_add i 1)
    rw [show ud (ud (uc X 64 (yTx (X 64) 125 y.2.1 y.2.2 i)) 64 (125 + 1 + i) (y.2.1 i)) 64 (125 + 51 + i) (y.2.2 i) = uc X 64 (yTx (X 64) 125 y.2.1 y.2.2 (i + 1)) from by unfold ud; rw [uc_uc, uc_uc, uc_same, uc_same, yTx_s (by omega)]]
    exact ih
set_option maxRecDepth 100000 in
set_option maxHeartbeats 4000000 in
theorem l_rText0 (d : Nat) (X Z : Nat → Nat → Int32) {T : Nat} (hI : RK T (X 64)) {f : Nat} (hf : X 64 5 = nI f) (hf50 : f ≤ 50) : EC (d + 120) 152 [.ref 63, .int (nI 0)] (Wd X Z) (fun r => match rTx X 0 f with | .inl x => RNT (-10 - nI x) (ud (jm (X 64)) 0 14 (nI 0)) T X r | .inr s => (if s.1 < f then RNT (-10 - nI s.1) (ud (jm (X 64)) 0 14 (nI 0)) T X else RNT (nI 1) (jTx0 (ud (jm (X 64)) 0 14 (nI 0)) s.2) T X) r) := by
  refine er_enter (L := [(0, _), (1, _)]) rfl rfl rfl ?_
  refine er_loc (pc' := 1) rfl rfl rfl ?_
  refine er_k (pc' := 2) (nI 0) rfl rfl rfl ?_
  refine er_k (pc' := 3) (nI 1) rfl rfl rfl ?_
  refine er_cSi (pc' := 6) (rest := []) rfl rfl rfl (l_in _ _ _ _ _) ?_
  rw [show sIn (nI 0) (nI 0) (nI 1) = true from by decide +kernel]
  refine er_if_neT rfl (by decide +kernel) ?_
  refine er_loc (pc' := 17) rfl rfl rfl ?_
  refine er_loc (pc' := 18) rfl rfl rfl ?_
  refine er_pfIZ (pc' := 21) 13 rfl rfl rfl rfl rfl rfl ?_
  refine er_loc (pc' := 22) rfl rfl rfl ?_
  refine er_k (pc' := 23) (nI 0) rfl rfl rfl ?_
  refine er_pfIZ (pc' := 26) 9 rfl rfl rfl rfl rfl rfl ?_
  refine er_loc (pc' := 27) rfl rfl rfl ?_
  refine er_k (pc' := 28) (nI 0) rfl rfl rfl ?_
  refine er_pfIZ (pc' := 31) 10 rfl rfl rfl rfl rfl rfl ?_
  refine er_loc (pc' := 32) rfl rfl rfl ?_
  refine er_k (pc' := 33) (nI 0) rfl rfl rfl ?_
  refine er_pfIZ (pc' := 36) 11 rfl rfl rfl rfl rfl rfl ?_
  refine er_loc (pc' := 37) rfl rfl rfl ?_
  refine er_k (pc' := 38) (nI 0) rfl rfl rfl ?_
  refine er_pfIZ (pc' := 41) 12 rfl rfl rfl rfl rfl rfl ?_
  refine er_loc (pc' := 42) rfl rfl rfl ?_
  rw [Wd_start]
  refine er_cIP (pc' := 45) (rest := []) 12 rfl rfl rfl rfl rfl rfl (l_yq X Z (show 0 = 0 ∨ 0 = 1 by omega) hI.ij.tape hf hf50 36 (d + 119) (by omega) 0 0 0 (0, fun _ => 0) (0, Z 68, Z 69) (by omega) (by omega) (by omega) (by omega) (by omega) ⟨rfl, fun k hk => absurd hk (Nat.not_lt_zero k)⟩) (fun r hr => ?_)
  have hwf := sTx_wf (X := fun _ => jm (X 64) 9) (u := 0) (f := f) hI.ij.tape hf50
  rw [show qq (jm (X 64) 9) f 0 36 0 0 (0, (0, fun _ => 0)) = rTx X 0 f from rfl] at hr
  rw [show sTx (fun _ => jm (X 64) 9) 0 f = rTx X 0 f from rfl] at hwf
  have w5 := wFed (p := 5) hI rfl (isN.of (show 0 ≤ 50 by omega) (by omega)) rfl
  cases hT : rTx X 0 f with
  | inl x =>
    rw [hT] at hr hwf
    obtain ⟨y, hy, hx, rfl⟩ := hr
    refine er_loc (pc' := 46) rfl rfl rfl ?_
    refine er_loc (pc' := 47) rfl rfl rfl ?_
    refine er_gf (pc' := 50) (.int (bI true)) rfl rfl rfl rfl rfl ?_
    refine er_if_neT rfl (by decide +kernel) ?_
    refine er_k (pc' := 67) (nI 1) rfl rfl rfl ?_
    refine er_goto rfl ?_
    refine er_pfIZ (pc' := 74) 12 rfl rfl rfl rfl rfl rfl ?_
    rw [QZ_b1]
    refine er_loc (pc' := 75) rfl rfl rfl ?_
    refine er_gf (pc' := 78) (_) rfl rfl rfl rfl rfl ?_
    refine er_k (pc' := 79) (nI 5) rfl rfl rfl ?_
    refine er_k (pc' := 80) (nI 0) rfl rfl rfl ?_
    refine er_isX (pc' := 81) (5) rfl rfl (fun _ => rfl) rfl (by omega) rfl rfl ?_
    refine er_loc (pc' := 82) rfl rfl rfl ?_
    refine er_gf (pc' := 85) (.int (bI true)) rfl rfl rfl rfl rfl ?_
    refine er_if_eqF (pc' := 88) rfl (by decide +kernel) rfl ?_
    refine er_k (pc' := 90) (-10) rfl rfl rfl ?_
    refine er_loc (pc' := 91) rfl rfl rfl ?_
    refine er_gf (pc' := 94) (.int (nI x)) rfl rfl rfl rfl rfl ?_
    refine er_isub (pc' := 95) rfl rfl ?_
    refine er_iret rfl rfl ?_
    exact RNT_w rfl w5
  | inr s =>
    rw [hT] at hr hwf
    obtain ⟨hq1, hq2, y, hca, rfl⟩ := hr
    obtain ⟨_, _, hw⟩ := hwf
    refine er_loc (pc' := 46) rfl rfl rfl ?_
    refine er_loc (pc' := 47) rfl rfl rfl ?_
    refine er_gf (pc' := 50) (.int (bI false)) rfl rfl rfl rfl rfl ?_
    refine er_if_neF (pc' := 53) rfl (by decide +kernel) rfl ?_
    refine er_loc (pc' := 54) rfl rfl rfl ?_
    refine er_gf (pc' := 57) (.int (nI s.1)) rfl rfl rfl rfl rfl ?_
    refine er_loc (pc' := 58) rfl rfl rfl ?_
    refine er_gf (pc' := 61) (_) rfl rfl rfl rfl rfl ?_
    refine er_k (pc' := 62) (nI 5) rfl rfl rfl ?_
    refine er_ia (pc' := 63) (5) rfl rfl rfl rfl (by omega) rfl rfl ?_
    rw [hf]
    refine er_cm_ge (pc' := 66) rfl rfl (fun h63 => ?_) (fun h63 => ?_)
    · have hsf : ¬ s.1 < f := fun h => h63 (nI_lt h (by omega))
      refine er_k (pc' := 71) (nI 0) rfl rfl rfl ?_
      refine er_pfIZ (pc' := 74) 12 rfl rfl rfl rfl rfl rfl ?_
      rw [QZ_b0]
      refine er_loc (pc' := 75) rfl rfl rfl ?_
      refine er_gf (pc' := 78) (_) rfl rfl rfl rfl rfl ?_
      refine er_k (pc' := 79) (nI 5) rfl rfl rfl ?_
      refine er_k (pc' := 80) (nI 0) rfl rfl rfl ?_
      refine er_isX (pc' := 81) (5) rfl rfl (fun _ => rfl) rfl (by omega) rfl rfl ?_
      refine er_loc (pc' := 82) rfl rfl rfl ?_
      refine er_gf (pc' := 85) (.int (bI false)) rfl rfl rfl rfl rfl ?_
      refine er_if_eqT rfl (by decide +kernel) ?_
      refine er_k (pc' := 98) (nI 125) rfl rfl rfl ?_
      refine er_k (pc' := 100) (nI 101) rfl rfl rfl ?_
      refine er_loc (pc' := 101) rfl rfl rfl ?_
      refine er_imul (pc' := 102) rfl rfl ?_
      refine er_iadd rfl rfl ?_
      rw [show nI 125 + nI 101 * nI 0 = nI 125 from by decide +kernel]
      refine er_loc (pc' := 104) (L' := [(2, _), (0, _), (1, _)]) rfl rfl rfl ?_
      refine er_loc (pc' := 105) rfl rfl rfl ?_
      refine er_gf (pc' := 108) (_) rfl rfl rfl rfl rfl ?_
      refine er_loc (pc' := 109) rfl rfl rfl ?_
      refine er_loc (pc' := 110) rfl rfl rfl ?_
      refine er_gf (pc' := 113) (.int (nI y.1)) rfl rfl rfl rfl rfl ?_
      refine er_isX (pc' := 114) (125) rfl rfl (fun _ => rfl) rfl (by omega) rfl rfl ?_
      refine er_k (pc' := 115) (nI 0) rfl rfl rfl ?_
      refine er_loc (pc' := 116) (L' := [(3, _), (2, _), (0, _), (1, _)]) rfl rfl rfl ?_
      refine ER_loc [(0, _), (2, _), (3, _)] rfl (List.forall_mem_cons.mpr ⟨rfl, List.forall_mem_cons.mpr ⟨rfl, List.forall_mem_cons.mpr ⟨rfl, fun _ h => absurd h List.not_mem_nil⟩⟩⟩) rfl rfl ?_
      have hl := l_yStore0 (d + 118) (ud (ud X 64 5 (nI 0)) 64 125 (nI y.1)) (Z := Z) (u := 0) (q := s.1) (bad := false) (hca.le hq2) y.1 0 (nI 0) (by omega) rfl
      rw [yTx_0, uc_id] at hl
      refine hl.mono (fun r hr => ?_)
      obtain ⟨Z9, rfl⟩ := hr
      show (if s.1 < f then RNT (-10 - nI s.1) (ud (jm (X 64)) 0 14 (nI 0)) T X else RNT (nI 1) (jTx0 (ud (jm (X 64)) 0 14 (nI 0)) s.2) T X) _
      rw [if_neg hsf]
      have b1 : ∀ q, q < 125 → yTx ((ud (ud X 64 5 (nI 0)) 64 125 (nI y.1)) 64) 125 y.2.1 y.2.2 y.1 q = ud X 64 5 (nI 0) 64 q := fun q hq => by rw [yTx_at, if_neg (by omega), if_neg (by omega), ud_same, u1_ne (by omega)]
      have b2 : yTx ((ud (ud X 64 5 (nI 0)) 64 125 (nI y.1)) 64) 125 y.2.1 y.2.2 y.1 125 = nI s.2.1 := by rw [yTx_at, if_neg (by omega), if_neg (by omega), ud_same, u1_same, hca.1]
      have hy50 := hca.le hq2
      have b3 : ∀ k, k < s.2.1 → yTx ((ud (ud X 64 5 (nI 0)) 64 125 (nI y.1)) 64) 125 y.2.1 y.2.2 y.1 (126 + k) = y.2.1 k ∧ yTx ((ud (ud X 64 5 (nI 0)) 64 125 (nI y.1)) 64) 125 y.2.1 y.2.2 y.1 (176 + k) = y.2.2 k := by
        intro k hk
        rw [hca.1] at hk
        refine ⟨?_, ?_⟩
        · rw [yTx_at, if_pos ⟨by omega, by omega⟩, show 126 + k - (125 + 1) = k by omega]
        · rw [yTx_at, if_neg (by omega), if_pos ⟨by omega, by omega⟩, show 176 + k - (125 + 51) = k by omega]
      have b4 : ∀ q, 226 ≤ q → yTx ((ud (ud X 64 5 (nI 0)) 64 125 (nI y.1)) 64) 125 y.2.1 y.2.2 y.1 q = ud X 64 5 (nI 0) 64 q := fun q hq => by rw [yTx_at, if_neg (by omega), if_neg (by omega), ud_same, u1_ne (by omega)]
      have r5 := w5.rk
      refine RNT_of rfl ?_ ?_ ?_
      · rw [uc_same, ← w5.j]
        exact jm_text0 hq2 r5.n8 r5.ij.tl.1.2 hca b1 b2 b3 b4
      · rw [uc_same]
        exact r5.text0 hq2 hw hca b1 b2 b3 b4
      · intro c hc
        rw [uc_ne hc, ud_ne hc, ud_ne hc]
    · have hsf : s.1 < f := by
        rcases Nat.lt_or_ge s.1 f with h | h
        · exact h
        · exact absurd h63 (nI_nlt h (by omega))
      refine er_k (pc' := 67) (nI 1) rfl rfl rfl ?_
      refine er_goto rfl ?_
      refine er_pfIZ (pc' := 74) 12 rfl rfl rfl rfl rfl rfl ?_
      rw [QZ_b1]
      refine er_loc (pc' := 75) rfl rfl rfl ?_
      refine er_gf (pc' := 78) (_) rfl rfl rfl rfl rfl ?_
      refine er_k (pc' := 79) (nI 5) rfl rfl rfl ?_
      refine er_k (pc' := 80) (nI 0) rfl rfl rfl ?_
      refine er_isX (pc' := 81) (5) rfl rfl (fun _ => rfl) rfl (by omega) rfl rfl ?_
      refine er_loc (pc' := 82) rfl rfl rfl ?_
      refine er_gf (pc' := 85) (.int (bI true)) rfl rfl rfl rfl rfl ?_
      refine er_if_eqF (pc' := 88) rfl (by decide +kernel) rfl ?_
      refine er_k (pc' := 90) (-10) rfl rfl rfl ?_
      refine er_loc (pc' := 91) rfl rfl rfl ?_
      refine er_gf (pc' := 94) (.int (nI s.1)) rfl rfl rfl rfl rfl ?_
      refine er_isub (pc' := 95) rfl rfl ?_
      refine er_iret rfl rfl ?_
      show (if s.1 < f then RNT (-10 - nI s.1) (ud (jm (X 64)) 0 14 (nI 0)) T X else RNT (nI 1) (jTx0 (ud (jm (X 64)) 0 14 (nI 0)) s.2) T X) _
      rw [if_pos hsf]
      exact RNT_w rfl w5
set_option maxRecDepth 100000 in
set_option maxHeartbeats 4000000 in
theorem l_yStore1 (d : Nat) (X : Nat → Nat → Int32) {Z : Nat → Nat → Int32} {u q : Nat} {bad : Bool} {y : YS} (hy : y.1 ≤ 50) : ∀ (m i : Nat) (x : Int32), i + m = y.1 → x = nI i → ER (d + 1) tb_m152 116 [(0, .ref 63), (2, .int (nI 226)), (3, .int x)] [] (Wd (uc X 64 (yTx (X 64) 226 y.2.1 y.2.2 i)) (QZ Z u 0 bad q y)) (RI (nI 1) (uc X 64 (yTx (X 64) 226 y.2.1 y.2.2 y.1)))
  | 0, i, x, hi, hx => by
    have hi0 : i = y.1 := by omega
    subst hx
    rw [hi0]
    refine er_loc (pc' := 117) rfl rfl rfl ?_
    refine er_loc (pc' := 118) rfl rfl rfl ?_
    refine er_gf (pc' := 121) (.int (nI y.1)) rfl rfl rfl rfl rfl ?_
    refine er_cm_geT rfl (nI_nlt (Nat.le_refl _) (by omega)) ?_
    refine er_k (pc' := 164) (nI 1) rfl rfl rfl ?_
    refine er_iret rfl rfl ?_
    exact RI_of rfl rfl
  | m + 1, i, x, hi, hx => by
    subst hx
    refine er_loc (pc' := 117) rfl rfl rfl ?_
    refine er_loc (pc' := 118) rfl rfl rfl ?_
    refine er_gf (pc' := 121) (.int (nI y.1)) rfl rfl rfl rfl rfl ?_
    refine er_cm_geF (pc' := 124) rfl (nI_lt (by omega) (by omega)) rfl ?_
    refine er_loc (pc' := 125) rfl rfl rfl ?_
    refine er_gf (pc' := 128) (_) rfl rfl rfl rfl rfl ?_
    refine er_loc (pc' := 129) rfl rfl rfl ?_
    refine er_k (pc' := 130) (nI 1) rfl rfl rfl ?_
    refine er_iadd (pc' := 131) rfl rfl ?_
    refine er_loc (pc' := 132) rfl rfl rfl ?_
    refine er_iadd (pc' := 133) rfl rfl ?_
    refine er_loc (pc' := 134) rfl rfl rfl ?_
    refine er_gf (pc' := 137) (_) rfl rfl rfl rfl rfl ?_
    refine er_loc (pc' := 138) rfl rfl rfl ?_
    refine er_ia (pc' := 139) (i) rfl rfl rfl rfl (by omega) rfl rfl ?_
    rw [QZ_68]
    refine er_isX (pc' := 140) (((226 + 1) + i)) rfl rfl (fun _ => rfl) (by simp only [nI_add, nI_mul]) (by omega) rfl rfl ?_
    refine er_loc (pc' := 141) rfl rfl rfl ?_
    refine er_gf (pc' := 144) (_) rfl rfl rfl rfl rfl ?_
    refine er_loc (pc' := 145) rfl rfl rfl ?_
    refine er_k (pc' := 147) (nI 51) rfl rfl rfl ?_
    refine er_iadd (pc' := 148) rfl rfl ?_
    refine er_loc (pc' := 149) rfl rfl rfl ?_
    refine er_iadd (pc' := 150) rfl rfl ?_
    refine er_loc (pc' := 151) rfl rfl rfl ?_
    refine er_gf (pc' := 154) (_) rfl rfl rfl rfl rfl ?_
    refine er_loc (pc' := 155) rfl rfl rfl ?_
    refine er_ia (pc' := 156) (i) rfl rfl rfl rfl (by omega) rfl rfl ?_
    rw [QZ_69]
    refine er_isX (pc' := 157) (((226 + 51) + i)) rfl rfl (fun _ => rfl) (by simp only [nI_add, nI_mul]) (by omega) rfl rfl ?_
    refine er_loc (L' := [(3, .int (_ + nI 1)), (0, _), (2, _)]) rfl rfl rfl ?_
    refine er_goto rfl ?_
    refine ER_loc [(0, _), (2, _), (3, _)] rfl (List.forall_mem_cons.mpr ⟨rfl, List.forall_mem_cons.mpr ⟨rfl, List.forall_mem_cons.mpr ⟨rfl, fun _ h => absurd h List.not_mem_nil⟩⟩⟩) rfl rfl ?_
    have ih := l_yStore1 d X (Z := Z) (u := u) (q := q) (bad := bad) hy m (i + 1) _ (by omega) (nI_add i 1)
    rw [show ud (ud (uc X 64 (yTx (X 64) 226 y.2.1 y.2.2 i)) 64 (226 + 1 + i) (y.2.1 i)) 64 (226 + 51 + i) (y.2.2 i) = uc X 64 (yTx (X 64) 226 y.2.1 y.2.2 (i + 1)) from by unfold ud; rw [uc_uc, uc_uc, uc_same, uc_same, yTx_s (by omega)]]
    exact ih
set_option maxRecDepth 100000 in
set_option maxHeartbeats 4000000 in
theorem l_rText1 (d : Nat) (X Z : Nat → Nat → Int32) {T : Nat} (hI : RK T (X 64)) {f : Nat} (hf : X 64 5 = nI f) (hf50 : f ≤ 50) : EC (d + 120) 152 [.ref 63, .int (nI 1)] (Wd X Z) (fun r => match rTx X 1 f with | .inl x => RNT (-10 - nI x) (ud (jm (X 64)) 0 14 (nI 0)) T X r | .inr s => (if s.1 < f then RNT (-10 - nI s.1) (ud (jm (X 64)) 0 14 (nI 0)) T X else RNT (nI 1) (jTx1 (ud (jm (X 64)) 0 14 (nI 0)) s.2) T X) r) := by
  refine er_enter (L := [(0, _), (1, _)]) rfl rfl rfl ?_
  refine er_loc (pc' := 1) rfl rfl rfl ?_
  refine er_k (pc' := 2) (nI 0) rfl rfl rfl ?_
  refine er_k (pc' := 3) (nI 1) rfl rfl rfl ?_
  refine er_cSi (pc' := 6) (rest := []) rfl rfl rfl (l_in _ _ _ _ _) ?_
  rw [show sIn (nI 1) (nI 0) (nI 1) = true from by decide +kernel]
  refine er_if_neT rfl (by decide +kernel) ?_
  refine er_loc (pc' := 17) rfl rfl rfl ?_
  refine er_loc (pc' := 18) rfl rfl rfl ?_
  refine er_pfIZ (pc' := 21) 13 rfl rfl rfl rfl rfl rfl ?_
  refine er_loc (pc' := 22) rfl rfl rfl ?_
  refine er_k (pc' := 23) (nI 0) rfl rfl rfl ?_
  refine er_pfIZ (pc' := 26) 9 rfl rfl rfl rfl rfl rfl ?_
  refine er_loc (pc' := 27) rfl rfl rfl ?_
  refine er_k (pc' := 28) (nI 0) rfl rfl rfl ?_
  refine er_pfIZ (pc' := 31) 10 rfl rfl rfl rfl rfl rfl ?_
  refine er_loc (pc' := 32) rfl rfl rfl ?_
  refine er_k (pc' := 33) (nI 0) rfl rfl rfl ?_
  refine er_pfIZ (pc' := 36) 11 rfl rfl rfl rfl rfl rfl ?_
  refine er_loc (pc' := 37) rfl rfl rfl ?_
  refine er_k (pc' := 38) (nI 0) rfl rfl rfl ?_
  refine er_pfIZ (pc' := 41) 12 rfl rfl rfl rfl rfl rfl ?_
  refine er_loc (pc' := 42) rfl rfl rfl ?_
  rw [Wd_start]
  refine er_cIP (pc' := 45) (rest := []) 12 rfl rfl rfl rfl rfl rfl (l_yq X Z (show 1 = 0 ∨ 1 = 1 by omega) hI.ij.tape hf hf50 36 (d + 119) (by omega) 0 0 0 (0, fun _ => 0) (0, Z 68, Z 69) (by omega) (by omega) (by omega) (by omega) (by omega) ⟨rfl, fun k hk => absurd hk (Nat.not_lt_zero k)⟩) (fun r hr => ?_)
  have hwf := sTx_wf (X := fun _ => jm (X 64) 9) (u := 1) (f := f) hI.ij.tape hf50
  rw [show qq (jm (X 64) 9) f 1 36 0 0 (0, (0, fun _ => 0)) = rTx X 1 f from rfl] at hr
  rw [show sTx (fun _ => jm (X 64) 9) 1 f = rTx X 1 f from rfl] at hwf
  have w5 := wFed (p := 5) hI rfl (isN.of (show 0 ≤ 50 by omega) (by omega)) rfl
  cases hT : rTx X 1 f with
  | inl x =>
    rw [hT] at hr hwf
    obtain ⟨y, hy, hx, rfl⟩ := hr
    refine er_loc (pc' := 46) rfl rfl rfl ?_
    refine er_loc (pc' := 47) rfl rfl rfl ?_
    refine er_gf (pc' := 50) (.int (bI true)) rfl rfl rfl rfl rfl ?_
    refine er_if_neT rfl (by decide +kernel) ?_
    refine er_k (pc' := 67) (nI 1) rfl rfl rfl ?_
    refine er_goto rfl ?_
    refine er_pfIZ (pc' := 74) 12 rfl rfl rfl rfl rfl rfl ?_
    rw [QZ_b1]
    refine er_loc (pc' := 75) rfl rfl rfl ?_
    refine er_gf (pc' := 78) (_) rfl rfl rfl rfl rfl ?_
    refine er_k (pc' := 79) (nI 5) rfl rfl rfl ?_
    refine er_k (pc' := 80) (nI 0) rfl rfl rfl ?_
    refine er_isX (pc' := 81) (5) rfl rfl (fun _ => rfl) rfl (by omega) rfl rfl ?_
    refine er_loc (pc' := 82) rfl rfl rfl ?_
    refine er_gf (pc' := 85) (.int (bI true)) rfl rfl rfl rfl rfl ?_
    refine er_if_eqF (pc' := 88) rfl (by decide +kernel) rfl ?_
    refine er_k (pc' := 90) (-10) rfl rfl rfl ?_
    refine er_loc (pc' := 91) rfl rfl rfl ?_
    refine er_gf (pc' := 94) (.int (nI x)) rfl rfl rfl rfl rfl ?_
    refine er_isub (pc' := 95) rfl rfl ?_
    refine er_iret rfl rfl ?_
    exact RNT_w rfl w5
  | inr s =>
    rw [hT] at hr hwf
    obtain ⟨hq1, hq2, y, hca, rfl⟩ := hr
    obtain ⟨_, _, hw⟩ := hwf
    refine er_loc (pc' := 46) rfl rfl rfl ?_
    refine er_loc (pc' := 47) rfl rfl rfl ?_
    refine er_gf (pc' := 50) (.int (bI false)) rfl rfl rfl rfl rfl ?_
    refine er_if_neF (pc' := 53) rfl (by decide +kernel) rfl ?_
    refine er_loc (pc' := 54) rfl rfl rfl ?_
    refine er_gf (pc' := 57) (.int (nI s.1)) rfl rfl rfl rfl rfl ?_
    refine er_loc (pc' := 58) rfl rfl rfl ?_
    refine er_gf (pc' := 61) (_) rfl rfl rfl rfl rfl ?_
    refine er_k (pc' := 62) (nI 5) rfl rfl rfl ?_
    refine er_ia (pc' := 63) (5) rfl rfl rfl rfl (by omega) rfl rfl ?_
    rw [hf]
    refine er_cm_ge (pc' := 66) rfl rfl (fun h63 => ?_) (fun h63 => ?_)
    · have hsf : ¬ s.1 < f := fun h => h63 (nI_lt h (by omega))
      refine er_k (pc' := 71) (nI 0) rfl rfl rfl ?_
      refine er_pfIZ (pc' := 74) 12 rfl rfl rfl rfl rfl rfl ?_
      rw [QZ_b0]
      refine er_loc (pc' := 75) rfl rfl rfl ?_
      refine er_gf (pc' := 78) (_) rfl rfl rfl rfl rfl ?_
      refine er_k (pc' := 79) (nI 5) rfl rfl rfl ?_
      refine er_k (pc' := 80) (nI 0) rfl rfl rfl ?_
      refine er_isX (pc' := 81) (5) rfl rfl (fun _ => rfl) rfl (by omega) rfl rfl ?_
      refine er_loc (pc' := 82) rfl rfl rfl ?_
      refine er_gf (pc' := 85) (.int (bI false)) rfl rfl rfl rfl rfl ?_
      refine er_if_eqT rfl (by decide +kernel) ?_
      refine er_k (pc' := 98) (nI 125) rfl rfl rfl ?_
      refine er_k (pc' := 100) (nI 101) rfl rfl rfl ?_
      refine er_loc (pc' := 101) rfl rfl rfl ?_
      refine er_imul (pc' := 102) rfl rfl ?_
      refine er_iadd rfl rfl ?_
      rw [show nI 125 + nI 101 * nI 1 = nI 226 from by decide +kernel]
      refine er_loc (pc' := 104) (L' := [(2, _), (0, _), (1, _)]) rfl rfl rfl ?_
      refine er_loc (pc' := 105) rfl rfl rfl ?_
      refine er_gf (pc' := 108) (_) rfl rfl rfl rfl rfl ?_
      refine er_loc (pc' := 109) rfl rfl rfl ?_
      refine er_loc (pc' := 110) rfl rfl rfl ?_
      refine er_gf (pc' := 113) (.int (nI y.1)) rfl rfl rfl rfl rfl ?_
      refine er_isX (pc' := 114) (226) rfl rfl (fun _ => rfl) rfl (by omega) rfl rfl ?_
      refine er_k (pc' := 115) (nI 0) rfl rfl rfl ?_
      refine er_loc (pc' := 116) (L' := [(3, _), (2, _), (0, _), (1, _)]) rfl rfl rfl ?_
      refine ER_loc [(0, _), (2, _), (3, _)] rfl (List.forall_mem_cons.mpr ⟨rfl, List.forall_mem_cons.mpr ⟨rfl, List.forall_mem_cons.mpr ⟨rfl, fun _ h => absurd h List.not_mem_nil⟩⟩⟩) rfl rfl ?_
      have hl := l_yStore1 (d + 118) (ud (ud X 64 5 (nI 0)) 64 226 (nI y.1)) (Z := Z) (u := 1) (q := s.1) (bad := false) (hca.le hq2) y.1 0 (nI 0) (by omega) rfl
      rw [yTx_0, uc_id] at hl
      refine hl.mono (fun r hr => ?_)
      obtain ⟨Z9, rfl⟩ := hr
      show (if s.1 < f then RNT (-10 - nI s.1) (ud (jm (X 64)) 0 14 (nI 0)) T X else RNT (nI 1) (jTx1 (ud (jm (X 64)) 0 14 (nI 0)) s.2) T X) _
      rw [if_neg hsf]
      have b1 : ∀ q, q < 226 → yTx ((ud (ud X 64 5 (nI 0)) 64 226 (nI y.1)) 64) 226 y.2.1 y.2.2 y.1 q = ud X 64 5 (nI 0) 64 q := fun q hq => by rw [yTx_at, if_neg (by omega), if_neg (by omega), ud_same, u1_ne (by omega)]
      have b2 : yTx ((ud (ud X 64 5 (nI 0)) 64 226 (nI y.1)) 64) 226 y.2.1 y.2.2 y.1 226 = nI s.2.1 := by rw [yTx_at, if_neg (by omega), if_neg (by omega), ud_same, u1_same, hca.1]
      have hy50 := hca.le hq2
      have b3 : ∀ k, k < s.2.1 → yTx ((ud (ud X 64 5 (nI 0)) 64 226 (nI y.1)) 64) 226 y.2.1 y.2.2 y.1 (227 + k) = y.2.1 k ∧ yTx ((ud (ud X 64 5 (nI 0)) 64 226 (nI y.1)) 64) 226 y.2.1 y.2.2 y.1 (277 + k) = y.2.2 k := by
        intro k hk
        rw [hca.1] at hk
        refine ⟨?_, ?_⟩
        · rw [yTx_at, if_pos ⟨by omega, by omega⟩, show 227 + k - (226 + 1) = k by omega]
        · rw [yTx_at, if_neg (by omega), if_pos ⟨by omega, by omega⟩, show 277 + k - (226 + 51) = k by omega]
      have r5 := w5.rk
      refine RNT_of rfl ?_ ?_ ?_
      · rw [uc_same, ← w5.j]
        exact jm_text1 hq2 r5.n8 r5.ij.tl.1.2 hca b1 b2 b3
      · rw [uc_same]
        exact r5.text1 hq2 hw hca b1 b2 b3
      · intro c hc
        rw [uc_ne hc, ud_ne hc, ud_ne hc]
    · have hsf : s.1 < f := by
        rcases Nat.lt_or_ge s.1 f with h | h
        · exact h
        · exact absurd h63 (nI_nlt h (by omega))
      refine er_k (pc' := 67) (nI 1) rfl rfl rfl ?_
      refine er_goto rfl ?_
      refine er_pfIZ (pc' := 74) 12 rfl rfl rfl rfl rfl rfl ?_
      rw [QZ_b1]
      refine er_loc (pc' := 75) rfl rfl rfl ?_
      refine er_gf (pc' := 78) (_) rfl rfl rfl rfl rfl ?_
      refine er_k (pc' := 79) (nI 5) rfl rfl rfl ?_
      refine er_k (pc' := 80) (nI 0) rfl rfl rfl ?_
      refine er_isX (pc' := 81) (5) rfl rfl (fun _ => rfl) rfl (by omega) rfl rfl ?_
      refine er_loc (pc' := 82) rfl rfl rfl ?_
      refine er_gf (pc' := 85) (.int (bI true)) rfl rfl rfl rfl rfl ?_
      refine er_if_eqF (pc' := 88) rfl (by decide +kernel) rfl ?_
      refine er_k (pc' := 90) (-10) rfl rfl rfl ?_
      refine er_loc (pc' := 91) rfl rfl rfl ?_
      refine er_gf (pc' := 94) (.int (nI s.1)) rfl rfl rfl rfl rfl ?_
      refine er_isub (pc' := 95) rfl rfl ?_
      refine er_iret rfl rfl ?_
      show (if s.1 < f then RNT (-10 - nI s.1) (ud (jm (X 64)) 0 14 (nI 0)) T X else RNT (nI 1) (jTx1 (ud (jm (X 64)) 0 14 (nI 0)) s.2) T X) _
      rw [if_pos hsf]
      exact RNT_w rfl w5
