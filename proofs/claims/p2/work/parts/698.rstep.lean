/-! THE REFERENCE: a new step -/
theorem jm_offD {R R' : Nat → Int32} {k : Nat} (hk : nN (R 2) ≤ k) (hk8 : k < 8) (ho : ∀ q, q ≠ 11 + 6 * k → R' q = R q) : jm R' = jm R := by
  have e2 : R' 2 = R 2 := ho 2 (by omega)
  have e6 : rB R' 11 (nN (R' 2)) = rB R 11 (nN (R 2)) := by rw [e2]; exact rB_cong (fun i hi => ho _ (by omega))
  have e7 : rB R' 12 (nN (R' 2)) = rB R 12 (nN (R 2)) := by rw [e2]; exact rB_cong (fun i hi => ho _ (by omega))
  funext i j
  match i with
  | 0 =>
    match j with
    | 0 => exact (show jm R' 0 0 = 0 from rfl).trans (show 0 = jm R 0 0 from rfl)
    | 1 => exact ho 2 (by omega)
    | 2 => exact (show jm R' 0 2 = 0 from rfl).trans (show 0 = jm R 0 2 from rfl)
    | 3 => exact (show jm R' 0 3 = 0 from rfl).trans (show 0 = jm R 0 3 from rfl)
    | 4 => exact (show jm R' 0 4 = 0 from rfl).trans (show 0 = jm R 0 4 from rfl)
    | 5 => exact (show jm R' 0 5 = 0 from rfl).trans (show 0 = jm R 0 5 from rfl)
    | 6 => exact e6
    | 7 => exact e7
    | 8 => exact ho 3 (by omega)
    | 9 => exact ho 4 (by omega)
    | 10 => exact ho 0 (by omega)
    | 11 => exact (show jm R' 0 11 = 0 from rfl).trans (show 0 = jm R 0 11 from rfl)
    | 12 => exact (show jm R' 0 12 = 0 from rfl).trans (show 0 = jm R 0 12 from rfl)
    | 13 => exact (show jm R' 0 13 = 0 from rfl).trans (show 0 = jm R 0 13 from rfl)
    | 14 => exact ho 5 (by omega)
    | 15 => exact (show jm R' 0 15 = 0 from rfl).trans (show 0 = jm R 0 15 from rfl)
    | 16 => exact ho 6 (by omega)
    | 17 => exact ho 1 (by omega)
    | j + 18 => exact (show jm R' 0 (j + 18) = 0 from rfl).trans (show 0 = jm R 0 (j + 18) from rfl)
  | 1 =>
    show (if j < 8 then R' (7 + 6 * j) else 0) = (if j < 8 then R (7 + 6 * j) else 0)
    split
    · exact ho _ (by omega)
    · rfl
  | 2 =>
    show (if j < 8 then R' (8 + 6 * j) else 0) = (if j < 8 then R (8 + 6 * j) else 0)
    split
    · exact ho _ (by omega)
    · rfl
  | 3 =>
    show (if j < 8 then R' (9 + 6 * j) else 0) = (if j < 8 then R (9 + 6 * j) else 0)
    split
    · exact ho _ (by omega)
    · rfl
  | 4 =>
    show (if j < 8 then R' (10 + 6 * j) else 0) = (if j < 8 then R (10 + 6 * j) else 0)
    split
    · exact ho _ (by omega)
    · rfl
  | 9 =>
    show (if j < 50 then R' (55 + j) else 0) = (if j < 50 then R (55 + j) else 0)
    split
    · exact ho _ (by omega)
    · rfl
  | 10 =>
    show (if j < 20 then R' (105 + j) else 0) = (if j < 20 then R (105 + j) else 0)
    split
    · exact ho _ (by omega)
    · rfl
  | 5 =>
    show (if j = 0 then R' 125 else 0) = (if j = 0 then R 125 else 0)
    rw [ho 125 (by omega)]
  | 7 =>
    show (if j = 0 then R' 226 else 0) = (if j = 0 then R 226 else 0)
    rw [ho 226 (by omega)]
  | 6 =>
    show (if j < nN (R' 125) then cM (R' (126 + j)) (R' (176 + j)) else 0) = (if j < nN (R 125) then cM (R (126 + j)) (R (176 + j)) else 0)
    rw [ho 125 (by omega), ho (126 + j) (by omega), ho (176 + j) (by omega)]
  | 8 =>
    show (if j < nN (R' 226) then cM (R' (227 + j)) (R' (277 + j)) else 0) = (if j < nN (R 226) then cM (R (227 + j)) (R (277 + j)) else 0)
    rw [ho 226 (by omega), ho (227 + j) (by omega), ho (277 + j) (by omega)]
  | i + 11 =>
    exact (show jm R' (i + 11) j = 0 from rfl).trans (show 0 = jm R (i + 11) j from rfl)
theorem jm_offW {R R' : Nat → Int32} {k : Nat} (hk : nN (R 2) ≤ k) (hk8 : k < 8) (ho : ∀ q, q ≠ 12 + 6 * k → R' q = R q) : jm R' = jm R := by
  have e2 : R' 2 = R 2 := ho 2 (by omega)
  have e6 : rB R' 11 (nN (R' 2)) = rB R 11 (nN (R 2)) := by rw [e2]; exact rB_cong (fun i hi => ho _ (by omega))
  have e7 : rB R' 12 (nN (R' 2)) = rB R 12 (nN (R 2)) := by rw [e2]; exact rB_cong (fun i hi => ho _ (by omega))
  funext i j
  match i with
  | 0 =>
    match j with
    | 0 => exact (show jm R' 0 0 = 0 from rfl).trans (show 0 = jm R 0 0 from rfl)
    | 1 => exact ho 2 (by omega)
    | 2 => exact (show jm R' 0 2 = 0 from rfl).trans (show 0 = jm R 0 2 from rfl)
    | 3 => exact (show jm R' 0 3 = 0 from rfl).trans (show 0 = jm R 0 3 from rfl)
    | 4 => exact (show jm R' 0 4 = 0 from rfl).trans (show 0 = jm R 0 4 from rfl)
    | 5 => exact (show jm R' 0 5 = 0 from rfl).trans (show 0 = jm R 0 5 from rfl)
    | 6 => exact e6
    | 7 => exact e7
    | 8 => exact ho 3 (by omega)
    | 9 => exact ho 4 (by omega)
    | 10 => exact ho 0 (by omega)
    | 11 => exact (show jm R' 0 11 = 0 from rfl).trans (show 0 = jm R 0 11 from rfl)
    | 12 => exact (show jm R' 0 12 = 0 from rfl).trans (show 0 = jm R 0 12 from rfl)
    | 13 => exact (show jm R' 0 13 = 0 from rfl).trans (show 0 = jm R 0 13 from rfl)
    | 14 => exact ho 5 (by omega)
    | 15 => exact (show jm R' 0 15 = 0 from rfl).trans (show 0 = jm R 0 15 from rfl)
    | 16 => exact ho 6 (by omega)
    | 17 => exact ho 1 (by omega)
    | j + 18 => exact (show jm R' 0 (j + 18) = 0 from rfl).trans (show 0 = jm R 0 (j + 18) from rfl)
  | 1 =>
    show (if j < 8 then R' (7 + 6 * j) else 0) = (if j < 8 then R (7 + 6 * j) else 0)
    split
    · exact ho _ (by omega)
    · rfl
  | 2 =>
    show (if j < 8 then R' (8 + 6 * j) else 0) = (if j < 8 then R (8 + 6 * j) else 0)
    split
    · exact ho _ (by omega)
    · rfl
  | 3 =>
    show (if j < 8 then R' (9 + 6 * j) else 0) = (if j < 8 then R (9 + 6 * j) else 0)
    split
    · exact ho _ (by omega)
    · rfl
  | 4 =>
    show (if j < 8 then R' (10 + 6 * j) else 0) = (if j < 8 then R (10 + 6 * j) else 0)
    split
    · exact ho _ (by omega)
    · rfl
  | 9 =>
    show (if j < 50 then R' (55 + j) else 0) = (if j < 50 then R (55 + j) else 0)
    split
    · exact ho _ (by omega)
    · rfl
  | 10 =>
    show (if j < 20 then R' (105 + j) else 0) = (if j < 20 then R (105 + j) else 0)
    split
    · exact ho _ (by omega)
    · rfl
  | 5 =>
    show (if j = 0 then R' 125 else 0) = (if j = 0 then R 125 else 0)
    rw [ho 125 (by omega)]
  | 7 =>
    show (if j = 0 then R' 226 else 0) = (if j = 0 then R 226 else 0)
    rw [ho 226 (by omega)]
  | 6 =>
    show (if j < nN (R' 125) then cM (R' (126 + j)) (R' (176 + j)) else 0) = (if j < nN (R 125) then cM (R (126 + j)) (R (176 + j)) else 0)
    rw [ho 125 (by omega), ho (126 + j) (by omega), ho (176 + j) (by omega)]
  | 8 =>
    show (if j < nN (R' 226) then cM (R' (227 + j)) (R' (277 + j)) else 0) = (if j < nN (R 226) then cM (R (227 + j)) (R (277 + j)) else 0)
    rw [ho 226 (by omega), ho (227 + j) (by omega), ho (277 + j) (by omega)]
  | i + 11 =>
    exact (show jm R' (i + 11) j = 0 from rfl).trans (show 0 = jm R (i + 11) j from rfl)
theorem jm_uN {R R' : Nat → Int32} {n : Nat} (hn : n < 8) (h2 : R 2 = nI n) (hD : R (11 + 6 * n) = nI 0) (hW : R (12 + 6 * n) = nI 0) (ho : ∀ q, q ≠ 2 → R' q = R q) (hv : R' 2 = nI (n + 1)) : jm R' = ud (jm R) 0 1 (nI (n + 1)) := by
  have e6 : rB R' 11 (nN (R' 2)) = rB R 11 (nN (R 2)) := by
    rw [hv, h2, nN_nI (by omega), nN_nI (by omega)]
    show rB R' 11 n ||| (R' (11 + 6 * n) <<< (nI n &&& 31)) = _
    rw [rB_cong (fun i hi => ho (11 + 6 * i) (by omega)), ho (11 + 6 * n) (by omega), hD, sh0 (by omega), or_0]
  have e7 : rB R' 12 (nN (R' 2)) = rB R 12 (nN (R 2)) := by
    rw [hv, h2, nN_nI (by omega), nN_nI (by omega)]
    show rB R' 12 n ||| (R' (12 + 6 * n) <<< (nI n &&& 31)) = _
    rw [rB_cong (fun i hi => ho (12 + 6 * i) (by omega)), ho (12 + 6 * n) (by omega), hW, sh0 (by omega), or_0]
  funext i j
  rw [ud_at]
  match i with
  | 0 =>
    rw [if_pos rfl]
    match j with
    | 0 => rw [if_neg (by omega)]; exact (show jm R' 0 0 = 0 from rfl).trans (show 0 = jm R 0 0 from rfl)
    | 1 => rw [if_pos rfl]; exact hv
    | 2 => rw [if_neg (by omega)]; exact (show jm R' 0 2 = 0 from rfl).trans (show 0 = jm R 0 2 from rfl)
    | 3 => rw [if_neg (by omega)]; exact (show jm R' 0 3 = 0 from rfl).trans (show 0 = jm R 0 3 from rfl)
    | 4 => rw [if_neg (by omega)]; exact (show jm R' 0 4 = 0 from rfl).trans (show 0 = jm R 0 4 from rfl)
    | 5 => rw [if_neg (by omega)]; exact (show jm R' 0 5 = 0 from rfl).trans (show 0 = jm R 0 5 from rfl)
    | 6 => rw [if_neg (by omega)]; exact e6
    | 7 => rw [if_neg (by omega)]; exact e7
    | 8 => rw [if_neg (by omega)]; exact ho 3 (by omega)
    | 9 => rw [if_neg (by omega)]; exact ho 4 (by omega)
    | 10 => rw [if_neg (by omega)]; exact ho 0 (by omega)
    | 11 => rw [if_neg (by omega)]; exact (show jm R' 0 11 = 0 from rfl).trans (show 0 = jm R 0 11 from rfl)
    | 12 => rw [if_neg (by omega)]; exact (show jm R' 0 12 = 0 from rfl).trans (show 0 = jm R 0 12 from rfl)
    | 13 => rw [if_neg (by omega)]; exact (show jm R' 0 13 = 0 from rfl).trans (show 0 = jm R 0 13 from rfl)
    | 14 => rw [if_neg (by omega)]; exact ho 5 (by omega)
    | 15 => rw [if_neg (by omega)]; exact (show jm R' 0 15 = 0 from rfl).trans (show 0 = jm R 0 15 from rfl)
    | 16 => rw [if_neg (by omega)]; exact ho 6 (by omega)
    | 17 => rw [if_neg (by omega)]; exact ho 1 (by omega)
    | j + 18 => rw [if_neg (by omega)]; exact (show jm R' 0 (j + 18) = 0 from rfl).trans (show 0 = jm R 0 (j + 18) from rfl)
  | 1 =>
    rw [if_neg (by omega)]
    show (if j < 8 then R' (7 + 6 * j) else 0) = (if j < 8 then R (7 + 6 * j) else 0)
    split
    · exact ho _ (by omega)
    · rfl
  | 2 =>
    rw [if_neg (by omega)]
    show (if j < 8 then R' (8 + 6 * j) else 0) = (if j < 8 then R (8 + 6 * j) else 0)
    split
    · exact ho _ (by omega)
    · rfl
  | 3 =>
    rw [if_neg (by omega)]
    show (if j < 8 then R' (9 + 6 * j) else 0) = (if j < 8 then R (9 + 6 * j) else 0)
    split
    · exact ho _ (by omega)
    · rfl
  | 4 =>
    rw [if_neg (by omega)]
    show (if j < 8 then R' (10 + 6 * j) else 0) = (if j < 8 then R (10 + 6 * j) else 0)
    split
    · exact ho _ (by omega)
    · rfl
  | 9 =>
    rw [if_neg (by omega)]
    show (if j < 50 then R' (55 + j) else 0) = (if j < 50 then R (55 + j) else 0)
    split
    · exact ho _ (by omega)
    · rfl
  | 10 =>
    rw [if_neg (by omega)]
    show (if j < 20 then R' (105 + j) else 0) = (if j < 20 then R (105 + j) else 0)
    split
    · exact ho _ (by omega)
    · rfl
  | 5 =>
    rw [if_neg (by omega)]
    show (if j = 0 then R' 125 else 0) = (if j = 0 then R 125 else 0)
    rw [ho 125 (by omega)]
  | 7 =>
    rw [if_neg (by omega)]
    show (if j = 0 then R' 226 else 0) = (if j = 0 then R 226 else 0)
    rw [ho 226 (by omega)]
  | 6 =>
    rw [if_neg (by omega)]
    show (if j < nN (R' 125) then cM (R' (126 + j)) (R' (176 + j)) else 0) = (if j < nN (R 125) then cM (R (126 + j)) (R (176 + j)) else 0)
    rw [ho 125 (by omega), ho (126 + j) (by omega), ho (176 + j) (by omega)]
  | 8 =>
    rw [if_neg (by omega)]
    show (if j < nN (R' 226) then cM (R' (227 + j)) (R' (277 + j)) else 0) = (if j < nN (R 226) then cM (R (227 + j)) (R (277 + j)) else 0)
    rw [ho 226 (by omega), ho (227 + j) (by omega), ho (277 + j) (by omega)]
  | i + 11 =>
    rw [if_neg (by omega)]
    exact (show jm R' (i + 11) j = 0 from rfl).trans (show 0 = jm R (i + 11) j from rfl)
theorem IJ.add {T : Nat} {J : Nat → Nat → Int32} (h : IJ T J) {km s nd : Int32} (hn : jn J < 8) (h1 : sIn km (nI 0) (nI 69) = true) (h2 : sIn s (nI 0) (nI 9) = true) (h3 : sIn nd (nI 0) (nI 1 <<< (nI (jn J) &&& 31) - nI 1) = true) : IJ T (jAdd J (jn J) km s nd) := by
  obtain ⟨g1, g2⟩ := km_q h1
  have hb := ((((h.uKind (k := jn J) g1).uM (k := jn J) g2).uSc (k := jn J) (sIn_isN (by omega) (by omega) h2)).uNeeds (k := jn J) (needs_lt (by omega) h3))
  exact hb.uN (n := jn J + 1) (by omega) (show jn J ≤ jn J + 1 by omega)
theorem step_WJ {X : Nat → Nat → Int32} {T : Nat} (hI : RK T (X 64)) {n : Nat} (hn : jn (jm (X 64)) = n) (h8 : n < 8) {km s nd : Int32} (h1 : sIn km (nI 0) (nI 69) = true) (h2 : sIn s (nI 0) (nI 9) = true) (h3 : sIn nd (nI 0) (nI 1 <<< (nI n &&& 31) - nI 1) = true) : WJ (jAdd (jm (X 64)) n km s nd) T X (ud (ud (ud (ud (ud (ud (ud X 64 2 (nI (n + 1))) 64 (7 + 6 * n + 0) (km / nI 10)) 64 (7 + 6 * n + 1) (km - km / nI 10 * nI 10)) 64 (7 + 6 * n + 2) s) 64 (7 + 6 * n + 3) nd) 64 (7 + 6 * n + 4) (nI 0)) 64 (7 + 6 * n + 5) (nI 0)) := by
  obtain ⟨g1, g2⟩ := km_q h1
  rw [ud_comm (a := 2) (b := 7 + 6 * n + 0) (by omega), ud_comm (a := 2) (b := 7 + 6 * n + 1) (by omega), ud_comm (a := 2) (b := 7 + 6 * n + 2) (by omega), ud_comm (a := 2) (b := 7 + 6 * n + 3) (by omega), ud_comm (a := 2) (b := 7 + 6 * n + 4) (by omega), ud_comm (a := 2) (b := 7 + 6 * n + 5) (by omega)]
  have w1 := wKind (k := n) (p := 7 + 6 * n + 0) hI rfl h8 g1 (by omega)
  have w2 := wM (k := n) (p := 7 + 6 * n + 1) w1.rk w1.j h8 g2 (by omega)
  have w3 := wSc (k := n) (p := 7 + 6 * n + 2) w2.rk w2.j h8 (sIn_isN (by omega) (by omega) h2) (by omega)
  have w4 := wNeeds (k := n) (p := 7 + 6 * n + 3) w3.rk w3.j h8 (needs_lt (by omega) h3) (by omega)
  have w := w1.trans (w2.trans (w3.trans w4))
  clear w1 w2 w3 w4
  revert w
  generalize ud (ud (ud (ud X 64 (7 + 6 * n + 0) (km / nI 10)) 64 (7 + 6 * n + 1) (km - km / nI 10 * nI 10)) 64 (7 + 6 * n + 2) s) 64 (7 + 6 * n + 3) nd = Y
  intro w
  have hnY : nN (Y 64 2) = n := by
    have e : jn (jm (Y 64)) = n := by rw [w.j]; exact hn
    exact e
  have hY2 : Y 64 2 = nI n := by rw [← hnY]; exact w.rk.n
  -- the flags of the new step
  have f1 : jm (ud Y 64 (7 + 6 * n + 4) (nI 0) 64) = jm (Y 64) := jm_offD (k := n) (by omega) h8 (fun q hq => by rw [ud_same, u1_ne (by omega)])
  have k1 : RK T (ud Y 64 (7 + 6 * n + 4) (nI 0) 64) := by rw [ud_same]; exact w.rk.updF (by omega) (Or.inl rfl) (by rw [← ud_same, f1]; exact w.rk.ij)
  have f2 : jm (ud (ud Y 64 (7 + 6 * n + 4) (nI 0)) 64 (7 + 6 * n + 5) (nI 0) 64) = jm (Y 64) := by
    rw [← f1]
    exact jm_offW (k := n) (by rw [ud_same, u1_ne (by omega)]; omega) h8 (fun q hq => by rw [ud_same, u1_ne (by omega)])
  have k2 : RK T (ud (ud Y 64 (7 + 6 * n + 4) (nI 0)) 64 (7 + 6 * n + 5) (nI 0) 64) := by rw [ud_same]; exact k1.updF (by omega) (Or.inl rfl) (by rw [← ud_same, f2]; exact w.rk.ij)
  revert f2 k2
  have hoff : ∀ c, c ≠ 64 → ud (ud Y 64 (7 + 6 * n + 4) (nI 0)) 64 (7 + 6 * n + 5) (nI 0) c = X c := fun c hc => by rw [ud_ne hc, ud_ne hc]; exact w.off hc
  have hhi : ∀ k, 125 ≤ k → ud (ud Y 64 (7 + 6 * n + 4) (nI 0)) 64 (7 + 6 * n + 5) (nI 0) 64 k = X 64 k := fun k hk => by rw [ud_same, u1_ne (by omega), ud_same, u1_ne (by omega)]; exact w.2.2.2 k hk
  have hV2 : ud (ud Y 64 (7 + 6 * n + 4) (nI 0)) 64 (7 + 6 * n + 5) (nI 0) 64 2 = nI n := by rw [ud_same, u1_ne (by omega), ud_same, u1_ne (by omega)]; exact hY2
  have hVD : ud (ud Y 64 (7 + 6 * n + 4) (nI 0)) 64 (7 + 6 * n + 5) (nI 0) 64 (11 + 6 * n) = nI 0 := by rw [ud_same, u1_ne (by omega), ud_same, show 11 + 6 * n = 7 + 6 * n + 4 by omega, u1_same]
  have hVW : ud (ud Y 64 (7 + 6 * n + 4) (nI 0)) 64 (7 + 6 * n + 5) (nI 0) 64 (12 + 6 * n) = nI 0 := by rw [ud_same, show 12 + 6 * n = 7 + 6 * n + 5 by omega, u1_same]
  clear f1 k1
  revert hoff hhi hV2 hVD hVW
  generalize ud (ud Y 64 (7 + 6 * n + 4) (nI 0)) 64 (7 + 6 * n + 5) (nI 0) = V
  intro hoff hhi hV2 hVD hVW f2 k2
  have f3 : jm (ud V 64 2 (nI (n + 1)) 64) = ud (jm (V 64)) 0 1 (nI (n + 1)) := jm_uN h8 hV2 hVD hVW (fun q hq => by rw [ud_same, u1_ne hq]) (by rw [ud_same, u1_same])
  have fj : jm (ud V 64 2 (nI (n + 1)) 64) = jAdd (jm (X 64)) n km s nd := by
    rw [f3, f2, w.j]
    rfl
  refine ⟨fj, ?_, fun c hc => by rw [ud_ne hc]; exact hoff c hc, fun k hk => by rw [ud_same, u1_ne (by omega)]; exact hhi k hk⟩
  rw [ud_same]
  refine k2.upd (by omega) (fun i hi => ⟨by omega, by omega⟩) ?_
  rw [← ud_same, fj]
  subst hn
  exact hI.ij.add h8 h1 h2 h3
set_option maxRecDepth 100000 in
set_option maxHeartbeats 4000000 in
theorem l_rStep (d : Nat) (X Z : Nat → Nat → Int32) {T : Nat} (hI : RK T (X 64)) (km s nd : Int32) : EC (d + 3) 126 [.ref 63, .int km, .int s, .int nd] (Wd X Z) (fun r => if sStepOk (jm (X 64) 0 1) km s nd = true then (if jn (jm (X 64)) < 8 then RNJ (nI (jn (jm (X 64)))) (jAdd (jm (X 64)) (jn (jm (X 64))) km s nd) T X r else RI (sErr 4) (yErr X 4) r) else RI (sErr 1) (yErr X 1) r) := by
  obtain ⟨n, hn⟩ : ∃ n, jn (jm (X 64)) = n := ⟨_, rfl⟩
  have hJ : jm (X 64) 0 1 = nI n := by rw [← hn]; exact hI.ij.n.1
  have hn8 : n ≤ 8 := by rw [← hn]; exact jn8 hI.ij
  have hX2 : X 64 2 = nI n := hJ
  rw [hn]
  refine er_enter (L := [(0, _), (1, _), (2, _), (3, _)]) rfl rfl rfl ?_
  refine er_loc (pc' := 1) rfl rfl rfl ?_
  refine er_gf (pc' := 4) (_) rfl rfl rfl rfl rfl ?_
  refine er_k (pc' := 5) (nI 2) rfl rfl rfl ?_
  refine er_ia (pc' := 6) (2) rfl rfl rfl rfl (by omega) rfl rfl ?_
  rw [hX2]
  refine er_loc (pc' := 8) (L' := [(4, _), (0, _), (1, _), (2, _), (3, _)]) rfl rfl rfl ?_
  refine er_loc (pc' := 9) rfl rfl rfl ?_
  refine er_cSi (pc' := 12) (rest := []) rfl rfl rfl (l_isKm _ _ _) ?_
  refine er_if_eqb (pc' := 15) rfl rfl (fun h12 => ?_) (fun h12 => ?_)
  · refine er_loc (pc' := 40) rfl rfl rfl ?_
    refine er_ldc (pc' := 42) (-1000000001) rfl rfl rfl rfl rfl ?_
    refine er_cIz (pc' := 45) (rest := []) 12 rfl rfl rfl rfl rfl rfl (l_rError1 _ _ _) ?_
    intro Z9
    refine er_iret rfl rfl ?_
    have e : sStepOk (jm (X 64) 0 1) km s nd = false := by unfold sStepOk; rw [hJ]; simp_all
    rw [e, if_neg (by decide)]
    exact RI_of rfl rfl
  · refine er_loc (pc' := 16) rfl rfl rfl ?_
    refine er_k (pc' := 17) (nI 0) rfl rfl rfl ?_
    refine er_k (pc' := 19) (nI 9) rfl rfl rfl ?_
    refine er_cSi (pc' := 22) (rest := []) rfl rfl rfl (l_in _ _ _ _ _) ?_
    refine er_if_eqb (pc' := 25) rfl rfl (fun h22 => ?_) (fun h22 => ?_)
    · refine er_loc (pc' := 40) rfl rfl rfl ?_
      refine er_ldc (pc' := 42) (-1000000001) rfl rfl rfl rfl rfl ?_
      refine er_cIz (pc' := 45) (rest := []) 12 rfl rfl rfl rfl rfl rfl (l_rError1 _ _ _) ?_
      intro Z9
      refine er_iret rfl rfl ?_
      have e : sStepOk (jm (X 64) 0 1) km s nd = false := by unfold sStepOk; rw [hJ]; simp_all
      rw [e, if_neg (by decide)]
      exact RI_of rfl rfl
    · refine er_loc (pc' := 26) rfl rfl rfl ?_
      refine er_k (pc' := 27) (nI 0) rfl rfl rfl ?_
      refine er_k (pc' := 28) (nI 1) rfl rfl rfl ?_
      refine er_loc (pc' := 30) rfl rfl rfl ?_
      refine er_ishl (pc' := 31) rfl rfl ?_
      refine er_k (pc' := 32) (nI 1) rfl rfl rfl ?_
      refine er_isub (pc' := 33) rfl rfl ?_
      refine er_cSi (pc' := 36) (rest := []) rfl rfl rfl (l_in _ _ _ _ _) ?_
      refine er_if_neb (pc' := 39) rfl rfl (fun h36 => ?_) (fun h36 => ?_)
      · refine er_loc (pc' := 48) rfl rfl rfl ?_
        refine er_k (pc' := 50) (nI 8) rfl rfl rfl ?_
        refine er_cm_ne (pc' := 53) rfl rfl (fun h50 => ?_) (fun h50 => ?_)
        · have h8 : n < 8 := by
            rcases Nat.lt_or_ge n 8 with h | h
            · exact h
            · exact absurd (show nI n = nI 8 by rw [show n = 8 by omega]) h50
          refine er_loc (pc' := 61) rfl rfl rfl ?_
          refine er_gf (pc' := 64) (_) rfl rfl rfl rfl rfl ?_
          refine er_k (pc' := 65) (nI 2) rfl rfl rfl ?_
          refine er_pure (pc' := 66) rfl rfl rfl ?_
          refine er_ia (pc' := 67) (2) rfl rfl rfl rfl (by omega) rfl rfl ?_
          rw [hX2]
          refine er_k (pc' := 68) (nI 1) rfl rfl rfl ?_
          refine er_iadd (pc' := 69) rfl rfl ?_
          rw [nI_add n 1]
          refine er_isX (pc' := 70) (2) rfl rfl (fun _ => rfl) rfl (by omega) rfl rfl ?_
          refine er_loc (pc' := 71) rfl rfl rfl ?_
          refine er_loc (pc' := 73) rfl rfl rfl ?_
          refine er_k (pc' := 74) (nI 0) rfl rfl rfl ?_
          refine er_loc (pc' := 75) rfl rfl rfl ?_
          refine er_k (pc' := 77) (nI 10) rfl rfl rfl ?_
          refine er_idiv (pc' := 78) rfl rfl (by decide) ?_
          refine er_cIv (pc' := 81) (rest := []) 12 rfl rfl rfl rfl rfl rfl (l_rLets _ _ _ (show n < 8 by omega) (show 0 < 6 by omega) _) ?_
          intro Z7
          refine er_loc (pc' := 82) rfl rfl rfl ?_
          refine er_loc (pc' := 84) rfl rfl rfl ?_
          refine er_k (pc' := 85) (nI 1) rfl rfl rfl ?_
          refine er_loc (pc' := 86) rfl rfl rfl ?_
          refine er_k (pc' := 88) (nI 10) rfl rfl rfl ?_
          refine er_irem (pc' := 89) rfl rfl (by decide) ?_
          refine er_cIv (pc' := 92) (rest := []) 12 rfl rfl rfl rfl rfl rfl (l_rLets _ _ _ (show n < 8 by omega) (show 1 < 6 by omega) _) ?_
          intro Z7
          refine er_loc (pc' := 93) rfl rfl rfl ?_
          refine er_loc (pc' := 95) rfl rfl rfl ?_
          refine er_k (pc' := 96) (nI 2) rfl rfl rfl ?_
          refine er_loc (pc' := 97) rfl rfl rfl ?_
          refine er_cIv (pc' := 100) (rest := []) 12 rfl rfl rfl rfl rfl rfl (l_rLets _ _ _ (show n < 8 by omega) (show 2 < 6 by omega) _) ?_
          intro Z7
          refine er_loc (pc' := 101) rfl rfl rfl ?_
          refine er_loc (pc' := 103) rfl rfl rfl ?_
          refine er_k (pc' := 104) (nI 3) rfl rfl rfl ?_
          refine er_loc (pc' := 105) rfl rfl rfl ?_
          refine er_cIv (pc' := 108) (rest := []) 12 rfl rfl rfl rfl rfl rfl (l_rLets _ _ _ (show n < 8 by omega) (show 3 < 6 by omega) _) ?_
          intro Z7
          refine er_loc (pc' := 109) rfl rfl rfl ?_
          refine er_loc (pc' := 111) rfl rfl rfl ?_
          refine er_k (pc' := 112) (nI 4) rfl rfl rfl ?_
          refine er_k (pc' := 113) (nI 0) rfl rfl rfl ?_
          refine er_cIv (pc' := 116) (rest := []) 12 rfl rfl rfl rfl rfl rfl (l_rLets _ _ _ (show n < 8 by omega) (show 4 < 6 by omega) _) ?_
          intro Z7
          refine er_loc (pc' := 117) rfl rfl rfl ?_
          refine er_loc (pc' := 119) rfl rfl rfl ?_
          refine er_k (pc' := 120) (nI 5) rfl rfl rfl ?_
          refine er_k (pc' := 121) (nI 0) rfl rfl rfl ?_
          refine er_cIv (pc' := 124) (rest := []) 12 rfl rfl rfl rfl rfl rfl (l_rLets _ _ _ (show n < 8 by omega) (show 5 < 6 by omega) _) ?_
          intro Z7
          refine er_loc (pc' := 126) rfl rfl rfl ?_
          refine er_iret rfl rfl ?_
          have e : sStepOk (jm (X 64) 0 1) km s nd = true := by unfold sStepOk; rw [hJ, h12, h22, h36]; rfl
          rw [if_pos e, if_pos h8]
          exact RNJ_of rfl (step_WJ hI hn h8 h12 h22 h36)
        · have h8n : n = 8 := nIj (by omega) (by omega) h50
          refine er_loc (pc' := 54) rfl rfl rfl ?_
          refine er_ldc (pc' := 56) (-1000000004) rfl rfl rfl rfl rfl ?_
          refine er_cIz (pc' := 59) (rest := []) 12 rfl rfl rfl rfl rfl rfl (l_rError4 _ _ _) ?_
          intro Z9
          refine er_iret rfl rfl ?_
          have e : sStepOk (jm (X 64) 0 1) km s nd = true := by unfold sStepOk; rw [hJ, h12, h22, h36]; rfl
          rw [if_pos e, if_neg (show ¬ n < 8 by omega)]
          exact RI_of rfl rfl
      · refine er_loc (pc' := 40) rfl rfl rfl ?_
        refine er_ldc (pc' := 42) (-1000000001) rfl rfl rfl rfl rfl ?_
        refine er_cIz (pc' := 45) (rest := []) 12 rfl rfl rfl rfl rfl rfl (l_rError1 _ _ _) ?_
        intro Z9
        refine er_iret rfl rfl ?_
        have e : sStepOk (jm (X 64) 0 1) km s nd = false := by unfold sStepOk; rw [hJ]; simp_all
        rw [e, if_neg (by decide)]
        exact RI_of rfl rfl
