/-! THE REFERENCE: what its row says when a place of it changes -/
def fl (v : Int32) : Prop := v = nI 0 ∨ v = nI 1
def aOK (a w : Int32) : Prop := (a = nI 1 ∧ ¬ w < 0) ∨ (a = nI 2 ∧ (w = nI 0 ∨ w = nI 1 ∨ w = nI 2)) ∨ a = nI 3 ∨ okSg a
def tOK (R : Nat → Int32) (p : Nat) : Prop := ∀ k, k < nN (R p) → aOK (R (p + 1 + k)) (R (p + 51 + k))
def RK (T : Nat) (R : Nat → Int32) : Prop := IJ T (jm R) ∧ (∀ i, i < 8 → fl (R (11 + 6 * i)) ∧ fl (R (12 + 6 * i))) ∧ tOK R 125 ∧ tOK R 226
theorem RK.ij {T : Nat} {R : Nat → Int32} (h : RK T R) : IJ T (jm R) := h.1
theorem RK.fD {T : Nat} {R : Nat → Int32} (h : RK T R) {i : Nat} (hi : i < 8) : fl (R (11 + 6 * i)) := (h.2.1 i hi).1
theorem RK.fW {T : Nat} {R : Nat → Int32} (h : RK T R) {i : Nat} (hi : i < 8) : fl (R (12 + 6 * i)) := (h.2.1 i hi).2
theorem RK.n8 {T : Nat} {R : Nat → Int32} (h : RK T R) : nN (R 2) ≤ 8 := h.1.n.2
theorem RK.n {T : Nat} {R : Nat → Int32} (h : RK T R) : R 2 = nI (jn (jm R)) := h.1.n.1
theorem rB_cong {R R' : Nat → Int32} {p : Nat} : ∀ {n : Nat}, (∀ i, i < n → R (p + 6 * i) = R' (p + 6 * i)) → rB R p n = rB R' p n
  | 0, _ => rfl
  | n + 1, h => by
    show _ ||| _ = _ ||| _
    rw [rB_cong (fun i hi => h i (by omega)), h n (by omega)]
theorem fl_b {v : Int32} (h : fl v) : v = bI (decide (v = nI 1)) := by
  rcases h with h | h <;> subst h <;> decide +kernel
theorem fl_bI (c : Bool) : fl (bI c) := by cases c; exact Or.inl rfl; exact Or.inr rfl
theorem sh0 {k : Nat} (h : k < 32) : nI 0 <<< (nI k &&& 31) = nI 0 := fin32 (p := fun k => nI 0 <<< (nI k &&& 31) = nI 0) h (by decide +kernel)
theorem bt_shl {v : Int32} {k : Nat} (hv : fl v) (hk : k < 32) (i : Nat) : bt (v <<< (nI k &&& 31)) i = (decide (v = nI 1) && decide (i = k)) := by
  rcases hv with h | h
  · subst h
    rw [sh0 hk, bt_0, show decide (nI 0 = nI 1) = false from by decide +kernel]
    rfl
  · subst h
    rw [bt_one hk, show decide (nI 1 = nI 1) = true from by decide +kernel]
    rfl
theorem bt_rB {R : Nat → Int32} {p : Nat} : ∀ {n : Nat}, n ≤ 8 → (∀ i, i < n → fl (R (p + 6 * i))) → ∀ i, bt (rB R p n) i = (decide (i < n) && decide (R (p + 6 * i) = nI 1))
  | 0, _, _, i => by
    rw [show rB R p 0 = nI 0 from rfl, bt_0, decide_eq_false (by omega)]
    rfl
  | n + 1, hn, hf, i => by
    rw [show rB R p (n + 1) = rB R p n ||| (R (p + 6 * n) <<< (nI n &&& 31)) from rfl, bt_or, bt_rB (by omega) (fun j hj => hf j (by omega)) i, bt_shl (hf n (by omega)) (by omega)]
    by_cases h1 : i = n
    · subst h1
      rw [decide_eq_false (Nat.lt_irrefl i), decide_eq_true (Nat.lt_succ_self i)]
      simp
    · have e : decide (i < n + 1) = decide (i < n) := decide_eq_decide.mpr (by omega)
      rw [e, decide_eq_false h1]
      simp
theorem rB_set {R : Nat → Int32} {p n k : Nat} {c : Bool} (hn : n ≤ 8) (hk : k < n) (hf : ∀ i, i < n → fl (R (p + 6 * i))) : rB (u1 R (p + 6 * k) (bI c)) p n = sWith (rB R p n) (nI k) c := by
  apply bt_ext
  intro i _
  have hf2 : ∀ i, i < n → fl (u1 R (p + 6 * k) (bI c) (p + 6 * i)) := by
    intro i hi
    rw [u1_at]
    split
    · exact fl_bI c
    · exact hf i hi
  rw [bt_rB hn hf2, bt_with (by omega), bt_rB hn hf, u1_at]
  by_cases h : i = k
  · subst h
    rw [if_pos rfl, if_pos rfl, decide_eq_true hk]
    cases c <;> decide +kernel
  · rw [if_neg (by omega), if_neg h]
theorem u1_comm {f : Nat → Int32} {a b : Nat} {v w : Int32} (h : a ≠ b) : u1 (u1 f a v) b w = u1 (u1 f b w) a v := by
  funext i
  simp only [u1_at]
  by_cases h1 : i = b
  · subst h1
    rw [if_pos rfl, if_neg (Ne.symm h), if_pos rfl]
  · rw [if_neg h1, if_neg h1]
theorem jm_uMin_r {R R' : Nat → Int32} {v : Int32} (hR : R' = u1 R (0) v) : jm R' = ud (jm R) 0 10 v := by
  have ho : ∀ q, q ≠ 0 → R' q = R q := fun q hq => by rw [hR]; exact u1_ne hq
  have hv : R' (0) = v := by rw [hR, u1_same]
  funext i j
  rw [ud_at]
  have e2 : R' 2 = R 2 := ho _ (by omega)
  have e6 : rB R' 11 (nN (R' 2)) = rB R 11 (nN (R 2)) := by rw [e2]; exact rB_cong (fun i hi => ho _ (by omega))
  have e7 : rB R' 12 (nN (R' 2)) = rB R 12 (nN (R 2)) := by rw [e2]; exact rB_cong (fun i hi => ho _ (by omega))
  clear hR
  match i with
  | 0 =>
    rw [if_pos rfl]
    match j with
    | 0 => rw [if_neg (by omega)]; exact (show jm R' 0 0 = 0 from rfl).trans (show 0 = jm R 0 0 from rfl)
    | 1 => rw [if_neg (by omega)]; exact ho 2 (by omega)
    | 2 => rw [if_neg (by omega)]; exact (show jm R' 0 2 = 0 from rfl).trans (show 0 = jm R 0 2 from rfl)
    | 3 => rw [if_neg (by omega)]; exact (show jm R' 0 3 = 0 from rfl).trans (show 0 = jm R 0 3 from rfl)
    | 4 => rw [if_neg (by omega)]; exact (show jm R' 0 4 = 0 from rfl).trans (show 0 = jm R 0 4 from rfl)
    | 5 => rw [if_neg (by omega)]; exact (show jm R' 0 5 = 0 from rfl).trans (show 0 = jm R 0 5 from rfl)
    | 6 => rw [if_neg (by omega)]; exact e6
    | 7 => rw [if_neg (by omega)]; exact e7
    | 8 => rw [if_neg (by omega)]; exact ho 3 (by omega)
    | 9 => rw [if_neg (by omega)]; exact ho 4 (by omega)
    | 10 => rw [if_pos rfl]; exact hv
    | 11 => rw [if_neg (by omega)]; exact (show jm R' 0 11 = 0 from rfl).trans (show 0 = jm R 0 11 from rfl)
    | 12 => rw [if_neg (by omega)]; exact (show jm R' 0 12 = 0 from rfl).trans (show 0 = jm R 0 12 from rfl)
    | 13 => rw [if_neg (by omega)]; exact (show jm R' 0 13 = 0 from rfl).trans (show 0 = jm R 0 13 from rfl)
    | 14 => rw [if_neg (by omega)]; exact ho 5 (by omega)
    | 15 => rw [if_neg (by omega)]; exact (show jm R' 0 15 = 0 from rfl).trans (show 0 = jm R 0 15 from rfl)
    | 16 => rw [if_neg (by omega)]; exact ho 6 (by omega)
    | 17 => rw [if_neg (by omega)]; exact ho 1 (by omega)
    | j + 18 => rw [if_neg (by omega)]; exact (show jm R' 0 (j + 18) = 0 from rfl).trans (show 0 = jm R 0 (j + 18) from rfl)
  | 1 =>
    rw [if_neg (by omega)]
    show (if j < 8 then R' (7 + 6 * j) else 0) = (if j < 8 then R (7 + 6 * j) else 0)
    split
    · exact ho _ (by omega)
    · rfl
  | 2 =>
    rw [if_neg (by omega)]
    show (if j < 8 then R' (8 + 6 * j) else 0) = (if j < 8 then R (8 + 6 * j) else 0)
    split
    · exact ho _ (by omega)
    · rfl
  | 3 =>
    rw [if_neg (by omega)]
    show (if j < 8 then R' (9 + 6 * j) else 0) = (if j < 8 then R (9 + 6 * j) else 0)
    split
    · exact ho _ (by omega)
    · rfl
  | 4 =>
    rw [if_neg (by omega)]
    show (if j < 8 then R' (10 + 6 * j) else 0) = (if j < 8 then R (10 + 6 * j) else 0)
    split
    · exact ho _ (by omega)
    · rfl
  | 5 =>
    rw [if_neg (by omega)]
    show (if j = 0 then R' 125 else 0) = (if j = 0 then R 125 else 0)
    rw [ho 125 (by omega)]
  | 6 =>
    rw [if_neg (by omega)]
    show (if j < nN (R' 125) then cM (R' (126 + j)) (R' (176 + j)) else 0) = (if j < nN (R 125) then cM (R (126 + j)) (R (176 + j)) else 0)
    rw [ho 125 (by omega), ho (126 + j) (by omega), ho (176 + j) (by omega)]
  | 7 =>
    rw [if_neg (by omega)]
    show (if j = 0 then R' 226 else 0) = (if j = 0 then R 226 else 0)
    rw [ho 226 (by omega)]
  | 8 =>
    rw [if_neg (by omega)]
    show (if j < nN (R' 226) then cM (R' (227 + j)) (R' (277 + j)) else 0) = (if j < nN (R 226) then cM (R (227 + j)) (R (277 + j)) else 0)
    rw [ho 226 (by omega), ho (227 + j) (by omega), ho (277 + j) (by omega)]
  | 9 =>
    rw [if_neg (by omega)]
    show (if j < 50 then R' (55 + j) else 0) = (if j < 50 then R (55 + j) else 0)
    split
    · exact ho _ (by omega)
    · rfl
  | 10 =>
    rw [if_neg (by omega)]
    show (if j < 20 then R' (105 + j) else 0) = (if j < 20 then R (105 + j) else 0)
    split
    · exact ho _ (by omega)
    · rfl
  | i + 11 =>
    rw [if_neg (by omega)]; exact (show jm R' (i + 11) j = 0 from rfl).trans (show 0 = jm R (i + 11) j from rfl)
theorem jm_uMin {R : Nat → Int32} {v : Int32} : jm (u1 R (0) v) = ud (jm R) 0 10 v := jm_uMin_r  rfl
theorem jm_uZ_r {R R' : Nat → Int32} {v : Int32} (hR : R' = u1 R (1) v) : jm R' = ud (jm R) 0 17 v := by
  have ho : ∀ q, q ≠ 1 → R' q = R q := fun q hq => by rw [hR]; exact u1_ne hq
  have hv : R' (1) = v := by rw [hR, u1_same]
  funext i j
  rw [ud_at]
  have e2 : R' 2 = R 2 := ho _ (by omega)
  have e6 : rB R' 11 (nN (R' 2)) = rB R 11 (nN (R 2)) := by rw [e2]; exact rB_cong (fun i hi => ho _ (by omega))
  have e7 : rB R' 12 (nN (R' 2)) = rB R 12 (nN (R 2)) := by rw [e2]; exact rB_cong (fun i hi => ho _ (by omega))
  clear hR
  match i with
  | 0 =>
    rw [if_pos rfl]
    match j with
    | 0 => rw [if_neg (by omega)]; exact (show jm R' 0 0 = 0 from rfl).trans (show 0 = jm R 0 0 from rfl)
    | 1 => rw [if_neg (by omega)]; exact ho 2 (by omega)
    | 2 => rw [if_neg (by omega)]; exact (show jm R' 0 2 = 0 from rfl).trans (show 0 = jm R 0 2 from rfl)
    | 3 => rw [if_neg (by omega)]; exact (show jm R' 0 3 = 0 from rfl).trans (show 0 = jm R 0 3 from rfl)
    | 4 => rw [if_neg (by omega)]; exact (show jm R' 0 4 = 0 from rfl).trans (show 0 = jm R 0 4 from rfl)
    | 5 => rw [if_neg (by omega)]; exact (show jm R' 0 5 = 0 from rfl).trans (show 0 = jm R 0 5 from rfl)
    | 6 => rw [if_neg (by omega)]; exact e6
    | 7 => rw [if_neg (by omega)]; exact e7
    | 8 => rw [if_neg (by omega)]; exact ho 3 (by omega)
    | 9 => rw [if_neg (by omega)]; exact ho 4 (by omega)
    | 10 => rw [if_neg (by omega)]; exact ho 0 (by omega)
    | 11 => rw [if_neg (by omega)]; exact (show jm R' 0 11 = 0 from rfl).trans (show 0 = jm R 0 11 from rfl)
    | 12 => rw [if_neg (by omega)]; exact (show jm R' 0 12 = 0 from rfl).trans (show 0 = jm R 0 12 from rfl)
    | 13 => rw [if_neg (by omega)]; exact (show jm R' 0 13 = 0 from rfl).trans (show 0 = jm R 0 13 from rfl)
    | 14 => rw [if_neg (by omega)]; exact ho 5 (by omega)
    | 15 => rw [if_neg (by omega)]; exact (show jm R' 0 15 = 0 from rfl).trans (show 0 = jm R 0 15 from rfl)
    | 16 => rw [if_neg (by omega)]; exact ho 6 (by omega)
    | 17 => rw [if_pos rfl]; exact hv
    | j + 18 => rw [if_neg (by omega)]; exact (show jm R' 0 (j + 18) = 0 from rfl).trans (show 0 = jm R 0 (j + 18) from rfl)
  | 1 =>
    rw [if_neg (by omega)]
    show (if j < 8 then R' (7 + 6 * j) else 0) = (if j < 8 then R (7 + 6 * j) else 0)
    split
    · exact ho _ (by omega)
    · rfl
  | 2 =>
    rw [if_neg (by omega)]
    show (if j < 8 then R' (8 + 6 * j) else 0) = (if j < 8 then R (8 + 6 * j) else 0)
    split
    · exact ho _ (by omega)
    · rfl
  | 3 =>
    rw [if_neg (by omega)]
    show (if j < 8 then R' (9 + 6 * j) else 0) = (if j < 8 then R (9 + 6 * j) else 0)
    split
    · exact ho _ (by omega)
    · rfl
  | 4 =>
    rw [if_neg (by omega)]
    show (if j < 8 then R' (10 + 6 * j) else 0) = (if j < 8 then R (10 + 6 * j) else 0)
    split
    · exact ho _ (by omega)
    · rfl
  | 5 =>
    rw [if_neg (by omega)]
    show (if j = 0 then R' 125 else 0) = (if j = 0 then R 125 else 0)
    rw [ho 125 (by omega)]
  | 6 =>
    rw [if_neg (by omega)]
    show (if j < nN (R' 125) then cM (R' (126 + j)) (R' (176 + j)) else 0) = (if j < nN (R 125) then cM (R (126 + j)) (R (176 + j)) else 0)
    rw [ho 125 (by omega), ho (126 + j) (by omega), ho (176 + j) (by omega)]
  | 7 =>
    rw [if_neg (by omega)]
    show (if j = 0 then R' 226 else 0) = (if j = 0 then R 226 else 0)
    rw [ho 226 (by omega)]
  | 8 =>
    rw [if_neg (by omega)]
    show (if j < nN (R' 226) then cM (R' (227 + j)) (R' (277 + j)) else 0) = (if j < nN (R 226) then cM (R (227 + j)) (R (277 + j)) else 0)
    rw [ho 226 (by omega), ho (227 + j) (by omega), ho (277 + j) (by omega)]
  | 9 =>
    rw [if_neg (by omega)]
    show (if j < 50 then R' (55 + j) else 0) = (if j < 50 then R (55 + j) else 0)
    split
    · exact ho _ (by omega)
    · rfl
  | 10 =>
    rw [if_neg (by omega)]
    show (if j < 20 then R' (105 + j) else 0) = (if j < 20 then R (105 + j) else 0)
    split
    · exact ho _ (by omega)
    · rfl
  | i + 11 =>
    rw [if_neg (by omega)]; exact (show jm R' (i + 11) j = 0 from rfl).trans (show 0 = jm R (i + 11) j from rfl)
theorem jm_uZ {R : Nat → Int32} {v : Int32} : jm (u1 R (1) v) = ud (jm R) 0 17 v := jm_uZ_r  rfl
theorem jm_uHands_r {R R' : Nat → Int32} {v : Int32} (hR : R' = u1 R (3) v) : jm R' = ud (jm R) 0 8 v := by
  have ho : ∀ q, q ≠ 3 → R' q = R q := fun q hq => by rw [hR]; exact u1_ne hq
  have hv : R' (3) = v := by rw [hR, u1_same]
  funext i j
  rw [ud_at]
  have e2 : R' 2 = R 2 := ho _ (by omega)
  have e6 : rB R' 11 (nN (R' 2)) = rB R 11 (nN (R 2)) := by rw [e2]; exact rB_cong (fun i hi => ho _ (by omega))
  have e7 : rB R' 12 (nN (R' 2)) = rB R 12 (nN (R 2)) := by rw [e2]; exact rB_cong (fun i hi => ho _ (by omega))
  clear hR
  match i with
  | 0 =>
    rw [if_pos rfl]
    match j with
    | 0 => rw [if_neg (by omega)]; exact (show jm R' 0 0 = 0 from rfl).trans (show 0 = jm R 0 0 from rfl)
    | 1 => rw [if_neg (by omega)]; exact ho 2 (by omega)
    | 2 => rw [if_neg (by omega)]; exact (show jm R' 0 2 = 0 from rfl).trans (show 0 = jm R 0 2 from rfl)
    | 3 => rw [if_neg (by omega)]; exact (show jm R' 0 3 = 0 from rfl).trans (show 0 = jm R 0 3 from rfl)
    | 4 => rw [if_neg (by omega)]; exact (show jm R' 0 4 = 0 from rfl).trans (show 0 = jm R 0 4 from rfl)
    | 5 => rw [if_neg (by omega)]; exact (show jm R' 0 5 = 0 from rfl).trans (show 0 = jm R 0 5 from rfl)
    | 6 => rw [if_neg (by omega)]; exact e6
    | 7 => rw [if_neg (by omega)]; exact e7
    | 8 => rw [if_pos rfl]; exact hv
    | 9 => rw [if_neg (by omega)]; exact ho 4 (by omega)
    | 10 => rw [if_neg (by omega)]; exact ho 0 (by omega)
    | 11 => rw [if_neg (by omega)]; exact (show jm R' 0 11 = 0 from rfl).trans (show 0 = jm R 0 11 from rfl)
    | 12 => rw [if_neg (by omega)]; exact (show jm R' 0 12 = 0 from rfl).trans (show 0 = jm R 0 12 from rfl)
    | 13 => rw [if_neg (by omega)]; exact (show jm R' 0 13 = 0 from rfl).trans (show 0 = jm R 0 13 from rfl)
    | 14 => rw [if_neg (by omega)]; exact ho 5 (by omega)
    | 15 => rw [if_neg (by omega)]; exact (show jm R' 0 15 = 0 from rfl).trans (show 0 = jm R 0 15 from rfl)
    | 16 => rw [if_neg (by omega)]; exact ho 6 (by omega)
    | 17 => rw [if_neg (by omega)]; exact ho 1 (by omega)
    | j + 18 => rw [if_neg (by omega)]; exact (show jm R' 0 (j + 18) = 0 from rfl).trans (show 0 = jm R 0 (j + 18) from rfl)
  | 1 =>
    rw [if_neg (by omega)]
    show (if j < 8 then R' (7 + 6 * j) else 0) = (if j < 8 then R (7 + 6 * j) else 0)
    split
    · exact ho _ (by omega)
    · rfl
  | 2 =>
    rw [if_neg (by omega)]
    show (if j < 8 then R' (8 + 6 * j) else 0) = (if j < 8 then R (8 + 6 * j) else 0)
    split
    · exact ho _ (by omega)
    · rfl
  | 3 =>
    rw [if_neg (by omega)]
    show (if j < 8 then R' (9 + 6 * j) else 0) = (if j < 8 then R (9 + 6 * j) else 0)
    split
    · exact ho _ (by omega)
    · rfl
  | 4 =>
    rw [if_neg (by omega)]
    show (if j < 8 then R' (10 + 6 * j) else 0) = (if j < 8 then R (10 + 6 * j) else 0)
    split
    · exact ho _ (by omega)
    · rfl
  | 5 =>
    rw [if_neg (by omega)]
    show (if j = 0 then R' 125 else 0) = (if j = 0 then R 125 else 0)
    rw [ho 125 (by omega)]
  | 6 =>
    rw [if_neg (by omega)]
    show (if j < nN (R' 125) then cM (R' (126 + j)) (R' (176 + j)) else 0) = (if j < nN (R 125) then cM (R (126 + j)) (R (176 + j)) else 0)
    rw [ho 125 (by omega), ho (126 + j) (by omega), ho (176 + j) (by omega)]
  | 7 =>
    rw [if_neg (by omega)]
    show (if j = 0 then R' 226 else 0) = (if j = 0 then R 226 else 0)
    rw [ho 226 (by omega)]
  | 8 =>
    rw [if_neg (by omega)]
    show (if j < nN (R' 226) then cM (R' (227 + j)) (R' (277 + j)) else 0) = (if j < nN (R 226) then cM (R (227 + j)) (R (277 + j)) else 0)
    rw [ho 226 (by omega), ho (227 + j) (by omega), ho (277 + j) (by omega)]
  | 9 =>
    rw [if_neg (by omega)]
    show (if j < 50 then R' (55 + j) else 0) = (if j < 50 then R (55 + j) else 0)
    split
    · exact ho _ (by omega)
    · rfl
  | 10 =>
    rw [if_neg (by omega)]
    show (if j < 20 then R' (105 + j) else 0) = (if j < 20 then R (105 + j) else 0)
    split
    · exact ho _ (by omega)
    · rfl
  | i + 11 =>
    rw [if_neg (by omega)]; exact (show jm R' (i + 11) j = 0 from rfl).trans (show 0 = jm R (i + 11) j from rfl)
theorem jm_uHands {R : Nat → Int32} {v : Int32} : jm (u1 R (3) v) = ud (jm R) 0 8 v := jm_uHands_r  rfl
theorem jm_uBag_r {R R' : Nat → Int32} {v : Int32} (hR : R' = u1 R (4) v) : jm R' = ud (jm R) 0 9 v := by
  have ho : ∀ q, q ≠ 4 → R' q = R q := fun q hq => by rw [hR]; exact u1_ne hq
  have hv : R' (4) = v := by rw [hR, u1_same]
  funext i j
  rw [ud_at]
  have e2 : R' 2 = R 2 := ho _ (by omega)
  have e6 : rB R' 11 (nN (R' 2)) = rB R 11 (nN (R 2)) := by rw [e2]; exact rB_cong (fun i hi => ho _ (by omega))
  have e7 : rB R' 12 (nN (R' 2)) = rB R 12 (nN (R 2)) := by rw [e2]; exact rB_cong (fun i hi => ho _ (by omega))
  clear hR
  match i with
  | 0 =>
    rw [if_pos rfl]
    match j with
    | 0 => rw [if_neg (by omega)]; exact (show jm R' 0 0 = 0 from rfl).trans (show 0 = jm R 0 0 from rfl)
    | 1 => rw [if_neg (by omega)]; exact ho 2 (by omega)
    | 2 => rw [if_neg (by omega)]; exact (show jm R' 0 2 = 0 from rfl).trans (show 0 = jm R 0 2 from rfl)
    | 3 => rw [if_neg (by omega)]; exact (show jm R' 0 3 = 0 from rfl).trans (show 0 = jm R 0 3 from rfl)
    | 4 => rw [if_neg (by omega)]; exact (show jm R' 0 4 = 0 from rfl).trans (show 0 = jm R 0 4 from rfl)
    | 5 => rw [if_neg (by omega)]; exact (show jm R' 0 5 = 0 from rfl).trans (show 0 = jm R 0 5 from rfl)
    | 6 => rw [if_neg (by omega)]; exact e6
    | 7 => rw [if_neg (by omega)]; exact e7
    | 8 => rw [if_neg (by omega)]; exact ho 3 (by omega)
    | 9 => rw [if_pos rfl]; exact hv
    | 10 => rw [if_neg (by omega)]; exact ho 0 (by omega)
    | 11 => rw [if_neg (by omega)]; exact (show jm R' 0 11 = 0 from rfl).trans (show 0 = jm R 0 11 from rfl)
    | 12 => rw [if_neg (by omega)]; exact (show jm R' 0 12 = 0 from rfl).trans (show 0 = jm R 0 12 from rfl)
    | 13 => rw [if_neg (by omega)]; exact (show jm R' 0 13 = 0 from rfl).trans (show 0 = jm R 0 13 from rfl)
    | 14 => rw [if_neg (by omega)]; exact ho 5 (by omega)
    | 15 => rw [if_neg (by omega)]; exact (show jm R' 0 15 = 0 from rfl).trans (show 0 = jm R 0 15 from rfl)
    | 16 => rw [if_neg (by omega)]; exact ho 6 (by omega)
    | 17 => rw [if_neg (by omega)]; exact ho 1 (by omega)
    | j + 18 => rw [if_neg (by omega)]; exact (show jm R' 0 (j + 18) = 0 from rfl).trans (show 0 = jm R 0 (j + 18) from rfl)
  | 1 =>
    rw [if_neg (by omega)]
    show (if j < 8 then R' (7 + 6 * j) else 0) = (if j < 8 then R (7 + 6 * j) else 0)
    split
    · exact ho _ (by omega)
    · rfl
  | 2 =>
    rw [if_neg (by omega)]
    show (if j < 8 then R' (8 + 6 * j) else 0) = (if j < 8 then R (8 + 6 * j) else 0)
    split
    · exact ho _ (by omega)
    · rfl
  | 3 =>
    rw [if_neg (by omega)]
    show (if j < 8 then R' (9 + 6 * j) else 0) = (if j < 8 then R (9 + 6 * j) else 0)
    split
    · exact ho _ (by omega)
    · rfl
  | 4 =>
    rw [if_neg (by omega)]
    show (if j < 8 then R' (10 + 6 * j) else 0) = (if j < 8 then R (10 + 6 * j) else 0)
    split
    · exact ho _ (by omega)
    · rfl
  | 5 =>
    rw [if_neg (by omega)]
    show (if j = 0 then R' 125 else 0) = (if j = 0 then R 125 else 0)
    rw [ho 125 (by omega)]
  | 6 =>
    rw [if_neg (by omega)]
    show (if j < nN (R' 125) then cM (R' (126 + j)) (R' (176 + j)) else 0) = (if j < nN (R 125) then cM (R (126 + j)) (R (176 + j)) else 0)
    rw [ho 125 (by omega), ho (126 + j) (by omega), ho (176 + j) (by omega)]
  | 7 =>
    rw [if_neg (by omega)]
    show (if j = 0 then R' 226 else 0) = (if j = 0 then R 226 else 0)
    rw [ho 226 (by omega)]
  | 8 =>
    rw [if_neg (by omega)]
    show (if j < nN (R' 226) then cM (R' (227 + j)) (R' (277 + j)) else 0) = (if j < nN (R 226) then cM (R (227 + j)) (R (277 + j)) else 0)
    rw [ho 226 (by omega), ho (227 + j) (by omega), ho (277 + j) (by omega)]
  | 9 =>
    rw [if_neg (by omega)]
    show (if j < 50 then R' (55 + j) else 0) = (if j < 50 then R (55 + j) else 0)
    split
    · exact ho _ (by omega)
    · rfl
  | 10 =>
    rw [if_neg (by omega)]
    show (if j < 20 then R' (105 + j) else 0) = (if j < 20 then R (105 + j) else 0)
    split
    · exact ho _ (by omega)
    · rfl
  | i + 11 =>
    rw [if_neg (by omega)]; exact (show jm R' (i + 11) j = 0 from rfl).trans (show 0 = jm R (i + 11) j from rfl)
theorem jm_uBag {R : Nat → Int32} {v : Int32} : jm (u1 R (4) v) = ud (jm R) 0 9 v := jm_uBag_r  rfl
theorem jm_uFed_r {R R' : Nat → Int32} {v : Int32} (hR : R' = u1 R (5) v) : jm R' = ud (jm R) 0 14 v := by
  have ho : ∀ q, q ≠ 5 → R' q = R q := fun q hq => by rw [hR]; exact u1_ne hq
  have hv : R' (5) = v := by rw [hR, u1_same]
  funext i j
  rw [ud_at]
  have e2 : R' 2 = R 2 := ho _ (by omega)
  have e6 : rB R' 11 (nN (R' 2)) = rB R 11 (nN (R 2)) := by rw [e2]; exact rB_cong (fun i hi => ho _ (by omega))
  have e7 : rB R' 12 (nN (R' 2)) = rB R 12 (nN (R 2)) := by rw [e2]; exact rB_cong (fun i hi => ho _ (by omega))
  clear hR
  match i with
  | 0 =>
    rw [if_pos rfl]
    match j with
    | 0 => rw [if_neg (by omega)]; exact (show jm R' 0 0 = 0 from rfl).trans (show 0 = jm R 0 0 from rfl)
    | 1 => rw [if_neg (by omega)]; exact ho 2 (by omega)
    | 2 => rw [if_neg (by omega)]; exact (show jm R' 0 2 = 0 from rfl).trans (show 0 = jm R 0 2 from rfl)
    | 3 => rw [if_neg (by omega)]; exact (show jm R' 0 3 = 0 from rfl).trans (show 0 = jm R 0 3 from rfl)
    | 4 => rw [if_neg (by omega)]; exact (show jm R' 0 4 = 0 from rfl).trans (show 0 = jm R 0 4 from rfl)
    | 5 => rw [if_neg (by omega)]; exact (show jm R' 0 5 = 0 from rfl).trans (show 0 = jm R 0 5 from rfl)
    | 6 => rw [if_neg (by omega)]; exact e6
    | 7 => rw [if_neg (by omega)]; exact e7
    | 8 => rw [if_neg (by omega)]; exact ho 3 (by omega)
    | 9 => rw [if_neg (by omega)]; exact ho 4 (by omega)
    | 10 => rw [if_neg (by omega)]; exact ho 0 (by omega)
    | 11 => rw [if_neg (by omega)]; exact (show jm R' 0 11 = 0 from rfl).trans (show 0 = jm R 0 11 from rfl)
    | 12 => rw [if_neg (by omega)]; exact (show jm R' 0 12 = 0 from rfl).trans (show 0 = jm R 0 12 from rfl)
    | 13 => rw [if_neg (by omega)]; exact (show jm R' 0 13 = 0 from rfl).trans (show 0 = jm R 0 13 from rfl)
    | 14 => rw [if_pos rfl]; exact hv
    | 15 => rw [if_neg (by omega)]; exact (show jm R' 0 15 = 0 from rfl).trans (show 0 = jm R 0 15 from rfl)
    | 16 => rw [if_neg (by omega)]; exact ho 6 (by omega)
    | 17 => rw [if_neg (by omega)]; exact ho 1 (by omega)
    | j + 18 => rw [if_neg (by omega)]; exact (show jm R' 0 (j + 18) = 0 from rfl).trans (show 0 = jm R 0 (j + 18) from rfl)
  | 1 =>
    rw [if_neg (by omega)]
    show (if j < 8 then R' (7 + 6 * j) else 0) = (if j < 8 then R (7 + 6 * j) else 0)
    split
    · exact ho _ (by omega)
    · rfl
  | 2 =>
    rw [if_neg (by omega)]
    show (if j < 8 then R' (8 + 6 * j) else 0) = (if j < 8 then R (8 + 6 * j) else 0)
    split
    · exact ho _ (by omega)
    · rfl
  | 3 =>
    rw [if_neg (by omega)]
    show (if j < 8 then R' (9 + 6 * j) else 0) = (if j < 8 then R (9 + 6 * j) else 0)
    split
    · exact ho _ (by omega)
    · rfl
  | 4 =>
    rw [if_neg (by omega)]
    show (if j < 8 then R' (10 + 6 * j) else 0) = (if j < 8 then R (10 + 6 * j) else 0)
    split
    · exact ho _ (by omega)
    · rfl
  | 5 =>
    rw [if_neg (by omega)]
    show (if j = 0 then R' 125 else 0) = (if j = 0 then R 125 else 0)
    rw [ho 125 (by omega)]
  | 6 =>
    rw [if_neg (by omega)]
    show (if j < nN (R' 125) then cM (R' (126 + j)) (R' (176 + j)) else 0) = (if j < nN (R 125) then cM (R (126 + j)) (R (176 + j)) else 0)
    rw [ho 125 (by omega), ho (126 + j) (by omega), ho (176 + j) (by omega)]
  | 7 =>
    rw [if_neg (by omega)]
    show (if j = 0 then R' 226 else 0) = (if j = 0 then R 226 else 0)
    rw [ho 226 (by omega)]
  | 8 =>
    rw [if_neg (by omega)]
    show (if j < nN (R' 226) then cM (R' (227 + j)) (R' (277 + j)) else 0) = (if j < nN (R 226) then cM (R (227 + j)) (R (277 + j)) else 0)
    rw [ho 226 (by omega), ho (227 + j) (by omega), ho (277 + j) (by omega)]
  | 9 =>
    rw [if_neg (by omega)]
    show (if j < 50 then R' (55 + j) else 0) = (if j < 50 then R (55 + j) else 0)
    split
    · exact ho _ (by omega)
    · rfl
  | 10 =>
    rw [if_neg (by omega)]
    show (if j < 20 then R' (105 + j) else 0) = (if j < 20 then R (105 + j) else 0)
    split
    · exact ho _ (by omega)
    · rfl
  | i + 11 =>
    rw [if_neg (by omega)]; exact (show jm R' (i + 11) j = 0 from rfl).trans (show 0 = jm R (i + 11) j from rfl)
theorem jm_uFed {R : Nat → Int32} {v : Int32} : jm (u1 R (5) v) = ud (jm R) 0 14 v := jm_uFed_r  rfl
theorem jm_uWaits_r {R R' : Nat → Int32} {v : Int32} (hR : R' = u1 R (6) v) : jm R' = ud (jm R) 0 16 v := by
  have ho : ∀ q, q ≠ 6 → R' q = R q := fun q hq => by rw [hR]; exact u1_ne hq
  have hv : R' (6) = v := by rw [hR, u1_same]
  funext i j
  rw [ud_at]
  have e2 : R' 2 = R 2 := ho _ (by omega)
  have e6 : rB R' 11 (nN (R' 2)) = rB R 11 (nN (R 2)) := by rw [e2]; exact rB_cong (fun i hi => ho _ (by omega))
  have e7 : rB R' 12 (nN (R' 2)) = rB R 12 (nN (R 2)) := by rw [e2]; exact rB_cong (fun i hi => ho _ (by omega))
  clear hR
  match i with
  | 0 =>
    rw [if_pos rfl]
    match j with
    | 0 => rw [if_neg (by omega)]; exact (show jm R' 0 0 = 0 from rfl).trans (show 0 = jm R 0 0 from rfl)
    | 1 => rw [if_neg (by omega)]; exact ho 2 (by omega)
    | 2 => rw [if_neg (by omega)]; exact (show jm R' 0 2 = 0 from rfl).trans (show 0 = jm R 0 2 from rfl)
    | 3 => rw [if_neg (by omega)]; exact (show jm R' 0 3 = 0 from rfl).trans (show 0 = jm R 0 3 from rfl)
    | 4 => rw [if_neg (by omega)]; exact (show jm R' 0 4 = 0 from rfl).trans (show 0 = jm R 0 4 from rfl)
    | 5 => rw [if_neg (by omega)]; exact (show jm R' 0 5 = 0 from rfl).trans (show 0 = jm R 0 5 from rfl)
    | 6 => rw [if_neg (by omega)]; exact e6
    | 7 => rw [if_neg (by omega)]; exact e7
    | 8 => rw [if_neg (by omega)]; exact ho 3 (by omega)
    | 9 => rw [if_neg (by omega)]; exact ho 4 (by omega)
    | 10 => rw [if_neg (by omega)]; exact ho 0 (by omega)
    | 11 => rw [if_neg (by omega)]; exact (show jm R' 0 11 = 0 from rfl).trans (show 0 = jm R 0 11 from rfl)
    | 12 => rw [if_neg (by omega)]; exact (show jm R' 0 12 = 0 from rfl).trans (show 0 = jm R 0 12 from rfl)
    | 13 => rw [if_neg (by omega)]; exact (show jm R' 0 13 = 0 from rfl).trans (show 0 = jm R 0 13 from rfl)
    | 14 => rw [if_neg (by omega)]; exact ho 5 (by omega)
    | 15 => rw [if_neg (by omega)]; exact (show jm R' 0 15 = 0 from rfl).trans (show 0 = jm R 0 15 from rfl)
    | 16 => rw [if_pos rfl]; exact hv
    | 17 => rw [if_neg (by omega)]; exact ho 1 (by omega)
    | j + 18 => rw [if_neg (by omega)]; exact (show jm R' 0 (j + 18) = 0 from rfl).trans (show 0 = jm R 0 (j + 18) from rfl)
  | 1 =>
    rw [if_neg (by omega)]
    show (if j < 8 then R' (7 + 6 * j) else 0) = (if j < 8 then R (7 + 6 * j) else 0)
    split
    · exact ho _ (by omega)
    · rfl
  | 2 =>
    rw [if_neg (by omega)]
    show (if j < 8 then R' (8 + 6 * j) else 0) = (if j < 8 then R (8 + 6 * j) else 0)
    split
    · exact ho _ (by omega)
    · rfl
  | 3 =>
    rw [if_neg (by omega)]
    show (if j < 8 then R' (9 + 6 * j) else 0) = (if j < 8 then R (9 + 6 * j) else 0)
    split
    · exact ho _ (by omega)
    · rfl
  | 4 =>
    rw [if_neg (by omega)]
    show (if j < 8 then R' (10 + 6 * j) else 0) = (if j < 8 then R (10 + 6 * j) else 0)
    split
    · exact ho _ (by omega)
    · rfl
  | 5 =>
    rw [if_neg (by omega)]
    show (if j = 0 then R' 125 else 0) = (if j = 0 then R 125 else 0)
    rw [ho 125 (by omega)]
  | 6 =>
    rw [if_neg (by omega)]
    show (if j < nN (R' 125) then cM (R' (126 + j)) (R' (176 + j)) else 0) = (if j < nN (R 125) then cM (R (126 + j)) (R (176 + j)) else 0)
    rw [ho 125 (by omega), ho (126 + j) (by omega), ho (176 + j) (by omega)]
  | 7 =>
    rw [if_neg (by omega)]
    show (if j = 0 then R' 226 else 0) = (if j = 0 then R 226 else 0)
    rw [ho 226 (by omega)]
  | 8 =>
    rw [if_neg (by omega)]
    show (if j < nN (R' 226) then cM (R' (227 + j)) (R' (277 + j)) else 0) = (if j < nN (R 226) then cM (R (227 + j)) (R (277 + j)) else 0)
    rw [ho 226 (by omega), ho (227 + j) (by omega), ho (277 + j) (by omega)]
  | 9 =>
    rw [if_neg (by omega)]
    show (if j < 50 then R' (55 + j) else 0) = (if j < 50 then R (55 + j) else 0)
    split
    · exact ho _ (by omega)
    · rfl
  | 10 =>
    rw [if_neg (by omega)]
    show (if j < 20 then R' (105 + j) else 0) = (if j < 20 then R (105 + j) else 0)
    split
    · exact ho _ (by omega)
    · rfl
  | i + 11 =>
    rw [if_neg (by omega)]; exact (show jm R' (i + 11) j = 0 from rfl).trans (show 0 = jm R (i + 11) j from rfl)
theorem jm_uWaits {R : Nat → Int32} {v : Int32} : jm (u1 R (6) v) = ud (jm R) 0 16 v := jm_uWaits_r  rfl
theorem jm_uKind_r {R R' : Nat → Int32} {v : Int32} {k : Nat} (hk : k < 8) (hR : R' = u1 R (7 + 6 * k) v) : jm R' = ud (jm R) 1 k v := by
  have ho : ∀ q, q ≠ 7 + 6 * k → R' q = R q := fun q hq => by rw [hR]; exact u1_ne hq
  have hv : R' (7 + 6 * k) = v := by rw [hR, u1_same]
  funext i j
  rw [ud_at]
  have e2 : R' 2 = R 2 := ho _ (by omega)
  have e6 : rB R' 11 (nN (R' 2)) = rB R 11 (nN (R 2)) := by rw [e2]; exact rB_cong (fun i hi => ho _ (by omega))
  have e7 : rB R' 12 (nN (R' 2)) = rB R 12 (nN (R 2)) := by rw [e2]; exact rB_cong (fun i hi => ho _ (by omega))
  clear hR
  match i with
  | 0 =>
    rw [if_neg (by omega)]
    match j with
    | 0 => exact (show jm R' 0 0 = 0 from rfl).trans (show 0 = jm R 0 0 from rfl)
    | 1 => exact ho 2 (by omega)
    | 2 => exact (show jm R' 0 2 = 0 from rfl).trans (show 0 = jm R 0 2 from rfl)
    | 3 => exact (show jm R' 0 3 = 0 from rfl).trans (show 0 = jm R 0 3 from rfl)
    | 4 => exact (show jm R' 0 4 = 0 from rfl).trans (show 0 = jm R 0 4 from rfl)
    | 5 => exact (show jm R' 0 5 = 0 from rfl).trans (show 0 = jm R 0 5 from rfl)
    | 6 => exact e6
    | 7 => exact e7
    | 8 => exact ho 3 (by omega)
    | 9 => exact ho 4 (by omega)
    | 10 => exact ho 0 (by omega)
    | 11 => exact (show jm R' 0 11 = 0 from rfl).trans (show 0 = jm R 0 11 from rfl)
    | 12 => exact (show jm R' 0 12 = 0 from rfl).trans (show 0 = jm R 0 12 from rfl)
    | 13 => exact (show jm R' 0 13 = 0 from rfl).trans (show 0 = jm R 0 13 from rfl)
    | 14 => exact ho 5 (by omega)
    | 15 => exact (show jm R' 0 15 = 0 from rfl).trans (show 0 = jm R 0 15 from rfl)
    | 16 => exact ho 6 (by omega)
    | 17 => exact ho 1 (by omega)
    | j + 18 => exact (show jm R' 0 (j + 18) = 0 from rfl).trans (show 0 = jm R 0 (j + 18) from rfl)
  | 1 =>
    rw [if_pos rfl]
    show (if j < 8 then R' (7 + 6 * j) else 0) = _
    by_cases hj : j = k
    · subst hj
      rw [if_pos hk, if_pos rfl, hv]
    · rw [if_neg hj]
      show _ = (if j < 8 then R (7 + 6 * j) else 0)
      split
      · exact ho _ (by omega)
      · rfl
  | 2 =>
    rw [if_neg (by omega)]
    show (if j < 8 then R' (8 + 6 * j) else 0) = (if j < 8 then R (8 + 6 * j) else 0)
    split
    · exact ho _ (by omega)
    · rfl
  | 3 =>
    rw [if_neg (by omega)]
    show (if j < 8 then R' (9 + 6 * j) else 0) = (if j < 8 then R (9 + 6 * j) else 0)
    split
    · exact ho _ (by omega)
    · rfl
  | 4 =>
    rw [if_neg (by omega)]
    show (if j < 8 then R' (10 + 6 * j) else 0) = (if j < 8 then R (10 + 6 * j) else 0)
    split
    · exact ho _ (by omega)
    · rfl
  | 5 =>
    rw [if_neg (by omega)]
    show (if j = 0 then R' 125 else 0) = (if j = 0 then R 125 else 0)
    rw [ho 125 (by omega)]
  | 6 =>
    rw [if_neg (by omega)]
    show (if j < nN (R' 125) then cM (R' (126 + j)) (R' (176 + j)) else 0) = (if j < nN (R 125) then cM (R (126 + j)) (R (176 + j)) else 0)
    rw [ho 125 (by omega), ho (126 + j) (by omega), ho (176 + j) (by omega)]
  | 7 =>
    rw [if_neg (by omega)]
    show (if j = 0 then R' 226 else 0) = (if j = 0 then R 226 else 0)
    rw [ho 226 (by omega)]
  | 8 =>
    rw [if_neg (by omega)]
    show (if j < nN (R' 226) then cM (R' (227 + j)) (R' (277 + j)) else 0) = (if j < nN (R 226) then cM (R (227 + j)) (R (277 + j)) else 0)
    rw [ho 226 (by omega), ho (227 + j) (by omega), ho (277 + j) (by omega)]
  | 9 =>
    rw [if_neg (by omega)]
    show (if j < 50 then R' (55 + j) else 0) = (if j < 50 then R (55 + j) else 0)
    split
    · exact ho _ (by omega)
    · rfl
  | 10 =>
    rw [if_neg (by omega)]
    show (if j < 20 then R' (105 + j) else 0) = (if j < 20 then R (105 + j) else 0)
    split
    · exact ho _ (by omega)
    · rfl
  | i + 11 =>
    rw [if_neg (by omega)]; exact (show jm R' (i + 11) j = 0 from rfl).trans (show 0 = jm R (i + 11) j from rfl)
theorem jm_uKind {R : Nat → Int32} {v : Int32} {k : Nat} (hk : k < 8) : jm (u1 R (7 + 6 * k) v) = ud (jm R) 1 k v := jm_uKind_r hk rfl
theorem jm_uM_r {R R' : Nat → Int32} {v : Int32} {k : Nat} (hk : k < 8) (hR : R' = u1 R (8 + 6 * k) v) : jm R' = ud (jm R) 2 k v := by
  have ho : ∀ q, q ≠ 8 + 6 * k → R' q = R q := fun q hq => by rw [hR]; exact u1_ne hq
  have hv : R' (8 + 6 * k) = v := by rw [hR, u1_same]
  funext i j
  rw [ud_at]
  have e2 : R' 2 = R 2 := ho _ (by omega)
  have e6 : rB R' 11 (nN (R' 2)) = rB R 11 (nN (R 2)) := by rw [e2]; exact rB_cong (fun i hi => ho _ (by omega))
  have e7 : rB R' 12 (nN (R' 2)) = rB R 12 (nN (R 2)) := by rw [e2]; exact rB_cong (fun i hi => ho _ (by omega))
  clear hR
  match i with
  | 0 =>
    rw [if_neg (by omega)]
    match j with
    | 0 => exact (show jm R' 0 0 = 0 from rfl).trans (show 0 = jm R 0 0 from rfl)
    | 1 => exact ho 2 (by omega)
    | 2 => exact (show jm R' 0 2 = 0 from rfl).trans (show 0 = jm R 0 2 from rfl)
    | 3 => exact (show jm R' 0 3 = 0 from rfl).trans (show 0 = jm R 0 3 from rfl)
    | 4 => exact (show jm R' 0 4 = 0 from rfl).trans (show 0 = jm R 0 4 from rfl)
    | 5 => exact (show jm R' 0 5 = 0 from rfl).trans (show 0 = jm R 0 5 from rfl)
    | 6 => exact e6
    | 7 => exact e7
    | 8 => exact ho 3 (by omega)
    | 9 => exact ho 4 (by omega)
    | 10 => exact ho 0 (by omega)
    | 11 => exact (show jm R' 0 11 = 0 from rfl).trans (show 0 = jm R 0 11 from rfl)
    | 12 => exact (show jm R' 0 12 = 0 from rfl).trans (show 0 = jm R 0 12 from rfl)
    | 13 => exact (show jm R' 0 13 = 0 from rfl).trans (show 0 = jm R 0 13 from rfl)
    | 14 => exact ho 5 (by omega)
    | 15 => exact (show jm R' 0 15 = 0 from rfl).trans (show 0 = jm R 0 15 from rfl)
    | 16 => exact ho 6 (by omega)
    | 17 => exact ho 1 (by omega)
    | j + 18 => exact (show jm R' 0 (j + 18) = 0 from rfl).trans (show 0 = jm R 0 (j + 18) from rfl)
  | 1 =>
    rw [if_neg (by omega)]
    show (if j < 8 then R' (7 + 6 * j) else 0) = (if j < 8 then R (7 + 6 * j) else 0)
    split
    · exact ho _ (by omega)
    · rfl
  | 2 =>
    rw [if_pos rfl]
    show (if j < 8 then R' (8 + 6 * j) else 0) = _
    by_cases hj : j = k
    · subst hj
      rw [if_pos hk, if_pos rfl, hv]
    · rw [if_neg hj]
      show _ = (if j < 8 then R (8 + 6 * j) else 0)
      split
      · exact ho _ (by omega)
      · rfl
  | 3 =>
    rw [if_neg (by omega)]
    show (if j < 8 then R' (9 + 6 * j) else 0) = (if j < 8 then R (9 + 6 * j) else 0)
    split
    · exact ho _ (by omega)
    · rfl
  | 4 =>
    rw [if_neg (by omega)]
    show (if j < 8 then R' (10 + 6 * j) else 0) = (if j < 8 then R (10 + 6 * j) else 0)
    split
    · exact ho _ (by omega)
    · rfl
  | 5 =>
    rw [if_neg (by omega)]
    show (if j = 0 then R' 125 else 0) = (if j = 0 then R 125 else 0)
    rw [ho 125 (by omega)]
  | 6 =>
    rw [if_neg (by omega)]
    show (if j < nN (R' 125) then cM (R' (126 + j)) (R' (176 + j)) else 0) = (if j < nN (R 125) then cM (R (126 + j)) (R (176 + j)) else 0)
    rw [ho 125 (by omega), ho (126 + j) (by omega), ho (176 + j) (by omega)]
  | 7 =>
    rw [if_neg (by omega)]
    show (if j = 0 then R' 226 else 0) = (if j = 0 then R 226 else 0)
    rw [ho 226 (by omega)]
  | 8 =>
    rw [if_neg (by omega)]
    show (if j < nN (R' 226) then cM (R' (227 + j)) (R' (277 + j)) else 0) = (if j < nN (R 226) then cM (R (227 + j)) (R (277 + j)) else 0)
    rw [ho 226 (by omega), ho (227 + j) (by omega), ho (277 + j) (by omega)]
  | 9 =>
    rw [if_neg (by omega)]
    show (if j < 50 then R' (55 + j) else 0) = (if j < 50 then R (55 + j) else 0)
    split
    · exact ho _ (by omega)
    · rfl
  | 10 =>
    rw [if_neg (by omega)]
    show (if j < 20 then R' (105 + j) else 0) = (if j < 20 then R (105 + j) else 0)
    split
    · exact ho _ (by omega)
    · rfl
  | i + 11 =>
    rw [if_neg (by omega)]; exact (show jm R' (i + 11) j = 0 from rfl).trans (show 0 = jm R (i + 11) j from rfl)
theorem jm_uM {R : Nat → Int32} {v : Int32} {k : Nat} (hk : k < 8) : jm (u1 R (8 + 6 * k) v) = ud (jm R) 2 k v := jm_uM_r hk rfl
theorem jm_uSc_r {R R' : Nat → Int32} {v : Int32} {k : Nat} (hk : k < 8) (hR : R' = u1 R (9 + 6 * k) v) : jm R' = ud (jm R) 3 k v := by
  have ho : ∀ q, q ≠ 9 + 6 * k → R' q = R q := fun q hq => by rw [hR]; exact u1_ne hq
  have hv : R' (9 + 6 * k) = v := by rw [hR, u1_same]
  funext i j
  rw [ud_at]
  have e2 : R' 2 = R 2 := ho _ (by omega)
  have e6 : rB R' 11 (nN (R' 2)) = rB R 11 (nN (R 2)) := by rw [e2]; exact rB_cong (fun i hi => ho _ (by omega))
  have e7 : rB R' 12 (nN (R' 2)) = rB R 12 (nN (R 2)) := by rw [e2]; exact rB_cong (fun i hi => ho _ (by omega))
  clear hR
  match i with
  | 0 =>
    rw [if_neg (by omega)]
    match j with
    | 0 => exact (show jm R' 0 0 = 0 from rfl).trans (show 0 = jm R 0 0 from rfl)
    | 1 => exact ho 2 (by omega)
    | 2 => exact (show jm R' 0 2 = 0 from rfl).trans (show 0 = jm R 0 2 from rfl)
    | 3 => exact (show jm R' 0 3 = 0 from rfl).trans (show 0 = jm R 0 3 from rfl)
    | 4 => exact (show jm R' 0 4 = 0 from rfl).trans (show 0 = jm R 0 4 from rfl)
    | 5 => exact (show jm R' 0 5 = 0 from rfl).trans (show 0 = jm R 0 5 from rfl)
    | 6 => exact e6
    | 7 => exact e7
    | 8 => exact ho 3 (by omega)
    | 9 => exact ho 4 (by omega)
    | 10 => exact ho 0 (by omega)
    | 11 => exact (show jm R' 0 11 = 0 from rfl).trans (show 0 = jm R 0 11 from rfl)
    | 12 => exact (show jm R' 0 12 = 0 from rfl).trans (show 0 = jm R 0 12 from rfl)
    | 13 => exact (show jm R' 0 13 = 0 from rfl).trans (show 0 = jm R 0 13 from rfl)
    | 14 => exact ho 5 (by omega)
    | 15 => exact (show jm R' 0 15 = 0 from rfl).trans (show 0 = jm R 0 15 from rfl)
    | 16 => exact ho 6 (by omega)
    | 17 => exact ho 1 (by omega)
    | j + 18 => exact (show jm R' 0 (j + 18) = 0 from rfl).trans (show 0 = jm R 0 (j + 18) from rfl)
  | 1 =>
    rw [if_neg (by omega)]
    show (if j < 8 then R' (7 + 6 * j) else 0) = (if j < 8 then R (7 + 6 * j) else 0)
    split
    · exact ho _ (by omega)
    · rfl
  | 2 =>
    rw [if_neg (by omega)]
    show (if j < 8 then R' (8 + 6 * j) else 0) = (if j < 8 then R (8 + 6 * j) else 0)
    split
    · exact ho _ (by omega)
    · rfl
  | 3 =>
    rw [if_pos rfl]
    show (if j < 8 then R' (9 + 6 * j) else 0) = _
    by_cases hj : j = k
    · subst hj
      rw [if_pos hk, if_pos rfl, hv]
    · rw [if_neg hj]
      show _ = (if j < 8 then R (9 + 6 * j) else 0)
      split
      · exact ho _ (by omega)
      · rfl
  | 4 =>
    rw [if_neg (by omega)]
    show (if j < 8 then R' (10 + 6 * j) else 0) = (if j < 8 then R (10 + 6 * j) else 0)
    split
    · exact ho _ (by omega)
    · rfl
  | 5 =>
    rw [if_neg (by omega)]
    show (if j = 0 then R' 125 else 0) = (if j = 0 then R 125 else 0)
    rw [ho 125 (by omega)]
  | 6 =>
    rw [if_neg (by omega)]
    show (if j < nN (R' 125) then cM (R' (126 + j)) (R' (176 + j)) else 0) = (if j < nN (R 125) then cM (R (126 + j)) (R (176 + j)) else 0)
    rw [ho 125 (by omega), ho (126 + j) (by omega), ho (176 + j) (by omega)]
  | 7 =>
    rw [if_neg (by omega)]
    show (if j = 0 then R' 226 else 0) = (if j = 0 then R 226 else 0)
    rw [ho 226 (by omega)]
  | 8 =>
    rw [if_neg (by omega)]
    show (if j < nN (R' 226) then cM (R' (227 + j)) (R' (277 + j)) else 0) = (if j < nN (R 226) then cM (R (227 + j)) (R (277 + j)) else 0)
    rw [ho 226 (by omega), ho (227 + j) (by omega), ho (277 + j) (by omega)]
  | 9 =>
    rw [if_neg (by omega)]
    show (if j < 50 then R' (55 + j) else 0) = (if j < 50 then R (55 + j) else 0)
    split
    · exact ho _ (by omega)
    · rfl
  | 10 =>
    rw [if_neg (by omega)]
    show (if j < 20 then R' (105 + j) else 0) = (if j < 20 then R (105 + j) else 0)
    split
    · exact ho _ (by omega)
    · rfl
  | i + 11 =>
    rw [if_neg (by omega)]; exact (show jm R' (i + 11) j = 0 from rfl).trans (show 0 = jm R (i + 11) j from rfl)
theorem jm_uSc {R : Nat → Int32} {v : Int32} {k : Nat} (hk : k < 8) : jm (u1 R (9 + 6 * k) v) = ud (jm R) 3 k v := jm_uSc_r hk rfl
theorem jm_uNeeds_r {R R' : Nat → Int32} {v : Int32} {k : Nat} (hk : k < 8) (hR : R' = u1 R (10 + 6 * k) v) : jm R' = ud (jm R) 4 k v := by
  have ho : ∀ q, q ≠ 10 + 6 * k → R' q = R q := fun q hq => by rw [hR]; exact u1_ne hq
  have hv : R' (10 + 6 * k) = v := by rw [hR, u1_same]
  funext i j
  rw [ud_at]
  have e2 : R' 2 = R 2 := ho _ (by omega)
  have e6 : rB R' 11 (nN (R' 2)) = rB R 11 (nN (R 2)) := by rw [e2]; exact rB_cong (fun i hi => ho _ (by omega))
  have e7 : rB R' 12 (nN (R' 2)) = rB R 12 (nN (R 2)) := by rw [e2]; exact rB_cong (fun i hi => ho _ (by omega))
  clear hR
  match i with
  | 0 =>
    rw [if_neg (by omega)]
    match j with
    | 0 => exact (show jm R' 0 0 = 0 from rfl).trans (show 0 = jm R 0 0 from rfl)
    | 1 => exact ho 2 (by omega)
    | 2 => exact (show jm R' 0 2 = 0 from rfl).trans (show 0 = jm R 0 2 from rfl)
    | 3 => exact (show jm R' 0 3 = 0 from rfl).trans (show 0 = jm R 0 3 from rfl)
    | 4 => exact (show jm R' 0 4 = 0 from rfl).trans (show 0 = jm R 0 4 from rfl)
    | 5 => exact (show jm R' 0 5 = 0 from rfl).trans (show 0 = jm R 0 5 from rfl)
    | 6 => exact e6
    | 7 => exact e7
    | 8 => exact ho 3 (by omega)
    | 9 => exact ho 4 (by omega)
    | 10 => exact ho 0 (by omega)
    | 11 => exact (show jm R' 0 11 = 0 from rfl).trans (show 0 = jm R 0 11 from rfl)
    | 12 => exact (show jm R' 0 12 = 0 from rfl).trans (show 0 = jm R 0 12 from rfl)
    | 13 => exact (show jm R' 0 13 = 0 from rfl).trans (show 0 = jm R 0 13 from rfl)
    | 14 => exact ho 5 (by omega)
    | 15 => exact (show jm R' 0 15 = 0 from rfl).trans (show 0 = jm R 0 15 from rfl)
    | 16 => exact ho 6 (by omega)
    | 17 => exact ho 1 (by omega)
    | j + 18 => exact (show jm R' 0 (j + 18) = 0 from rfl).trans (show 0 = jm R 0 (j + 18) from rfl)
  | 1 =>
    rw [if_neg (by omega)]
    show (if j < 8 then R' (7 + 6 * j) else 0) = (if j < 8 then R (7 + 6 * j) else 0)
    split
    · exact ho _ (by omega)
    · rfl
  | 2 =>
    rw [if_neg (by omega)]
    show (if j < 8 then R' (8 + 6 * j) else 0) = (if j < 8 then R (8 + 6 * j) else 0)
    split
    · exact ho _ (by omega)
    · rfl
  | 3 =>
    rw [if_neg (by omega)]
    show (if j < 8 then R' (9 + 6 * j) else 0) = (if j < 8 then R (9 + 6 * j) else 0)
    split
    · exact ho _ (by omega)
    · rfl
  | 4 =>
    rw [if_pos rfl]
    show (if j < 8 then R' (10 + 6 * j) else 0) = _
    by_cases hj : j = k
    · subst hj
      rw [if_pos hk, if_pos rfl, hv]
    · rw [if_neg hj]
      show _ = (if j < 8 then R (10 + 6 * j) else 0)
      split
      · exact ho _ (by omega)
      · rfl
  | 5 =>
    rw [if_neg (by omega)]
    show (if j = 0 then R' 125 else 0) = (if j = 0 then R 125 else 0)
    rw [ho 125 (by omega)]
  | 6 =>
    rw [if_neg (by omega)]
    show (if j < nN (R' 125) then cM (R' (126 + j)) (R' (176 + j)) else 0) = (if j < nN (R 125) then cM (R (126 + j)) (R (176 + j)) else 0)
    rw [ho 125 (by omega), ho (126 + j) (by omega), ho (176 + j) (by omega)]
  | 7 =>
    rw [if_neg (by omega)]
    show (if j = 0 then R' 226 else 0) = (if j = 0 then R 226 else 0)
    rw [ho 226 (by omega)]
  | 8 =>
    rw [if_neg (by omega)]
    show (if j < nN (R' 226) then cM (R' (227 + j)) (R' (277 + j)) else 0) = (if j < nN (R 226) then cM (R (227 + j)) (R (277 + j)) else 0)
    rw [ho 226 (by omega), ho (227 + j) (by omega), ho (277 + j) (by omega)]
  | 9 =>
    rw [if_neg (by omega)]
    show (if j < 50 then R' (55 + j) else 0) = (if j < 50 then R (55 + j) else 0)
    split
    · exact ho _ (by omega)
    · rfl
  | 10 =>
    rw [if_neg (by omega)]
    show (if j < 20 then R' (105 + j) else 0) = (if j < 20 then R (105 + j) else 0)
    split
    · exact ho _ (by omega)
    · rfl
  | i + 11 =>
    rw [if_neg (by omega)]; exact (show jm R' (i + 11) j = 0 from rfl).trans (show 0 = jm R (i + 11) j from rfl)
theorem jm_uNeeds {R : Nat → Int32} {v : Int32} {k : Nat} (hk : k < 8) : jm (u1 R (10 + 6 * k) v) = ud (jm R) 4 k v := jm_uNeeds_r hk rfl
theorem jm_uTape_r {R R' : Nat → Int32} {v : Int32} {k : Nat} (hn : nN (R 2) ≤ 8) (hk : k < 50) (hR : R' = u1 R (55 + k) v) : jm R' = ud (jm R) 9 k v := by
  have ho : ∀ q, q ≠ 55 + k → R' q = R q := fun q hq => by rw [hR]; exact u1_ne hq
  have hv : R' (55 + k) = v := by rw [hR, u1_same]
  funext i j
  rw [ud_at]
  have e2 : R' 2 = R 2 := ho _ (by omega)
  have e6 : rB R' 11 (nN (R' 2)) = rB R 11 (nN (R 2)) := by rw [e2]; exact rB_cong (fun i hi => ho _ (by omega))
  have e7 : rB R' 12 (nN (R' 2)) = rB R 12 (nN (R 2)) := by rw [e2]; exact rB_cong (fun i hi => ho _ (by omega))
  clear hR
  match i with
  | 0 =>
    rw [if_neg (by omega)]
    match j with
    | 0 => exact (show jm R' 0 0 = 0 from rfl).trans (show 0 = jm R 0 0 from rfl)
    | 1 => exact ho 2 (by omega)
    | 2 => exact (show jm R' 0 2 = 0 from rfl).trans (show 0 = jm R 0 2 from rfl)
    | 3 => exact (show jm R' 0 3 = 0 from rfl).trans (show 0 = jm R 0 3 from rfl)
    | 4 => exact (show jm R' 0 4 = 0 from rfl).trans (show 0 = jm R 0 4 from rfl)
    | 5 => exact (show jm R' 0 5 = 0 from rfl).trans (show 0 = jm R 0 5 from rfl)
    | 6 => exact e6
    | 7 => exact e7
    | 8 => exact ho 3 (by omega)
    | 9 => exact ho 4 (by omega)
    | 10 => exact ho 0 (by omega)
    | 11 => exact (show jm R' 0 11 = 0 from rfl).trans (show 0 = jm R 0 11 from rfl)
    | 12 => exact (show jm R' 0 12 = 0 from rfl).trans (show 0 = jm R 0 12 from rfl)
    | 13 => exact (show jm R' 0 13 = 0 from rfl).trans (show 0 = jm R 0 13 from rfl)
    | 14 => exact ho 5 (by omega)
    | 15 => exact (show jm R' 0 15 = 0 from rfl).trans (show 0 = jm R 0 15 from rfl)
    | 16 => exact ho 6 (by omega)
    | 17 => exact ho 1 (by omega)
    | j + 18 => exact (show jm R' 0 (j + 18) = 0 from rfl).trans (show 0 = jm R 0 (j + 18) from rfl)
  | 1 =>
    rw [if_neg (by omega)]
    show (if j < 8 then R' (7 + 6 * j) else 0) = (if j < 8 then R (7 + 6 * j) else 0)
    split
    · exact ho _ (by omega)
    · rfl
  | 2 =>
    rw [if_neg (by omega)]
    show (if j < 8 then R' (8 + 6 * j) else 0) = (if j < 8 then R (8 + 6 * j) else 0)
    split
    · exact ho _ (by omega)
    · rfl
  | 3 =>
    rw [if_neg (by omega)]
    show (if j < 8 then R' (9 + 6 * j) else 0) = (if j < 8 then R (9 + 6 * j) else 0)
    split
    · exact ho _ (by omega)
    · rfl
  | 4 =>
    rw [if_neg (by omega)]
    show (if j < 8 then R' (10 + 6 * j) else 0) = (if j < 8 then R (10 + 6 * j) else 0)
    split
    · exact ho _ (by omega)
    · rfl
  | 5 =>
    rw [if_neg (by omega)]
    show (if j = 0 then R' 125 else 0) = (if j = 0 then R 125 else 0)
    rw [ho 125 (by omega)]
  | 6 =>
    rw [if_neg (by omega)]
    show (if j < nN (R' 125) then cM (R' (126 + j)) (R' (176 + j)) else 0) = (if j < nN (R 125) then cM (R (126 + j)) (R (176 + j)) else 0)
    rw [ho 125 (by omega), ho (126 + j) (by omega), ho (176 + j) (by omega)]
  | 7 =>
    rw [if_neg (by omega)]
    show (if j = 0 then R' 226 else 0) = (if j = 0 then R 226 else 0)
    rw [ho 226 (by omega)]
  | 8 =>
    rw [if_neg (by omega)]
    show (if j < nN (R' 226) then cM (R' (227 + j)) (R' (277 + j)) else 0) = (if j < nN (R 226) then cM (R (227 + j)) (R (277 + j)) else 0)
    rw [ho 226 (by omega), ho (227 + j) (by omega), ho (277 + j) (by omega)]
  | 9 =>
    rw [if_pos rfl]
    show (if j < 50 then R' (55 + j) else 0) = _
    by_cases hj : j = k
    · subst hj
      rw [if_pos hk, if_pos rfl, hv]
    · rw [if_neg hj]
      show _ = (if j < 50 then R (55 + j) else 0)
      split
      · exact ho _ (by omega)
      · rfl
  | 10 =>
    rw [if_neg (by omega)]
    show (if j < 20 then R' (105 + j) else 0) = (if j < 20 then R (105 + j) else 0)
    split
    · exact ho _ (by omega)
    · rfl
  | i + 11 =>
    rw [if_neg (by omega)]; exact (show jm R' (i + 11) j = 0 from rfl).trans (show 0 = jm R (i + 11) j from rfl)
theorem jm_uTape {R : Nat → Int32} {v : Int32} {k : Nat} (hn : nN (R 2) ≤ 8) (hk : k < 50) : jm (u1 R (55 + k) v) = ud (jm R) 9 k v := jm_uTape_r hn hk rfl
theorem jm_uWait_r {R R' : Nat → Int32} {v : Int32} {k : Nat} (hn : nN (R 2) ≤ 8) (hk : k < 20) (hR : R' = u1 R (105 + k) v) : jm R' = ud (jm R) 10 k v := by
  have ho : ∀ q, q ≠ 105 + k → R' q = R q := fun q hq => by rw [hR]; exact u1_ne hq
  have hv : R' (105 + k) = v := by rw [hR, u1_same]
  funext i j
  rw [ud_at]
  have e2 : R' 2 = R 2 := ho _ (by omega)
  have e6 : rB R' 11 (nN (R' 2)) = rB R 11 (nN (R 2)) := by rw [e2]; exact rB_cong (fun i hi => ho _ (by omega))
  have e7 : rB R' 12 (nN (R' 2)) = rB R 12 (nN (R 2)) := by rw [e2]; exact rB_cong (fun i hi => ho _ (by omega))
  clear hR
  match i with
  | 0 =>
    rw [if_neg (by omega)]
    match j with
    | 0 => exact (show jm R' 0 0 = 0 from rfl).trans (show 0 = jm R 0 0 from rfl)
    | 1 => exact ho 2 (by omega)
    | 2 => exact (show jm R' 0 2 = 0 from rfl).trans (show 0 = jm R 0 2 from rfl)
    | 3 => exact (show jm R' 0 3 = 0 from rfl).trans (show 0 = jm R 0 3 from rfl)
    | 4 => exact (show jm R' 0 4 = 0 from rfl).trans (show 0 = jm R 0 4 from rfl)
    | 5 => exact (show jm R' 0 5 = 0 from rfl).trans (show 0 = jm R 0 5 from rfl)
    | 6 => exact e6
    | 7 => exact e7
    | 8 => exact ho 3 (by omega)
    | 9 => exact ho 4 (by omega)
    | 10 => exact ho 0 (by omega)
    | 11 => exact (show jm R' 0 11 = 0 from rfl).trans (show 0 = jm R 0 11 from rfl)
    | 12 => exact (show jm R' 0 12 = 0 from rfl).trans (show 0 = jm R 0 12 from rfl)
    | 13 => exact (show jm R' 0 13 = 0 from rfl).trans (show 0 = jm R 0 13 from rfl)
    | 14 => exact ho 5 (by omega)
    | 15 => exact (show jm R' 0 15 = 0 from rfl).trans (show 0 = jm R 0 15 from rfl)
    | 16 => exact ho 6 (by omega)
    | 17 => exact ho 1 (by omega)
    | j + 18 => exact (show jm R' 0 (j + 18) = 0 from rfl).trans (show 0 = jm R 0 (j + 18) from rfl)
  | 1 =>
    rw [if_neg (by omega)]
    show (if j < 8 then R' (7 + 6 * j) else 0) = (if j < 8 then R (7 + 6 * j) else 0)
    split
    · exact ho _ (by omega)
    · rfl
  | 2 =>
    rw [if_neg (by omega)]
    show (if j < 8 then R' (8 + 6 * j) else 0) = (if j < 8 then R (8 + 6 * j) else 0)
    split
    · exact ho _ (by omega)
    · rfl
  | 3 =>
    rw [if_neg (by omega)]
    show (if j < 8 then R' (9 + 6 * j) else 0) = (if j < 8 then R (9 + 6 * j) else 0)
    split
    · exact ho _ (by omega)
    · rfl
  | 4 =>
    rw [if_neg (by omega)]
    show (if j < 8 then R' (10 + 6 * j) else 0) = (if j < 8 then R (10 + 6 * j) else 0)
    split
    · exact ho _ (by omega)
    · rfl
  | 5 =>
    rw [if_neg (by omega)]
    show (if j = 0 then R' 125 else 0) = (if j = 0 then R 125 else 0)
    rw [ho 125 (by omega)]
  | 6 =>
    rw [if_neg (by omega)]
    show (if j < nN (R' 125) then cM (R' (126 + j)) (R' (176 + j)) else 0) = (if j < nN (R 125) then cM (R (126 + j)) (R (176 + j)) else 0)
    rw [ho 125 (by omega), ho (126 + j) (by omega), ho (176 + j) (by omega)]
  | 7 =>
    rw [if_neg (by omega)]
    show (if j = 0 then R' 226 else 0) = (if j = 0 then R 226 else 0)
    rw [ho 226 (by omega)]
  | 8 =>
    rw [if_neg (by omega)]
    show (if j < nN (R' 226) then cM (R' (227 + j)) (R' (277 + j)) else 0) = (if j < nN (R 226) then cM (R (227 + j)) (R (277 + j)) else 0)
    rw [ho 226 (by omega), ho (227 + j) (by omega), ho (277 + j) (by omega)]
  | 9 =>
    rw [if_neg (by omega)]
    show (if j < 50 then R' (55 + j) else 0) = (if j < 50 then R (55 + j) else 0)
    split
    · exact ho _ (by omega)
    · rfl
  | 10 =>
    rw [if_pos rfl]
    show (if j < 20 then R' (105 + j) else 0) = _
    by_cases hj : j = k
    · subst hj
      rw [if_pos hk, if_pos rfl, hv]
    · rw [if_neg hj]
      show _ = (if j < 20 then R (105 + j) else 0)
      split
      · exact ho _ (by omega)
      · rfl
  | i + 11 =>
    rw [if_neg (by omega)]; exact (show jm R' (i + 11) j = 0 from rfl).trans (show 0 = jm R (i + 11) j from rfl)
theorem jm_uWait {R : Nat → Int32} {v : Int32} {k : Nat} (hn : nN (R 2) ≤ 8) (hk : k < 20) : jm (u1 R (105 + k) v) = ud (jm R) 10 k v := jm_uWait_r hn hk rfl
theorem jm_uDone_r {R R' : Nat → Int32} {k : Nat} {c : Bool} (hn : nN (R 2) ≤ 8) (hk : k < nN (R 2)) (hf : ∀ i, i < nN (R 2) → fl (R (11 + 6 * i))) (hR : R' = u1 R (11 + 6 * k) (bI c)) : jm R' = ud (jm R) 0 6 (sWith (jm R 0 6) (nI k) c) := by
  have ho : ∀ q, q ≠ 11 + 6 * k → R' q = R q := fun q hq => by rw [hR]; exact u1_ne hq
  have hv : R' (11 + 6 * k) = (bI c) := by rw [hR, u1_same]
  funext i j
  rw [ud_at]
  have e2 : R' 2 = R 2 := ho _ (by omega)
  have e6 : rB R' 11 (nN (R' 2)) = sWith (jm R 0 6) (nI k) c := by rw [e2, hR]; exact rB_set hn hk hf
  have e7 : rB R' 12 (nN (R' 2)) = rB R 12 (nN (R 2)) := by rw [e2]; exact rB_cong (fun i hi => ho _ (by omega))
  clear hR
  match i with
  | 0 =>
    rw [if_pos rfl]
    match j with
    | 0 => rw [if_neg (by omega)]; exact (show jm R' 0 0 = 0 from rfl).trans (show 0 = jm R 0 0 from rfl)
    | 1 => rw [if_neg (by omega)]; exact ho 2 (by omega)
    | 2 => rw [if_neg (by omega)]; exact (show jm R' 0 2 = 0 from rfl).trans (show 0 = jm R 0 2 from rfl)
    | 3 => rw [if_neg (by omega)]; exact (show jm R' 0 3 = 0 from rfl).trans (show 0 = jm R 0 3 from rfl)
    | 4 => rw [if_neg (by omega)]; exact (show jm R' 0 4 = 0 from rfl).trans (show 0 = jm R 0 4 from rfl)
    | 5 => rw [if_neg (by omega)]; exact (show jm R' 0 5 = 0 from rfl).trans (show 0 = jm R 0 5 from rfl)
    | 6 => rw [if_pos rfl]; exact e6
    | 7 => rw [if_neg (by omega)]; exact e7
    | 8 => rw [if_neg (by omega)]; exact ho 3 (by omega)
    | 9 => rw [if_neg (by omega)]; exact ho 4 (by omega)
    | 10 => rw [if_neg (by omega)]; exact ho 0 (by omega)
    | 11 => rw [if_neg (by omega)]; exact (show jm R' 0 11 = 0 from rfl).trans (show 0 = jm R 0 11 from rfl)
    | 12 => rw [if_neg (by omega)]; exact (show jm R' 0 12 = 0 from rfl).trans (show 0 = jm R 0 12 from rfl)
    | 13 => rw [if_neg (by omega)]; exact (show jm R' 0 13 = 0 from rfl).trans (show 0 = jm R 0 13 from rfl)
    | 14 => rw [if_neg (by omega)]; exact ho 5 (by omega)
    | 15 => rw [if_neg (by omega)]; exact (show jm R' 0 15 = 0 from rfl).trans (show 0 = jm R 0 15 from rfl)
    | 16 => rw [if_neg (by omega)]; exact ho 6 (by omega)
    | 17 => rw [if_neg (by omega)]; exact ho 1 (by omega)
    | j + 18 => rw [if_neg (by omega)]; exact (show jm R' 0 (j + 18) = 0 from rfl).trans (show 0 = jm R 0 (j + 18) from rfl)
  | 1 =>
    rw [if_neg (by omega)]
    show (if j < 8 then R' (7 + 6 * j) else 0) = (if j < 8 then R (7 + 6 * j) else 0)
    split
    · exact ho _ (by omega)
    · rfl
  | 2 =>
    rw [if_neg (by omega)]
    show (if j < 8 then R' (8 + 6 * j) else 0) = (if j < 8 then R (8 + 6 * j) else 0)
    split
    · exact ho _ (by omega)
    · rfl
  | 3 =>
    rw [if_neg (by omega)]
    show (if j < 8 then R' (9 + 6 * j) else 0) = (if j < 8 then R (9 + 6 * j) else 0)
    split
    · exact ho _ (by omega)
    · rfl
  | 4 =>
    rw [if_neg (by omega)]
    show (if j < 8 then R' (10 + 6 * j) else 0) = (if j < 8 then R (10 + 6 * j) else 0)
    split
    · exact ho _ (by omega)
    · rfl
  | 5 =>
    rw [if_neg (by omega)]
    show (if j = 0 then R' 125 else 0) = (if j = 0 then R 125 else 0)
    rw [ho 125 (by omega)]
  | 6 =>
    rw [if_neg (by omega)]
    show (if j < nN (R' 125) then cM (R' (126 + j)) (R' (176 + j)) else 0) = (if j < nN (R 125) then cM (R (126 + j)) (R (176 + j)) else 0)
    rw [ho 125 (by omega), ho (126 + j) (by omega), ho (176 + j) (by omega)]
  | 7 =>
    rw [if_neg (by omega)]
    show (if j = 0 then R' 226 else 0) = (if j = 0 then R 226 else 0)
    rw [ho 226 (by omega)]
  | 8 =>
    rw [if_neg (by omega)]
    show (if j < nN (R' 226) then cM (R' (227 + j)) (R' (277 + j)) else 0) = (if j < nN (R 226) then cM (R (227 + j)) (R (277 + j)) else 0)
    rw [ho 226 (by omega), ho (227 + j) (by omega), ho (277 + j) (by omega)]
  | 9 =>
    rw [if_neg (by omega)]
    show (if j < 50 then R' (55 + j) else 0) = (if j < 50 then R (55 + j) else 0)
    split
    · exact ho _ (by omega)
    · rfl
  | 10 =>
    rw [if_neg (by omega)]
    show (if j < 20 then R' (105 + j) else 0) = (if j < 20 then R (105 + j) else 0)
    split
    · exact ho _ (by omega)
    · rfl
  | i + 11 =>
    rw [if_neg (by omega)]; exact (show jm R' (i + 11) j = 0 from rfl).trans (show 0 = jm R (i + 11) j from rfl)
theorem jm_uDone {R : Nat → Int32} {k : Nat} {c : Bool} (hn : nN (R 2) ≤ 8) (hk : k < nN (R 2)) (hf : ∀ i, i < nN (R 2) → fl (R (11 + 6 * i))) : jm (u1 R (11 + 6 * k) (bI c)) = ud (jm R) 0 6 (sWith (jm R 0 6) (nI k) c) := jm_uDone_r hn hk hf rfl
theorem jm_uWrong_r {R R' : Nat → Int32} {k : Nat} {c : Bool} (hn : nN (R 2) ≤ 8) (hk : k < nN (R 2)) (hf : ∀ i, i < nN (R 2) → fl (R (12 + 6 * i))) (hR : R' = u1 R (12 + 6 * k) (bI c)) : jm R' = ud (jm R) 0 7 (sWith (jm R 0 7) (nI k) c) := by
  have ho : ∀ q, q ≠ 12 + 6 * k → R' q = R q := fun q hq => by rw [hR]; exact u1_ne hq
  have hv : R' (12 + 6 * k) = (bI c) := by rw [hR, u1_same]
  funext i j
  rw [ud_at]
  have e2 : R' 2 = R 2 := ho _ (by omega)
  have e6 : rB R' 11 (nN (R' 2)) = rB R 11 (nN (R 2)) := by rw [e2]; exact rB_cong (fun i hi => ho _ (by omega))
  have e7 : rB R' 12 (nN (R' 2)) = sWith (jm R 0 7) (nI k) c := by rw [e2, hR]; exact rB_set hn hk hf
  clear hR
  match i with
  | 0 =>
    rw [if_pos rfl]
    match j with
    | 0 => rw [if_neg (by omega)]; exact (show jm R' 0 0 = 0 from rfl).trans (show 0 = jm R 0 0 from rfl)
    | 1 => rw [if_neg (by omega)]; exact ho 2 (by omega)
    | 2 => rw [if_neg (by omega)]; exact (show jm R' 0 2 = 0 from rfl).trans (show 0 = jm R 0 2 from rfl)
    | 3 => rw [if_neg (by omega)]; exact (show jm R' 0 3 = 0 from rfl).trans (show 0 = jm R 0 3 from rfl)
    | 4 => rw [if_neg (by omega)]; exact (show jm R' 0 4 = 0 from rfl).trans (show 0 = jm R 0 4 from rfl)
    | 5 => rw [if_neg (by omega)]; exact (show jm R' 0 5 = 0 from rfl).trans (show 0 = jm R 0 5 from rfl)
    | 6 => rw [if_neg (by omega)]; exact e6
    | 7 => rw [if_pos rfl]; exact e7
    | 8 => rw [if_neg (by omega)]; exact ho 3 (by omega)
    | 9 => rw [if_neg (by omega)]; exact ho 4 (by omega)
    | 10 => rw [if_neg (by omega)]; exact ho 0 (by omega)
    | 11 => rw [if_neg (by omega)]; exact (show jm R' 0 11 = 0 from rfl).trans (show 0 = jm R 0 11 from rfl)
    | 12 => rw [if_neg (by omega)]; exact (show jm R' 0 12 = 0 from rfl).trans (show 0 = jm R 0 12 from rfl)
    | 13 => rw [if_neg (by omega)]; exact (show jm R' 0 13 = 0 from rfl).trans (show 0 = jm R 0 13 from rfl)
    | 14 => rw [if_neg (by omega)]; exact ho 5 (by omega)
    | 15 => rw [if_neg (by omega)]; exact (show jm R' 0 15 = 0 from rfl).trans (show 0 = jm R 0 15 from rfl)
    | 16 => rw [if_neg (by omega)]; exact ho 6 (by omega)
    | 17 => rw [if_neg (by omega)]; exact ho 1 (by omega)
    | j + 18 => rw [if_neg (by omega)]; exact (show jm R' 0 (j + 18) = 0 from rfl).trans (show 0 = jm R 0 (j + 18) from rfl)
  | 1 =>
    rw [if_neg (by omega)]
    show (if j < 8 then R' (7 + 6 * j) else 0) = (if j < 8 then R (7 + 6 * j) else 0)
    split
    · exact ho _ (by omega)
    · rfl
  | 2 =>
    rw [if_neg (by omega)]
    show (if j < 8 then R' (8 + 6 * j) else 0) = (if j < 8 then R (8 + 6 * j) else 0)
    split
    · exact ho _ (by omega)
    · rfl
  | 3 =>
    rw [if_neg (by omega)]
    show (if j < 8 then R' (9 + 6 * j) else 0) = (if j < 8 then R (9 + 6 * j) else 0)
    split
    · exact ho _ (by omega)
    · rfl
  | 4 =>
    rw [if_neg (by omega)]
    show (if j < 8 then R' (10 + 6 * j) else 0) = (if j < 8 then R (10 + 6 * j) else 0)
    split
    · exact ho _ (by omega)
    · rfl
  | 5 =>
    rw [if_neg (by omega)]
    show (if j = 0 then R' 125 else 0) = (if j = 0 then R 125 else 0)
    rw [ho 125 (by omega)]
  | 6 =>
    rw [if_neg (by omega)]
    show (if j < nN (R' 125) then cM (R' (126 + j)) (R' (176 + j)) else 0) = (if j < nN (R 125) then cM (R (126 + j)) (R (176 + j)) else 0)
    rw [ho 125 (by omega), ho (126 + j) (by omega), ho (176 + j) (by omega)]
  | 7 =>
    rw [if_neg (by omega)]
    show (if j = 0 then R' 226 else 0) = (if j = 0 then R 226 else 0)
    rw [ho 226 (by omega)]
  | 8 =>
    rw [if_neg (by omega)]
    show (if j < nN (R' 226) then cM (R' (227 + j)) (R' (277 + j)) else 0) = (if j < nN (R 226) then cM (R (227 + j)) (R (277 + j)) else 0)
    rw [ho 226 (by omega), ho (227 + j) (by omega), ho (277 + j) (by omega)]
  | 9 =>
    rw [if_neg (by omega)]
    show (if j < 50 then R' (55 + j) else 0) = (if j < 50 then R (55 + j) else 0)
    split
    · exact ho _ (by omega)
    · rfl
  | 10 =>
    rw [if_neg (by omega)]
    show (if j < 20 then R' (105 + j) else 0) = (if j < 20 then R (105 + j) else 0)
    split
    · exact ho _ (by omega)
    · rfl
  | i + 11 =>
    rw [if_neg (by omega)]; exact (show jm R' (i + 11) j = 0 from rfl).trans (show 0 = jm R (i + 11) j from rfl)
theorem jm_uWrong {R : Nat → Int32} {k : Nat} {c : Bool} (hn : nN (R 2) ≤ 8) (hk : k < nN (R 2)) (hf : ∀ i, i < nN (R 2) → fl (R (12 + 6 * i))) : jm (u1 R (12 + 6 * k) (bI c)) = ud (jm R) 0 7 (sWith (jm R 0 7) (nI k) c) := jm_uWrong_r hn hk hf rfl
