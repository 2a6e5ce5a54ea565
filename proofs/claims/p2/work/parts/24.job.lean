/-! JOBS: what a JOB holds, as numbers; what follows from it; the first methods over it -/
def okF (k : Nat) : Bool := k == 1 || k == 6 || k == 7 || k == 8 || k == 9 || k == 10 || k == 14 || k == 16 || k == 17
def jx (X : Nat → Nat → Int32) (b : Nat) : Nat → Nat → Int32 := fun i k => match i with
  | 0 => if okF k = true then X b k else 0
  | 1 => if k < 8 then X (b + 1) k else 0
  | 2 => if k < 8 then X (b + 2) k else 0
  | 3 => if k < 8 then X (b + 3) k else 0
  | 4 => if k < 8 then X (b + 4) k else 0
  | 5 => if k = 0 then X (b + 5) 2 else 0
  | 6 => if k < nN (X (b + 5) 2) then X (b + 6) k else 0
  | 7 => if k = 0 then X (b + 8) 2 else 0
  | 8 => if k < nN (X (b + 8) 2) then X (b + 9) k else 0
  | 9 => if k < 50 then X (b + 11) k else 0
  | 10 => if k < 20 then X (b + 12) k else 0
  | _ => 0
section JX
variable {X : Nat → Nat → Int32} {b k : Nat}
theorem jx0 (h : okF k = true) : jx X b 0 k = X b k := if_pos h
theorem jx1 (h : k < 8) : jx X b 1 k = X (b + 1) k := if_pos h
theorem jx2 (h : k < 8) : jx X b 2 k = X (b + 2) k := if_pos h
theorem jx3 (h : k < 8) : jx X b 3 k = X (b + 3) k := if_pos h
theorem jx4 (h : k < 8) : jx X b 4 k = X (b + 4) k := if_pos h
theorem jx5 : jx X b 5 0 = X (b + 5) 2 := id rfl
theorem jx6 (h : k < nN (X (b + 5) 2)) : jx X b 6 k = X (b + 6) k := if_pos h
theorem jx7 : jx X b 7 0 = X (b + 8) 2 := id rfl
theorem jx8 (h : k < nN (X (b + 8) 2)) : jx X b 8 k = X (b + 9) k := if_pos h
theorem jx9 (h : k < 50) : jx X b 9 k = X (b + 11) k := if_pos h
theorem jx10 (h : k < 20) : jx X b 10 k = X (b + 12) k := if_pos h
theorem jx01 : jx X b 0 1 = X b 1 := jx0 rfl
theorem jx06 : jx X b 0 6 = X b 6 := jx0 rfl
theorem jx07 : jx X b 0 7 = X b 7 := jx0 rfl
theorem jx08 : jx X b 0 8 = X b 8 := jx0 rfl
theorem jx09 : jx X b 0 9 = X b 9 := jx0 rfl
theorem jx010 : jx X b 0 10 = X b 10 := jx0 rfl
theorem jx014 : jx X b 0 14 = X b 14 := jx0 rfl
theorem jx016 : jx X b 0 16 = X b 16 := jx0 rfl
theorem jx017 : jx X b 0 17 = X b 17 := jx0 rfl
end JX
def bt (x : Int32) (i : Nat) : Bool := x.toBitVec.getLsbD i
def isN (v : Int32) (B : Nat) : Prop := v = nI (nN v) ∧ nN v ≤ B
theorem isN.of {n B : Nat} (h : n ≤ B) (hB : B < 2 ^ 31) : isN (nI n) B := by
  unfold isN
  rw [nN_nI (by omega)]
  exact ⟨rfl, h⟩
abbrev jn (J : Nat → Nat → Int32) : Nat := nN (J 0 1)
abbrev jl (J : Nat → Nat → Int32) : Nat := nN (J 5 0)
abbrev je (J : Nat → Nat → Int32) : Nat := nN (J 7 0)
def IJ (T : Nat) (J : Nat → Nat → Int32) : Prop :=
  isN (J 0 1) 8 ∧ (∀ k, isN (J 1 k) 6) ∧ (∀ k, isN (J 2 k) 9) ∧ (∀ k, isN (J 3 k) 9) ∧ (∀ k i, bt (J 4 k) i = true → i < k) ∧ (∀ i, bt (J 0 6) i = true → i < jn J) ∧ (∀ i, bt (J 0 7) i = true → i < jn J)
  ∧ (J 0 8 = nI 1 ∨ J 0 8 = nI 2) ∧ isN (J 0 9) 999 ∧ isN (J 0 10) T ∧ (isN (J 5 0) 50 ∧ wfC (J 6) (jl J)) ∧ (isN (J 7 0) 50 ∧ wfC (J 8) (je J)) ∧ isN (J 0 14) 50 ∧ isN (J 0 16) 20 ∧ (∀ k, isN (J 9 k) 255)
section IJS
variable {T : Nat} {J : Nat → Nat → Int32}
theorem IJ.n (h : IJ T J) : isN (J 0 1) 8 := h.1
theorem IJ.kind (h : IJ T J) : ∀ k, isN (J 1 k) 6 := h.2.1
theorem IJ.m (h : IJ T J) : ∀ k, isN (J 2 k) 9 := h.2.2.1
theorem IJ.sc (h : IJ T J) : ∀ k, isN (J 3 k) 9 := h.2.2.2.1
theorem IJ.needs (h : IJ T J) : ∀ k i, bt (J 4 k) i = true → i < k := h.2.2.2.2.1
theorem IJ.done (h : IJ T J) : ∀ i, bt (J 0 6) i = true → i < jn J := h.2.2.2.2.2.1
theorem IJ.wrong (h : IJ T J) : ∀ i, bt (J 0 7) i = true → i < jn J := h.2.2.2.2.2.2.1
theorem IJ.hands (h : IJ T J) : J 0 8 = nI 1 ∨ J 0 8 = nI 2 := h.2.2.2.2.2.2.2.1
theorem IJ.bag (h : IJ T J) : isN (J 0 9) 999 := h.2.2.2.2.2.2.2.2.1
theorem IJ.minute (h : IJ T J) : isN (J 0 10) T := h.2.2.2.2.2.2.2.2.2.1
theorem IJ.tl (h : IJ T J) : isN (J 5 0) 50 ∧ wfC (J 6) (jl J) := h.2.2.2.2.2.2.2.2.2.2.1
theorem IJ.te (h : IJ T J) : isN (J 7 0) 50 ∧ wfC (J 8) (je J) := h.2.2.2.2.2.2.2.2.2.2.2.1
theorem IJ.fed (h : IJ T J) : isN (J 0 14) 50 := h.2.2.2.2.2.2.2.2.2.2.2.2.1
theorem IJ.waits (h : IJ T J) : isN (J 0 16) 20 := h.2.2.2.2.2.2.2.2.2.2.2.2.2.1
theorem IJ.tape (h : IJ T J) : ∀ k, isN (J 9 k) 255 := h.2.2.2.2.2.2.2.2.2.2.2.2.2.2
end IJS
def sTired (J : Nat → Nat → Int32) : Int32 := if J 0 10 / nI 30 < nI 9 then J 0 10 / nI 30 else nI 9
def sLastsBy (J : Nat → Nat → Int32) (s m t : Int32) : Int32 := sHeld (if 0 < jl J then sVl (J 6) (jl J) s m t else nI 1 + s + t) (nI 1) (nI 99)
def sErrsBy (J : Nat → Nat → Int32) (m t k : Int32) : Int32 := sHeld (if 0 < je J then sVl (J 8) (je J) m t k else (if nI 9 < m + t then nI 1 else nI 0)) (nI 0) (nI 1)
def sKind (J : Nat → Nat → Int32) (k : Nat) : Nat := nN (J 1 k)
def sLasts (J : Nat → Nat → Int32) (k : Nat) : Int32 := sLasting (sKind J k) (sLastsBy J (J 3 k) (J 2 k) (sTired J)) (J 0 8) (J 2 k) (J 3 k)
def sBack (J : Nat → Nat → Int32) (k : Nat) : Int32 := sBackOf (sKind J k) (sLasts J k)
def sErrs (J : Nat → Nat → Int32) (k : Nat) : Int32 := sErrsBy J (J 2 k) (sTired J) (J 1 k)
def sDone (J : Nat → Nat → Int32) (k : Nat) : Bool := sBit (J 0 6) (nI k)
def sReady (J : Nat → Nat → Int32) (k : Nat) : Bool := decide ((J 4 k &&& (J 0 6 ^^^ (-1))) = 0) && !decide (J 0 9 < J 3 k)
def sMayDo (J : Nat → Nat → Int32) (k : Nat) : Bool := decide (k < jn J) && !sDone J k && sReady J k && !decide (J 0 8 < sHands (sKind J k))
theorem sDp_cong {f g : Nat → Int32} : ∀ {n : Nat}, (∀ i, i < n → f i = g i) → sDp f n = sDp g n
  | 0, _ => rfl
  | n + 1, h => by
    unfold sDp
    rw [sDp_cong (fun i hi => h i (by omega)), h n (by omega)]
theorem sEv_cong {f g : Nat → Int32} {a b c : Int32} : ∀ {n : Nat}, (∀ i, i < n → f i = g i) → sEv f a b c n = sEv g a b c n
  | 0, _ => rfl
  | n + 1, h => by
    unfold sEv
    rw [sEv_cong (fun i hi => h i (by omega)), h n (by omega)]
theorem sVl_cong {f g : Nat → Int32} {a b c : Int32} {n : Nat} (h : ∀ i, i < n → f i = g i) : sVl f n a b c = sVl g n a b c := by
  unfold sVl
  rw [sEv_cong h]
theorem wfC_cong {f g : Nat → Int32} {n : Nat} (h : ∀ i, i < n → f i = g i) (hw : wfC f n) : wfC g n := by
  obtain ⟨h1, h2, h3⟩ := hw
  refine ⟨h1, fun h0 => by rw [← sDp_cong h]; exact h2 h0, fun i hi => ?_⟩
  rw [← h i hi, ← sDp_cong (fun j hj => h j (by omega))]
  exact h3 i hi
theorem tx5 {b : Nat} (hb : jb b) : tx (b + 5) := by rcases hb with rfl | rfl | rfl <;> simp [tx]
theorem tx8 {b : Nat} (hb : jb b) : tx (b + 8) := by rcases hb with rfl | rfl | rfl <;> simp [tx]
theorem min_max_held {v a b : Int32} (hab : ¬ b < a) : (if a < (if v < b then v else b) then (if v < b then v else b) else a) = sHeld v a b := by
  unfold sHeld
  simp only [Int32.lt_iff_toInt_lt] at *
  by_cases h1 : v.toInt < a.toInt
  · rw [if_pos h1, if_pos (show v.toInt < b.toInt by omega), if_neg (by omega)]
  · rw [if_neg h1]
    by_cases h2 : b.toInt < v.toInt
    · rw [if_pos h2, if_neg (show ¬ v.toInt < b.toInt by omega)]
      by_cases h3 : a.toInt < b.toInt
      · rw [if_pos h3]
      · rw [if_neg h3]; exact Int32.toInt_inj.mp (by omega)
    · rw [if_neg h2]
      by_cases h4 : v.toInt < b.toInt
      · rw [if_pos h4]
        by_cases h3 : a.toInt < v.toInt
        · rw [if_pos h3]
        · rw [if_neg h3]; exact Int32.toInt_inj.mp (by omega)
      · rw [if_neg h4]
        by_cases h3 : a.toInt < b.toInt
        · rw [if_pos h3]; exact Int32.toInt_inj.mp (by omega)
        · rw [if_neg h3]; exact Int32.toInt_inj.mp (by omega)
set_option maxRecDepth 100000 in
set_option maxHeartbeats 4000000 in
theorem l_has (d : Nat) {b : Nat} (hb : jb b) (X Z : Nat → Nat → Int32) (s : Int32) : EC (d + 1) 33 [.ref b, .int s] (Wd X Z) (PI (bI (!decide (s < 0) && decide (s < X b 1))) (Wd X Z)) := by
  refine er_enter (L := [(0, _), (1, _)]) rfl rfl rfl ?_
  refine er_loc (pc' := 1) rfl rfl rfl ?_
  refine er_if_lt (pc' := 4) rfl rfl (fun h1 => ?_) (fun h1 => ?_)
  · refine er_k (pc' := 17) (nI 0) rfl rfl rfl ?_
    refine er_ret _ rfl rfl ?_
    exact PI_of (bI_eq0 (by simp [*]))
  · refine er_loc (pc' := 5) rfl rfl rfl ?_
    refine er_loc (pc' := 6) rfl rfl rfl ?_
    refine er_gf (pc' := 9) (_) rfl (blt_J hb 0 rfl) (cO_J0 hb _ _) rfl rfl ?_
    refine er_cm_ge (pc' := 12) rfl rfl (fun h9 => ?_) (fun h9 => ?_)
    · refine er_k (pc' := 17) (nI 0) rfl rfl rfl ?_
      refine er_ret _ rfl rfl ?_
      exact PI_of (bI_eq0 (by simp [*]))
    · refine er_k (pc' := 13) (nI 1) rfl rfl rfl ?_
      refine er_goto rfl ?_
      refine er_ret _ rfl rfl ?_
      exact PI_of (bI_eq1 (by simp [*]))
theorem l_has_t (d : Nat) {b : Nat} (hb : jb b) (X Z : Nat → Nat → Int32) {T k : Nat} (hI : IJ T (jx X b)) (hk : k < jn (jx X b)) : EC (d + 1) 33 [.ref b, .int (nI k)] (Wd X Z) (PI (bI true) (Wd X Z)) := by
  have h := l_has d hb X Z (nI k)
  have h8 := hI.n
  have h9 : jn (jx X b) ≤ 8 := h8.2
  have e : (!decide (nI k < 0) && decide (nI k < X b 1)) = true := by
    have e1 : X b 1 = nI (jn (jx X b)) := h8.1
    rw [e1, decide_eq_false (nI_pos (by omega)), decide_eq_true (nI_lt hk (by omega))]
    rfl
  rw [e] at h
  exact h
theorem l_has_f (d : Nat) {b : Nat} (hb : jb b) (X Z : Nat → Nat → Int32) {T k : Nat} (hI : IJ T (jx X b)) (hk : ¬ k < jn (jx X b)) (h100 : k < 100) : EC (d + 1) 33 [.ref b, .int (nI k)] (Wd X Z) (PI (bI false) (Wd X Z)) := by
  have h := l_has d hb X Z (nI k)
  have h8 := hI.n
  have e : (!decide (nI k < 0) && decide (nI k < X b 1)) = false := by
    have e1 : X b 1 = nI (jn (jx X b)) := h8.1
    have h9 := h8.2
    rw [e1, decide_eq_false (nI_nlt (a := k) (b := jn (jx X b)) (by omega) (by omega))]
    simp
  rw [e] at h
  exact h
set_option maxRecDepth 100000 in
set_option maxHeartbeats 4000000 in
theorem l_isDone (d : Nat) {b : Nat} (hb : jb b) (X Z : Nat → Nat → Int32) (k : Int32) : EC (d + 2) 34 [.ref b, .int k] (Wd X Z) (PI (bI (sBit (X b 6) k)) (Wd X Z)) := by
  refine er_enter (L := [(0, _), (1, _)]) rfl rfl rfl ?_
  refine er_loc (pc' := 1) rfl rfl rfl ?_
  refine er_gf (pc' := 4) (_) rfl (blt_J hb 0 rfl) (cO_J0 hb _ _) rfl rfl ?_
  refine er_loc (pc' := 5) rfl rfl rfl ?_
  refine er_cSi (pc' := 8) (rest := []) rfl rfl rfl (l_isIn _ _ _ _) ?_
  refine er_zret rfl rfl ?_
  exact PI_of rfl
set_option maxRecDepth 100000 in
set_option maxHeartbeats 4000000 in
theorem l_isWrong (d : Nat) {b : Nat} (hb : jb b) (X Z : Nat → Nat → Int32) (k : Int32) : EC (d + 2) 35 [.ref b, .int k] (Wd X Z) (PI (bI (sBit (X b 7) k)) (Wd X Z)) := by
  refine er_enter (L := [(0, _), (1, _)]) rfl rfl rfl ?_
  refine er_loc (pc' := 1) rfl rfl rfl ?_
  refine er_gf (pc' := 4) (_) rfl (blt_J hb 0 rfl) (cO_J0 hb _ _) rfl rfl ?_
  refine er_loc (pc' := 5) rfl rfl rfl ?_
  refine er_cSi (pc' := 8) (rest := []) rfl rfl rfl (l_isIn _ _ _ _) ?_
  refine er_zret rfl rfl ?_
  exact PI_of rfl
set_option maxRecDepth 100000 in
set_option maxHeartbeats 4000000 in
theorem l_tired (d : Nat) {b : Nat} (hb : jb b) (X Z : Nat → Nat → Int32) : EC (d + 1) 37 [.ref b] (Wd X Z) (PI (sTired (jx X b)) (Wd X Z)) := by
  refine er_enter (L := [(0, _)]) rfl rfl rfl ?_
  refine er_k (pc' := 2) (nI 9) rfl rfl rfl ?_
  refine er_loc (pc' := 3) rfl rfl rfl ?_
  refine er_gf (pc' := 6) (_) rfl (blt_J hb 0 rfl) (cO_J0 hb _ _) rfl rfl ?_
  refine er_k (pc' := 8) (nI 30) rfl rfl rfl ?_
  refine er_idiv (pc' := 9) rfl rfl (by decide) ?_
  refine er_min (pc' := 12) rfl rfl rfl rfl ?_
  refine er_iret rfl rfl ?_
  exact PI_of rfl
theorem wf6 {T b : Nat} {X : Nat → Nat → Int32} (hI : IJ T (jx X b)) : wfC (X (b + 5 + 1)) (jl (jx X b)) := wfC_cong (fun _ hi => jx6 hi) hI.tl.2
theorem wf8 {T b : Nat} {X : Nat → Nat → Int32} (hI : IJ T (jx X b)) : wfC (X (b + 8 + 1)) (je (jx X b)) := wfC_cong (fun _ hi => jx8 hi) hI.te.2
theorem vl6 {b : Nat} {X : Nat → Nat → Int32} {p q r : Int32} : sVl (X (b + 5 + 1)) (jl (jx X b)) p q r = sVl (jx X b 6) (jl (jx X b)) p q r := sVl_cong (fun _ hi => (jx6 hi).symm)
theorem vl8 {b : Nat} {X : Nat → Nat → Int32} {p q r : Int32} : sVl (X (b + 8 + 1)) (je (jx X b)) p q r = sVl (jx X b 8) (je (jx X b)) p q r := sVl_cong (fun _ hi => (jx8 hi).symm)
set_option maxRecDepth 100000 in
set_option maxHeartbeats 4000000 in
theorem l_lastsBy (d : Nat) {b : Nat} (hb : jb b) (X Z : Nat → Nat → Int32) {T : Nat} (hI : IJ T (jx X b)) (p q r : Int32) : EC (d + 3) 38 [.ref b, .int p, .int q, .int r] (Wd X Z) (RI (sLastsBy (jx X b) p q r) X) := by
  refine er_enter (L := [(0, _), (1, _), (2, _), (3, _)]) rfl rfl rfl ?_
  refine er_loc (pc' := 1) rfl rfl rfl ?_
  refine er_gf (pc' := 4) (_) rfl (blt_J hb 0 rfl) (cO_J0 hb _ _) rfl rfl ?_
  refine er_cIi (pc' := 7) (rest := []) 8 rfl rfl rfl (blt_J hb 5 rfl) (cO_J5 hb _ _) rfl (l_isGiven _ (tx5 hb) _ _ (jl (jx X b)) hI.tl.1.1 hI.tl.1.2) ?_
  refine er_if_eqb (pc' := 10) rfl rfl (fun h7 => ?_) (fun h7 => ?_)
  · refine er_k (pc' := 24) (nI 1) rfl rfl rfl ?_
    refine er_loc (pc' := 25) rfl rfl rfl ?_
    refine er_iadd (pc' := 26) rfl rfl ?_
    refine er_loc (pc' := 27) rfl rfl rfl ?_
    refine er_iadd (pc' := 28) rfl rfl ?_
    refine er_loc (pc' := 30) (L' := [(4, _), (0, _), (1, _), (2, _), (3, _)]) rfl rfl rfl ?_
    refine er_k (pc' := 31) (nI 1) rfl rfl rfl ?_
    refine er_k (pc' := 33) (nI 99) rfl rfl rfl ?_
    refine er_loc (pc' := 35) rfl rfl rfl ?_
    refine er_min (pc' := 38) rfl rfl rfl rfl ?_
    refine er_max (pc' := 41) rfl rfl rfl rfl ?_
    refine er_iret rfl rfl ?_
    refine RI_of ?_ rfl
    rw [min_max_held (by decide +kernel)]
    unfold sLastsBy
    first | rw [if_pos (of_decide_eq_true h7), vl6] | rw [if_neg (of_decide_eq_false h7)]
  · refine er_loc (pc' := 11) rfl rfl rfl ?_
    refine er_gf (pc' := 14) (_) rfl (blt_J hb 0 rfl) (cO_J0 hb _ _) rfl rfl ?_
    refine er_loc (pc' := 15) rfl rfl rfl ?_
    refine er_loc (pc' := 16) rfl rfl rfl ?_
    refine er_loc (pc' := 17) rfl rfl rfl ?_
    refine er_cIz (pc' := 20) (rest := []) 8 rfl rfl rfl (blt_J hb 5 rfl) (cO_J5 hb _ _) rfl (l_workedOut _ (tx5 hb) _ _ _ _ _ (jl (jx X b)) hI.tl.1.1 (wf6 hI) (of_decide_eq_true h7)) ?_
    intro Z1
    refine er_goto rfl ?_
    refine er_loc (pc' := 30) (L' := [(4, _), (0, _), (1, _), (2, _), (3, _)]) rfl rfl rfl ?_
    refine er_k (pc' := 31) (nI 1) rfl rfl rfl ?_
    refine er_k (pc' := 33) (nI 99) rfl rfl rfl ?_
    refine er_loc (pc' := 35) rfl rfl rfl ?_
    refine er_min (pc' := 38) rfl rfl rfl rfl ?_
    refine er_max (pc' := 41) rfl rfl rfl rfl ?_
    refine er_iret rfl rfl ?_
    refine RI_of ?_ rfl
    rw [min_max_held (by decide +kernel)]
    unfold sLastsBy
    first | rw [if_pos (of_decide_eq_true h7), vl6] | rw [if_neg (of_decide_eq_false h7)]
set_option maxRecDepth 100000 in
set_option maxHeartbeats 4000000 in
theorem l_errsBy (d : Nat) {b : Nat} (hb : jb b) (X Z : Nat → Nat → Int32) {T : Nat} (hI : IJ T (jx X b)) (p q r : Int32) : EC (d + 3) 43 [.ref b, .int p, .int q, .int r] (Wd X Z) (RI (sErrsBy (jx X b) p q r) X) := by
  refine er_enter (L := [(0, _), (1, _), (2, _), (3, _)]) rfl rfl rfl ?_
  refine er_loc (pc' := 1) rfl rfl rfl ?_
  refine er_gf (pc' := 4) (_) rfl (blt_J hb 0 rfl) (cO_J0 hb _ _) rfl rfl ?_
  refine er_cIi (pc' := 7) (rest := []) 8 rfl rfl rfl (blt_J hb 8 rfl) (cO_J8 hb _ _) rfl (l_isGiven _ (tx8 hb) _ _ (je (jx X b)) hI.te.1.1 hI.te.1.2) ?_
  refine er_if_eqb (pc' := 10) rfl rfl (fun h7 => ?_) (fun h7 => ?_)
  · refine er_loc (pc' := 30) rfl rfl rfl ?_
    refine er_loc (pc' := 31) rfl rfl rfl ?_
    refine er_iadd (pc' := 32) rfl rfl ?_
    refine er_k (pc' := 34) (nI 9) rfl rfl rfl ?_
    refine er_cm_le (pc' := 37) rfl rfl (fun h34 => ?_) (fun h34 => ?_)
    · refine er_k (pc' := 42) (nI 0) rfl rfl rfl ?_
      refine er_iret rfl rfl ?_
      refine RI_of ?_ rfl
      unfold sErrsBy
      rw [if_neg (of_decide_eq_false h7)]
      first | rw [if_pos h34] | rw [if_neg h34]
      decide +kernel
    · refine er_k (pc' := 38) (nI 1) rfl rfl rfl ?_
      refine er_goto rfl ?_
      refine er_iret rfl rfl ?_
      refine RI_of ?_ rfl
      unfold sErrsBy
      rw [if_neg (of_decide_eq_false h7)]
      first | rw [if_pos h34] | rw [if_neg h34]
      decide +kernel
  · refine er_k (pc' := 11) (nI 0) rfl rfl rfl ?_
    refine er_k (pc' := 12) (nI 1) rfl rfl rfl ?_
    refine er_loc (pc' := 13) rfl rfl rfl ?_
    refine er_gf (pc' := 16) (_) rfl (blt_J hb 0 rfl) (cO_J0 hb _ _) rfl rfl ?_
    refine er_loc (pc' := 17) rfl rfl rfl ?_
    refine er_loc (pc' := 18) rfl rfl rfl ?_
    refine er_loc (pc' := 19) rfl rfl rfl ?_
    refine er_cIz (pc' := 22) (rest := [_, _]) 8 rfl rfl rfl (blt_J hb 8 rfl) (cO_J8 hb _ _) rfl (l_workedOut _ (tx8 hb) _ _ _ _ _ (je (jx X b)) hI.te.1.1 (wf8 hI) (of_decide_eq_true h7)) ?_
    intro Z1
    refine er_min (pc' := 25) rfl rfl rfl rfl ?_
    refine er_max (pc' := 28) rfl rfl rfl rfl ?_
    refine er_iret rfl rfl ?_
    refine RI_of ?_ rfl
    rw [min_max_held (by decide +kernel)]
    unfold sErrsBy
    rw [if_pos (of_decide_eq_true h7), vl8]
