/-! READING a text: the job after it -/
def jTx0 (J : Nat → Nat → Int32) (s : Nat × (Nat → Int32)) : Nat → Nat → Int32 := fun i k => match i with
  | 5 => if k = 0 then nI s.1 else 0
  | 6 => if k < s.1 then s.2 k else 0
  | i => J i k
theorem jx_text0 {X : Nat → Nat → Int32} {s : Nat × (Nat → Int32)} (h : s.1 ≤ 50) : jx (xHold X 14 s.2 s.1) 9 = jTx0 (jx X 9) s := by
  have h1 : xHold X 14 s.2 s.1 14 2 = nI s.1 := by
    unfold xHold
    rw [ud_same, u1_same]
  have h2 : xHold X 14 s.2 s.1 15 = cpf s.2 (X 15) 0 0 s.1 := by
    unfold xHold
    rw [ud_ne (by omega), uc_same]
  have hc : ∀ c, c ≠ 14 → c ≠ 15 → xHold X 14 s.2 s.1 c = X c := by
    intro c g1 g2
    unfold xHold
    rw [ud_ne (by omega), uc_ne (by omega)]
  funext i j
  match i with
  | 0 =>
    show (if okF j = true then xHold X 14 s.2 s.1 9 j else 0) = (if okF j = true then X 9 j else 0)
    rw [hc 9 (by omega) (by omega)]
  | 1 =>
    show (if j < 8 then xHold X 14 s.2 s.1 10 j else 0) = (if j < 8 then X 10 j else 0)
    rw [hc 10 (by omega) (by omega)]
  | 2 =>
    show (if j < 8 then xHold X 14 s.2 s.1 11 j else 0) = (if j < 8 then X 11 j else 0)
    rw [hc 11 (by omega) (by omega)]
  | 3 =>
    show (if j < 8 then xHold X 14 s.2 s.1 12 j else 0) = (if j < 8 then X 12 j else 0)
    rw [hc 12 (by omega) (by omega)]
  | 4 =>
    show (if j < 8 then xHold X 14 s.2 s.1 13 j else 0) = (if j < 8 then X 13 j else 0)
    rw [hc 13 (by omega) (by omega)]
  | 5 =>
    show (if j = 0 then xHold X 14 s.2 s.1 14 2 else 0) = (if j = 0 then nI s.1 else 0)
    rw [h1]
  | 6 =>
    show (if j < nN (xHold X 14 s.2 s.1 14 2) then xHold X 14 s.2 s.1 15 j else 0) = (if j < s.1 then s.2 j else 0)
    rw [h1, nN_nI (by omega), h2]
    by_cases c : j < s.1
    · rw [if_pos c, if_pos c, cpf_all c]
    · rw [if_neg c, if_neg c]
  | 7 =>
    show (if j = 0 then xHold X 14 s.2 s.1 17 2 else 0) = (if j = 0 then X 17 2 else 0)
    rw [hc 17 (by omega) (by omega)]
  | 8 =>
    show (if j < nN (xHold X 14 s.2 s.1 17 2) then xHold X 14 s.2 s.1 18 j else 0) = (if j < nN (X 17 2) then X 18 j else 0)
    rw [hc 17 (by omega) (by omega), hc 18 (by omega) (by omega)]
  | 9 =>
    show (if j < 50 then xHold X 14 s.2 s.1 20 j else 0) = (if j < 50 then X 20 j else 0)
    rw [hc 20 (by omega) (by omega)]
  | 10 =>
    show (if j < 20 then xHold X 14 s.2 s.1 21 j else 0) = (if j < 20 then X 21 j else 0)
    rw [hc 21 (by omega) (by omega)]
  | i + 11 => rfl
theorem IJ.text0 {T : Nat} {J : Nat → Nat → Int32} {s : Nat × (Nat → Int32)} (h : IJ T J) (h1 : s.1 ≤ 50) (hw : wfC s.2 s.1) : IJ T (jTx0 J s) := ⟨h.n, h.kind, h.m, h.sc, h.needs, h.done, h.wrong, h.hands, h.bag, h.minute, ⟨isN.of h1 (by omega), (by
  show wfC (fun k => if k < s.1 then s.2 k else 0) (nN (nI s.1))
  rw [nN_nI (by omega)]
  exact wfC_cong (fun i hi => (if_pos hi).symm) hw)⟩, h.te, h.fed, h.waits, h.tape⟩
def jTx1 (J : Nat → Nat → Int32) (s : Nat × (Nat → Int32)) : Nat → Nat → Int32 := fun i k => match i with
  | 7 => if k = 0 then nI s.1 else 0
  | 8 => if k < s.1 then s.2 k else 0
  | i => J i k
theorem jx_text1 {X : Nat → Nat → Int32} {s : Nat × (Nat → Int32)} (h : s.1 ≤ 50) : jx (xHold X 17 s.2 s.1) 9 = jTx1 (jx X 9) s := by
  have h1 : xHold X 17 s.2 s.1 17 2 = nI s.1 := by
    unfold xHold
    rw [ud_same, u1_same]
  have h2 : xHold X 17 s.2 s.1 18 = cpf s.2 (X 18) 0 0 s.1 := by
    unfold xHold
    rw [ud_ne (by omega), uc_same]
  have hc : ∀ c, c ≠ 17 → c ≠ 18 → xHold X 17 s.2 s.1 c = X c := by
    intro c g1 g2
    unfold xHold
    rw [ud_ne (by omega), uc_ne (by omega)]
  funext i j
  match i with
  | 0 =>
    show (if okF j = true then xHold X 17 s.2 s.1 9 j else 0) = (if okF j = true then X 9 j else 0)
    rw [hc 9 (by omega) (by omega)]
  | 1 =>
    show (if j < 8 then xHold X 17 s.2 s.1 10 j else 0) = (if j < 8 then X 10 j else 0)
    rw [hc 10 (by omega) (by omega)]
  | 2 =>
    show (if j < 8 then xHold X 17 s.2 s.1 11 j else 0) = (if j < 8 then X 11 j else 0)
    rw [hc 11 (by omega) (by omega)]
  | 3 =>
    show (if j < 8 then xHold X 17 s.2 s.1 12 j else 0) = (if j < 8 then X 12 j else 0)
    rw [hc 12 (by omega) (by omega)]
  | 4 =>
    show (if j < 8 then xHold X 17 s.2 s.1 13 j else 0) = (if j < 8 then X 13 j else 0)
    rw [hc 13 (by omega) (by omega)]
  | 5 =>
    show (if j = 0 then xHold X 17 s.2 s.1 14 2 else 0) = (if j = 0 then X 14 2 else 0)
    rw [hc 14 (by omega) (by omega)]
  | 6 =>
    show (if j < nN (xHold X 17 s.2 s.1 14 2) then xHold X 17 s.2 s.1 15 j else 0) = (if j < nN (X 14 2) then X 15 j else 0)
    rw [hc 14 (by omega) (by omega), hc 15 (by omega) (by omega)]
  | 7 =>
    show (if j = 0 then xHold X 17 s.2 s.1 17 2 else 0) = (if j = 0 then nI s.1 else 0)
    rw [h1]
  | 8 =>
    show (if j < nN (xHold X 17 s.2 s.1 17 2) then xHold X 17 s.2 s.1 18 j else 0) = (if j < s.1 then s.2 j else 0)
    rw [h1, nN_nI (by omega), h2]
    by_cases c : j < s.1
    · rw [if_pos c, if_pos c, cpf_all c]
    · rw [if_neg c, if_neg c]
  | 9 =>
    show (if j < 50 then xHold X 17 s.2 s.1 20 j else 0) = (if j < 50 then X 20 j else 0)
    rw [hc 20 (by omega) (by omega)]
  | 10 =>
    show (if j < 20 then xHold X 17 s.2 s.1 21 j else 0) = (if j < 20 then X 21 j else 0)
    rw [hc 21 (by omega) (by omega)]
  | i + 11 => rfl
theorem IJ.text1 {T : Nat} {J : Nat → Nat → Int32} {s : Nat × (Nat → Int32)} (h : IJ T J) (h1 : s.1 ≤ 50) (hw : wfC s.2 s.1) : IJ T (jTx1 J s) := ⟨h.n, h.kind, h.m, h.sc, h.needs, h.done, h.wrong, h.hands, h.bag, h.minute, h.tl, ⟨isN.of h1 (by omega), (by
  show wfC (fun k => if k < s.1 then s.2 k else 0) (nN (nI s.1))
  rw [nN_nI (by omega)]
  exact wfC_cong (fun i hi => (if_pos hi).symm) hw)⟩, h.fed, h.waits, h.tape⟩
