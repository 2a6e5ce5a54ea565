/-! HOW LONG at most; what a JOB holds stays so -/
theorem fin_le {m n : Nat} (h : n ≤ m) {p : Nat → Prop} (hp : ∀ i : Fin (m + 1), p i.val) : p n := hp ⟨n, by omega⟩
theorem isN.add {a b : Int32} {A B : Nat} (ha : isN a A) (hb : isN b B) (h : A + B < 2 ^ 31) : isN (a + b) (A + B) := by
  obtain ⟨n, h1, rfl⟩ := (isN_iff (by omega)).mp ha
  obtain ⟨m, h2, rfl⟩ := (isN_iff (by omega)).mp hb
  rw [nI_add]
  exact isN.of (by omega) h
theorem isN.sub {a b : Int32} {A : Nat} (ha : isN a A) (hA : A < 2 ^ 31) (hb : ∃ n, b = nI n ∧ n ≤ nN a) : isN (a - b) A := by
  obtain ⟨n, rfl, h2⟩ := hb
  obtain ⟨m, h1, rfl⟩ := (isN_iff hA).mp ha
  rw [nN_nI (by omega)] at h2
  rw [nI_sub h2]
  exact isN.of (by omega) hA
theorem isN.held {v : Int32} {a b : Nat} (hab : a ≤ b) (hb : b < 2 ^ 31) : isN (sHeld v (nI a) (nI b)) b := by
  unfold sHeld
  split
  · exact isN.of hab hb
  · rename_i h1
    split
    · exact isN.of (Nat.le_refl _) hb
    · rename_i h2
      have h3 : sIn v (nI a) (nI b) = true := by
        unfold sIn
        simp [h1, h2, ← Int32.not_lt]
      obtain ⟨j, _, h4, rfl⟩ := sIn_ex hb (by omega) h3
      exact isN.of h4 hb
theorem rem3 {m : Nat} (h : m ≤ 9) : isN (nI m - nI m / nI 3 * nI 3) 9 := by
  unfold isN
  exact fin_le (m := 9) (p := fun m => nI m - nI m / nI 3 * nI 3 = nI (nN (nI m - nI m / nI 3 * nI 3)) ∧ nN (nI m - nI m / nI 3 * nI 3) ≤ 9) h (by decide +kernel)
theorem div2 {m : Nat} (h : m ≤ 300) : isN (nI m / nI 2) 300 := by
  unfold isN
  exact fin_le (m := 300) (p := fun m => nI m / nI 2 = nI (nN (nI m / nI 2)) ∧ nN (nI m / nI 2) ≤ 300) h (by decide +kernel)
theorem lasting300 {q : Nat} {v h m s : Int32} (hv : isN v 99) (hm : isN m 9) (hs : isN s 9) : isN (sLasting q v h m s) 300 := by
  obtain ⟨v, hv1, rfl⟩ := (isN_iff (by omega)).mp hv
  obtain ⟨m, hm1, rfl⟩ := (isN_iff (by omega)).mp hm
  obtain ⟨s, hs1, rfl⟩ := (isN_iff (by omega)).mp hs
  have hheld : isN (if h = nI 1 then nI v * nI 2 else nI v) 198 := by
    split
    · rw [nI_mul]; exact isN.of (by omega) (by omega)
    · exact isN.of (by omega) (by omega)
  unfold sLasting
  split
  · exact isN.of (by omega) (by omega)
  · rw [nI_add]; exact isN.of (by omega) (by omega)
  · rw [nI_add]; exact isN.of (by omega) (by omega)
  · exact hheld.mono (by omega)
  · rw [nI_add]
    exact ((isN.of (show v + 1 ≤ 100 by omega) (by omega)).add (rem3 hm1) (by omega)).mono (by omega)
  · rw [nI_add, nI_add]; exact isN.of (by omega) (by omega)
  · exact (hheld.add hm (by omega)).mono (by omega)
section BND
variable {T : Nat} {J : Nat → Nat → Int32}
theorem lastsBy99 {s m t : Int32} : isN (sLastsBy J s m t) 99 := isN.held (by omega) (by omega)
theorem errsBy1 {m t k : Int32} : isN (sErrsBy J m t k) 1 := isN.held (by omega) (by omega)
theorem lasts300 (h : IJ T J) (k : Nat) : isN (sLasts J k) 300 := lasting300 lastsBy99 (h.m k) (h.sc k)
theorem back300 (h : IJ T J) (k : Nat) : isN (sBack J k) 300 := by
  unfold sBack sBackOf
  split
  · exact lasts300 h k
  · obtain ⟨m, h1, h2⟩ := (isN_iff (by omega)).mp (lasts300 h k)
    rw [h2]
    exact div2 h1
theorem mayDo_k {k : Nat} (h : sMayDo J k = true) : k < jn J ∧ sDone J k = false ∧ ¬ J 0 9 < J 3 k := by
  unfold sMayDo sReady at h
  simp only [Bool.and_eq_true, Bool.not_eq_true', decide_eq_true_eq, decide_eq_false_iff_not] at h
  exact ⟨h.1.1.1, h.1.1.2, h.1.2.2⟩
theorem mayUn_k {k : Nat} (h : sMayUn J k = true) : k < jn J ∧ sDone J k = true := by
  unfold sMayUn at h
  simp only [Bool.and_eq_true, Bool.not_eq_true', decide_eq_true_eq] at h
  exact ⟨h.1.1.1, h.1.1.2⟩
theorem bag_sub {g s : Int32} (hg : isN g 999) (hs : isN s 9) (h : ¬ g < s) : isN (g - s) 999 := by
  obtain ⟨a, h1, rfl⟩ := (isN_iff (by omega)).mp hg
  obtain ⟨b, h2, rfl⟩ := (isN_iff (by omega)).mp hs
  rw [nI_ltI (by omega) (by omega)] at h
  rw [nI_sub (by omega)]
  exact isN.of (by omega) (by omega)
theorem IJ.pass (h : IJ T J) (hT : T < 2000000000) {k : Nat} (hm : sMayDo J k = true) : IJ (T + 300) (jPass J k) := by
  obtain ⟨hk, -, hb⟩ := mayDo_k hm
  have h8 := jn8 h
  unfold jPass
  refine IJ.uDone (IJ.uBag (IJ.uMin h ?_) ?_) ?_
  · exact h.minute.add (lasts300 h k) (by omega)
  · exact bag_sub h.bag (h.sc k) hb
  · exact bt_with_lt hk h8 h.done
theorem mayDo_w {k : Nat} {v : Int32} : sMayDo (ud J 0 7 v) k = sMayDo J k := rfl
theorem IJ.fin (h : IJ T J) (hT : T < 2000000000) {k : Nat} (hm : sMayDo J k = true) : IJ (T + 300) (jFin J k) := by
  obtain ⟨hk, -, hb⟩ := mayDo_k hm
  have h8 := jn8 h
  exact IJ.pass (h.uWrong (bt_with_lt hk h8 h.wrong)) hT hm
theorem give999 {g s : Int32} (hg : isN g 999) (hs : isN s 9) : isN (sGive g s) 999 := by
  obtain ⟨a, h1, rfl⟩ := (isN_iff (by omega)).mp hg
  obtain ⟨b, h2, rfl⟩ := (isN_iff (by omega)).mp hs
  unfold sGive
  have e : ∃ c, c ≤ 9 ∧ (if nI 0 < nI b - nI 1 then nI b - nI 1 else nI 0) = nI c := by
    rcases Nat.eq_zero_or_pos b with rfl | hb
    · exact ⟨0, by omega, by decide +kernel⟩
    · rw [nI_sub hb]
      split
      · exact ⟨b - 1, by omega, rfl⟩
      · exact ⟨0, by omega, rfl⟩
  obtain ⟨c, hc, e⟩ := e
  rw [e, nI_add]
  split
  · rename_i hlt
    rw [nI_ltI (by omega) (by omega)] at hlt
    exact isN.of (by omega) (by omega)
  · exact isN.of (by omega) (by omega)
theorem IJ.apart (h : IJ T J) (hT : T < 2000000000) {k : Nat} (hm : sMayUn J k = true) : IJ (T + 300) (jApart J k) := by
  obtain ⟨hk, -⟩ := mayUn_k hm
  have h8 := jn8 h
  unfold jApart
  refine IJ.uWrong (IJ.uDone (IJ.uBag (IJ.uMin h ?_) ?_) ?_) ?_
  · exact h.minute.add (back300 h k) (by omega)
  · exact give999 h.bag (h.sc k)
  · exact bt_with_lt hk h8 h.done
  · exact bt_with_lt hk h8 h.wrong
theorem jn_pass {k : Nat} : jn (jPass J k) = jn J := rfl
theorem jn_fin {k : Nat} : jn (jFin J k) = jn J := rfl
theorem jn_apart {k : Nat} : jn (jApart J k) = jn J := rfl
theorem sFirst_some {J : Nat → Nat → Int32} : ∀ {m i k : Nat}, sFirst J m i = some k → sMayDo J k = true
  | 0, _, _, h => by cases h
  | m + 1, i, k, h => by
    unfold sFirst at h
    split at h
    · rename_i h1; cases h; exact h1
    · exact sFirst_some h
end BND
