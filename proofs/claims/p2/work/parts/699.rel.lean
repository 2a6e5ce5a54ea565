/-! BOTH SIDES: what holds between them -/
def CRl (b c r : Int32) : Prop := c = sLow r b ∧ r = yLow r b
def SR (X : Nat → Nat → Int32) (a : Nat) : Prop := sBits (X 60 a) = true ∧ X 76 a = X 60 a ∧ (∃ g, g ≤ 40 ∧ X 59 a = nI g ∧ X 77 a = nI g) ∧ ∀ k, k < 40 → CRl (X 60 a) (X (55 + a) k) (X 78 (40 * a + k))
def TRc (X : Nat → Nat → Int32) : Prop := ∃ g, g ≤ 40 ∧ X 51 1 = nI g ∧ X 63 21 = nI g ∧ ∀ k, k < g → X 52 k = X 75 k
def Rel (X : Nat → Nat → Int32) : Prop := RK 99999 (X 64) ∧ jx X 9 = jm (X 64) ∧ IJ 99999 (jx X 22) ∧ (X 0 4 = 0 ∨ (RK 99999 (X 65) ∧ jx X 22 = jm (X 65))) ∧ X 0 4 = X 63 3 ∧ TRc X ∧ ∀ a, a < 4 → SR X a
section REL
variable {X X1 X2 Z : Nat → Nat → Int32}
theorem Rel.rk (h : Rel X) : RK 99999 (X 64) := h.1
theorem Rel.j (h : Rel X) : jx X 9 = jm (X 64) := h.2.1
theorem Rel.ij (h : Rel X) : IJ 99999 (jx X 9) := by rw [h.j]; exact h.rk.ij
theorem Rel.rk1 (h : Rel X) (e : X1 64 = X 64) : RK 99999 (X1 64) := by rw [e]; exact h.rk
theorem Rel.j1 (h : Rel X) (e : X1 64 = X 64) : jm (X1 64) = jx X 9 := by rw [e]; exact h.j.symm
theorem Rel.im (h : Rel X) : IJ 99999 (jx X 22) := h.2.2.1
theorem Rel.has (_ : Rel X) (s : Int32) : xHas X s = jHas (jx X 9) s := rfl
end REL
def XS (X X1 J : Nat → Nat → Int32) : Prop := jx X1 9 = J ∧ (∀ c, 22 ≤ c → c ≤ 34 → X1 c = X c) ∧ X1 0 4 = X 0 4 ∧ ∀ c, 51 ≤ c → c ≠ 53 → c ≠ 61 → c ≠ 62 → X1 c = X c
def MS (X X2 J : Nat → Nat → Int32) : Prop := jm (X2 64) = J ∧ RK 99999 (X2 64) ∧ OM X X2
def XP (v : Int32) (J X : Nat → Nat → Int32) : ab_R → Prop := fun r => ∃ X1 Z1, r = (some (.int v), Wd X1 Z1) ∧ XS X X1 J
def MP (v : Int32) (J X : Nat → Nat → Int32) : ab_R → Prop := fun r => ∃ X2 Z2, r = (some (.int v), Wd X2 Z2) ∧ MS X X2 J
def PAIR (X Z : Nat → Nat → Int32) (j1 j2 : Nat) (as : List Value) (c : Bool) : Prop := EC 200 j1 (.ref 0 :: as) (Wd X Z) (fun r => ∃ v X1 Z1, r = (some (.int v), Wd X1 Z1) ∧ EC 200 j2 (.ref 63 :: as) (Wd X1 Z1) (fun r2 => ∃ v2 X2 Z2, r2 = (some (.int v2), Wd X2 Z2) ∧ Rel X2 ∧ (c = true → v = v2)))
section XSS
variable {X X1 X2 Z J J' : Nat → Nat → Int32} {v : Int32} {k : Nat} {r : ab_R}
theorem XS.rf (hJ : jx X 9 = J) : XS X X J := ⟨hJ, fun _ _ _ => rfl, rfl, fun _ _ _ _ _ => rfl⟩
theorem XS.err (h : XS X X1 J) : XS X (xErr X1 k) J := by
  refine ⟨?_, fun c h1 h2 => ?_, ?_, fun c h1 h2 h3 h4 => ?_⟩
  · rw [← h.1]
    exact jx_off (fun c _ hc => by unfold xErr; rw [ud_ne (by omega)])
  · unfold xErr; rw [ud_ne (by omega)]; exact h.2.1 c h1 h2
  · unfold xErr; rw [ud_ne (by omega)]; exact h.2.2.1
  · unfold xErr; rw [ud_ne h2]; exact h.2.2.2 c h1 h2 h3 h4
theorem XS.o9 (h : O9 X X1) (hJ : jx X1 9 = J) : XS X X1 J := ⟨hJ, fun c h1 h2 => h c (by omega), by rw [h 0 (by omega)], fun c h1 _ _ _ => h c (by omega)⟩
theorem XS.ot (h : OT X X1) (hJ : jx X 9 = J) : XS X X1 J := ⟨by rw [h.j9]; exact hJ, fun c h1 h2 => h c (by omega), by rw [h 0 (by omega)], fun c h1 _ _ _ => h c (by omega)⟩
theorem XS.op (h : OP X X1) (hJ : jx X 9 = J) : XS X X1 J := ⟨by rw [← hJ]; exact jx_off (fun c h1 h2 => h c (by omega) (by omega) (by omega)), fun c h1 h2 => h c (by omega) (by omega) (by omega), by rw [h 0 (by omega) (by omega) (by omega)], fun c h1 h2 h3 h4 => h c (by omega) h3 h4⟩
theorem XP_ri (hJ : jx X 9 = J) (h : RI v X r) : XP v J X r := by
  obtain ⟨Z', rfl⟩ := h
  exact ⟨X, Z', rfl, XS.rf hJ⟩
theorem XP_er (hJ : jx X 9 = J) (h : RI v (xErr X k) r) : XP v J X r := by
  obtain ⟨Z', rfl⟩ := h
  exact ⟨_, Z', rfl, (XS.rf hJ).err⟩
theorem XP_r9 (ho : O9 X X1) (hJ : jx X1 9 = J) (h : RI v X1 r) : XP v J X r := by
  obtain ⟨Z', rfl⟩ := h
  exact ⟨_, Z', rfl, XS.o9 ho hJ⟩
theorem XP_ro (hJ : jx X 9 = J) (h : RO v X r) : XP v J X r := by
  obtain ⟨X', Z', rfl, h1⟩ := h
  exact ⟨_, Z', rfl, XS.ot h1 hJ⟩
theorem XP_rj (h : RJ v J X r) : XP v J X r := by
  obtain ⟨X', Z', rfl, h1, h2⟩ := h
  exact ⟨_, Z', rfl, XS.o9 h2 h1⟩
theorem XP_rt (h : RT v 9 22 X r) (hJ : jx X 22 = J) : XP v J X r := by
  obtain ⟨X', Z', rfl, h1, h2⟩ := h
  exact ⟨_, Z', rfl, XS.o9 h2 (h1.trans hJ)⟩
theorem MS.rf (h : RK 99999 (X 64)) (hJ : jm (X 64) = J) : MS X X J := ⟨hJ, h, OM.rf X⟩
theorem MS.err (h : MS X X1 J) : MS X (yErr X1 k) J := ⟨by unfold yErr; rw [ud_ne (by omega)]; exact h.1, by unfold yErr; rw [ud_ne (by omega)]; exact h.2.1, h.2.2.err⟩
theorem OM.o64 (h : ∀ c, c ≠ 64 → X1 c = X c) : OM X X1 := ⟨fun c _ h2 _ _ _ _ _ => h c h2, by rw [h 63 (by omega)], by rw [h 63 (by omega)]⟩
theorem MP_ri (hI : RK 99999 (X 64)) (hJ : jm (X 64) = J) (h : RI v X r) : MP v J X r := by
  obtain ⟨Z', rfl⟩ := h
  exact ⟨X, Z', rfl, MS.rf hI hJ⟩
theorem MP_er (hI : RK 99999 (X 64)) (hJ : jm (X 64) = J) (h : RI v (yErr X k) r) : MP v J X r := by
  obtain ⟨Z', rfl⟩ := h
  exact ⟨_, Z', rfl, (MS.rf hI hJ).err⟩
theorem MP_nj (h : RNJ v J 99999 X r) : MP v J X r := by
  obtain ⟨X', Z', rfl, h1⟩ := h
  exact ⟨_, Z', rfl, h1.1, h1.2.1, OM.o64 h1.2.2.1⟩
theorem RK.cap {R : Nat → Int32} {T : Nat} (h : RK T R) (hm : isN (R 0) 99999) : RK 99999 R := ⟨⟨h.1.n, h.1.kind, h.1.m, h.1.sc, h.1.needs, h.1.done, h.1.wrong, h.1.hands, h.1.bag, hm, h.1.tl, h.1.te, h.1.fed, h.1.waits, h.1.tape⟩, h.2.1, h.2.2.1, h.2.2.2⟩
theorem MP_cap {T : Nat} (hm : isN (J 0 10) 99999) (h : RNJ v J T X r) : MP v J X r := by
  obtain ⟨X', Z', rfl, h1⟩ := h
  refine ⟨_, Z', rfl, h1.1, h1.2.1.cap ?_, OM.o64 h1.2.2.1⟩
  have e : X' 64 0 = J 0 10 := by rw [← h1.1]; rfl
  rw [e]
  exact hm
theorem MP_nt (h : RNT v J 99999 X r) : MP v J X r := by
  obtain ⟨X', Z', rfl, h1, h2, h3⟩ := h
  exact ⟨_, Z', rfl, h1, h2, OM.o64 h3⟩
theorem MP_r6 (hI : RK 99999 (X 64)) (hJ : jm (X 64) = J) (h : R6 v X r) : MP v J X r := by
  obtain ⟨X', Z', rfl, h1⟩ := h
  have e := h1 64 (by omega)
  exact ⟨_, Z', rfl, by rw [e]; exact hJ, by rw [e]; exact hI, fun c _ _ h3 _ _ _ _ => h1 c h3, by rw [h1 63 (by omega)], by rw [h1 63 (by omega)]⟩
theorem MP_oq (hI : RK 99999 (X 64)) (hJ : jm (X 64) = J) (h : ROQ v X r) : MP v J X r := by
  obtain ⟨X', Z', rfl, h1⟩ := h
  exact ⟨_, Z', rfl, by rw [h1.2.1]; exact hJ, by rw [h1.2.1]; exact hI, h1.1, h1.2.2 3 (by omega), h1.2.2 21 (by omega)⟩
theorem SR.keep {a : Nat} (h : SR X a) (ha : a < 4) (h1 : ∀ c, 55 ≤ c → c ≤ 60 → X2 c = X c) (h2 : ∀ c, 76 ≤ c → c ≤ 78 → X2 c = X c) : SR X2 a := by
  unfold SR
  rw [h1 60 (by omega) (by omega), h1 59 (by omega) (by omega), h1 (55 + a) (by omega) (by omega), h2 76 (by omega) (by omega), h2 77 (by omega) (by omega), h2 78 (by omega) (by omega)]
  exact h
theorem rel_keep (h : Rel X) (h1 : XS X X1 J) (h2 : MS X1 X2 J) : Rel X2 := by
  obtain ⟨a1, a2, a3, a4⟩ := h1
  obtain ⟨b1, b2, b3, b4, b5⟩ := h2
  have hb : ∀ c, c ≤ 62 → X2 c = X1 c := fun c hc => b3 c (by omega) (by omega) (by omega) (by omega) (by omega) (by omega) (by omega)
  have h9 : jx X2 9 = J := by rw [← a1]; exact jx_off (fun c _ hc => hb c (by omega))
  have h22 : jx X2 22 = jx X 22 := jx_off (fun c h1 h2 => by rw [hb c (by omega)]; exact a2 c h1 (by omega))
  have h04 : X2 0 4 = X 0 4 := by rw [hb 0 (by omega)]; exact a3
  have h65 : X2 65 = X 65 := by rw [b3 65 (by omega) (by omega) (by omega) (by omega) (by omega) (by omega) (by omega)]; exact a4 65 (by omega) (by omega) (by omega) (by omega)
  have h63 : X1 63 = X 63 := a4 63 (by omega) (by omega) (by omega) (by omega)
  refine ⟨b2, h9.trans b1.symm, by rw [h22]; exact h.im, ?_, ?_, ?_, ?_⟩
  · rw [h04, h65, h22]; exact h.2.2.2.1
  · rw [h04, b4, h63]; exact h.2.2.2.2.1
  · obtain ⟨g, g1, g2, g3, g4⟩ := h.2.2.2.2.2.1
    refine ⟨g, g1, ?_, ?_, fun k hk => ?_⟩
    · rw [hb 51 (by omega), a4 51 (by omega) (by omega) (by omega) (by omega)]; exact g2
    · rw [b5, h63]; exact g3
    · rw [hb 52 (by omega), a4 52 (by omega) (by omega) (by omega) (by omega), b3 75 (by omega) (by omega) (by omega) (by omega) (by omega) (by omega) (by omega), a4 75 (by omega) (by omega) (by omega) (by omega)]
      exact g4 k hk
  · intro a ha
    refine (h.2.2.2.2.2.2 a ha).keep ha (fun c c1 c2 => ?_) (fun c c1 c2 => ?_)
    · rw [hb c (by omega)]; exact a4 c (by omega) (by omega) (by omega) (by omega)
    · rw [b3 c (by omega) (by omega) (by omega) (by omega) (by omega) (by omega) (by omega)]; exact a4 c (by omega) (by omega) (by omega) (by omega)
theorem mk_pair {j1 j2 : Nat} {as : List Value} {v2 : Int32} {c : Bool} (h : Rel X) (h1 : EC 200 j1 (.ref 0 :: as) (Wd X Z) (XP v J X)) (h2 : ∀ X1 Z1, (∀ c, 63 ≤ c → X1 c = X c) → EC 200 j2 (.ref 63 :: as) (Wd X1 Z1) (MP v2 J X1)) (hv : c = true → v = v2) : PAIR X Z j1 j2 as c := by
  refine h1.mono (fun r hr => ?_)
  obtain ⟨X1, Z1, rfl, hx⟩ := hr
  refine ⟨v, X1, Z1, rfl, (h2 X1 Z1 (fun c hc => hx.2.2.2 c (by omega) (by omega) (by omega) (by omega))).mono (fun r2 hr2 => ?_)⟩
  obtain ⟨X2, Z2, rfl, hm⟩ := hr2
  exact ⟨v2, X2, Z2, rfl, rel_keep h hx hm, hv⟩
end XSS
theorem qL_tp {f g : PS → PT} {tp tp' : Nat → Int32} {e rk : Nat} (hp : ∀ p, pk tp e p = pk tp' e p) (hfg : ∀ s, f s = g s) : ∀ (m : Nat) (s : PS), qL f tp e rk m s = qL g tp' e rk m s
  | 0, s => rfl
  | m + 1, s => by
    unfold qL
    rw [hp, hfg]
    split
    · cases g (s.1 + 1, s.2) with
      | inl x => rfl
      | inr s' => exact qL_tp hp hfg m _
    · rfl
theorem pNum_tp {tp tp' : Nat → Int32} {e : Nat} (hp : ∀ p, pk tp e p = pk tp' e p) : ∀ (m p : Nat) (v : Int32), pNum tp e m p v = pNum tp' e m p v
  | 0, _, _ => rfl
  | m + 1, p, v => by
    unfold pNum
    rw [hp, pNum_tp hp m]
theorem qq_tp {tp tp' : Nat → Int32} {e u : Nat} (hp : ∀ p, pk tp e p = pk tp' e p) : ∀ (F rk op : Nat) (s : PS), qq tp e u F rk op s = qq tp' e u F rk op s
  | 0, rk, op, s => (show qq tp e u 0 rk op s = .inl s.1 from rfl).trans (show (.inl s.1 : PT) = qq tp' e u 0 rk op s from rfl)
  | F + 1, rk, op, s => by
    have ih := qq_tp (u := u) hp F
    by_cases c : rk < 5
    · rw [qq_R c, qq_R c]
      unfold qR
      rw [ih]
      cases qq tp' e u F (rk + 1) op s with
      | inl x => rfl
      | inr s' => exact qL_tp hp (fun s => ih (rk + 1) op s) _ _
    · have e1 : ∀ t, qq t e u (F + 1) rk op s = qP t e u (qq t e u F) op s := fun t => if_neg c
      rw [e1, e1]
      unfold qP
      rw [hp, pNum_tp hp, ih, ih]
      simp only [hp]
def VA (t t' : VT) : Prop := t.1 = t'.1 ∧ ∀ k, k < t.1 → t.2 k = t'.2 k
theorem VA.bgs {t t' : VT} (h : VA t t') (b : Int32) : VA (bg t b) (bg t' b) := by
  unfold bg
  rw [← h.1]
  by_cases c : t.1 < 40
  · rw [if_pos c, if_pos c]
    refine ⟨rfl, fun k hk => ?_⟩
    show u1 t.2 t.1 b k = u1 t'.2 t.1 b k
    rw [u1_at, u1_at]
    split
    · rfl
    · exact h.2 k (by have : k < t.1 + 1 := hk; omega)
  · rw [if_neg c, if_neg c]
    exact h
def VQ (a b : Int32 × VT) : Prop := a.1 = b.1 ∧ VA a.2 b.2
section VAS
variable {t t' : VT} {q : Nat} {n m x : Int32}
theorem VA.pf (h : VA t t') : VQ (vPF n x t) (vPF n x t') := ⟨rfl, h.bgs _⟩
theorem VA.fits (h : VA t t') : VQ (vFits q n x t) (vFits q n x t') := by
  unfold vFits
  split
  · exact ⟨rfl, (h.bgs _).bgs _⟩
  · exact h.pf
theorem VA.pe (h : VA t t') : VQ (vPE q n x t) (vPE q n x t') := by
  have g := (h.bgs (nI 11)).fits (q := q) (n := n) (x := x)
  exact ⟨congrArg (· * nI 2) g.1, g.2⟩
theorem VA.pl (h : VA t t') : VQ (vPL m x t) (vPL m x t') := ⟨rfl, h.bgs _⟩
theorem VA.hl (h : VA t t') : VQ (vHL m x t) (vHL m x t') := ⟨rfl, (h.bgs _).bgs _⟩
theorem VA.looks (h : VA t t') : VQ (vLooks q n m x t) (vLooks q n m x t') := by
  unfold vLooks
  split
  · exact h.hl
  · split
    · exact ⟨rfl, ((h.bgs _).bgs _).bgs _⟩
    · exact h.pl
theorem VA.ge (h : VA t t') : VQ (vGE q n m x t) (vGE q n m x t') := by
  have g := (h.bgs (nI 30)).pe (q := q) (n := n) (x := x)
  have g2 := g.2.looks (q := q) (n := n) (m := m) (x := nI 1)
  exact ⟨by unfold vGE; dsimp only; rw [g.1, g2.1], g2.2⟩
theorem VA.errs (h : VA t t') : VQ (vErrs q n m x t) (vErrs q n m x t') := by
  unfold vErrs
  split
  · exact h.ge
  · split
    · exact (h.bgs _).ge
    · exact h.pe
theorem VA.pu (h : VA t t') : VQ (vPU q n m x t) (vPU q n m x t') := by
  have g := (h.bgs (nI 13)).errs (q := q) (n := n) (m := m) (x := x)
  have g2 := g.2.looks (q := q) (n := n) (m := m) (x := x)
  exact ⟨by unfold vPU; dsimp only; rw [g.1, g2.1], g2.2⟩
theorem VA.undoes (h : VA t t') : VQ (vUndoes q n m x t) (vUndoes q n m x t') := by
  unfold vUndoes
  split
  · have g := (h.bgs (nI 50)).pu (q := q) (n := n) (m := m) (x := x)
    have g2 := g.2.fits (q := q) (n := n) (x := nI 2)
    exact ⟨by dsimp only; rw [g.1, g2.1], g2.2⟩
  · split
    · have g := (h.bgs (nI 71)).errs (q := q) (n := n) (m := m) (x := x)
      have g2 := g.2.pu (q := q) (n := n) (m := m) (x := x)
      exact ⟨by dsimp only; rw [g.1, g2.1], g2.2⟩
    · exact h.pu
theorem VA.voice (h : VA t t') {k : Nat} {w : Int32} : VQ (sVoice q k m w x t) (sVoice q k m w x t') := by
  unfold sVoice
  split
  · exact h.fits
  · split
    · exact h.errs
    · split
      · exact h.looks
      · exact h.undoes
theorem sVoice_le {k : Nat} {w : Int32} (h : t.1 ≤ 40) : (sVoice q k m w x t).2.1 ≤ 40 := by
  unfold sVoice
  split
  · exact vFits_le h
  · split
    · exact vErrs_le h
    · split
      · exact vLooks_le h
      · exact vUndoes_le h
end VAS
