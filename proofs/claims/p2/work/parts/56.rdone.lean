/-! THE REFERENCE: done, undone, and the face that hangs on it -/
def WJ (J : Nat → Nat → Int32) (T : Nat) (X X' : Nat → Nat → Int32) : Prop := jm (X' 64) = J ∧ RK T (X' 64) ∧ (∀ c, c ≠ 64 → X' c = X c) ∧ ∀ k, 125 ≤ k → X' 64 k = X 64 k
def RNJ (v : Int32) (J : Nat → Nat → Int32) (T : Nat) (X : Nat → Nat → Int32) : ab_R → Prop := fun r => ∃ X' Z', r = (some (.int v), Wd X' Z') ∧ WJ J T X X'
def RVJ (J : Nat → Nat → Int32) (T : Nat) (X : Nat → Nat → Int32) : ab_R → Prop := fun r => ∃ X' Z', r = (none, Wd X' Z') ∧ WJ J T X X'
section ERJ
variable {d pc pc' lk : Nat} {M : ab_M} {L L' : ab_Lo} {st : List Value} {w : ab_W} {P : ab_R → Prop} {X Z : Nat → Nat → Int32}
theorem er_cIw (cls : Nat) {c j T : Nat} {J : Nat → Nat → Int32} {ins : Instr} {fs As rest : List Value} (hf : ab_fetch M.2.2.2.2.2.2.2 pc = some (ins, lk)) (hi : isCI ins = true) (hq : qI lk cls st = some (c, j, As, rest)) (hc : Nat.blt c 79 = true) (ho : cO c (X c) (Z c) = .inl (cls, fs)) (hp : pc + 3 = pc') (h : EC d j As (Wd X Z) (RVJ J T X)) (k : ∀ X' Z', WJ J T X X' → ER d M pc' L rest (Wd X' Z') P) : ER d M pc L st (Wd X Z) P :=
  er_cI cls hf hi hq hc ho hp h (fun r hr => by obtain ⟨X', Z', rfl, h1⟩ := hr; exact k X' Z' h1)
theorem er_cIj (cls : Nat) {c j T : Nat} {v : Int32} {J : Nat → Nat → Int32} {ins : Instr} {fs As rest : List Value} (hf : ab_fetch M.2.2.2.2.2.2.2 pc = some (ins, lk)) (hi : isCI ins = true) (hq : qI lk cls st = some (c, j, As, rest)) (hc : Nat.blt c 79 = true) (ho : cO c (X c) (Z c) = .inl (cls, fs)) (hp : pc + 3 = pc') (h : EC d j As (Wd X Z) (RNJ v J T X)) (k : ∀ X' Z', WJ J T X X' → ER d M pc' L (.int v :: rest) (Wd X' Z') P) : ER d M pc L st (Wd X Z) P :=
  er_cI cls hf hi hq hc ho hp h (fun r hr => by obtain ⟨X', Z', rfl, h1⟩ := hr; exact k X' Z' h1)
end ERJ
section WJS
variable {J J' : Nat → Nat → Int32} {T T' : Nat} {X Y V : Nat → Nat → Int32} {v : Int32} {k p : Nat} {R : Nat → Int32}
theorem WJ.j (h : WJ J T X Y) : jm (Y 64) = J := h.1
theorem WJ.rk (h : WJ J T X Y) : RK T (Y 64) := h.2.1
theorem WJ.off (h : WJ J T X Y) {c : Nat} (hc : c ≠ 64) : Y c = X c := h.2.2.1 c hc
theorem WJ.trans (h : WJ J T X Y) (h2 : WJ J' T' Y V) : WJ J' T' X V := ⟨h2.1, h2.2.1, fun c hc => (h2.2.2.1 c hc).trans (h.2.2.1 c hc), fun k hk => (h2.2.2.2 k hk).trans (h.2.2.2 k hk)⟩
theorem WJ.rf (h : RK T (X 64)) : WJ (jm (X 64)) T X X := ⟨rfl, h, fun _ _ => rfl, fun _ _ => rfl⟩
theorem WJ_u (hp : p < 125) (hj : jm (u1 (X 64) p v) = J) (hr : RK T (u1 (X 64) p v)) : WJ J T X (ud X 64 p v) := ⟨by rw [ud_same]; exact hj, by rw [ud_same]; exact hr, fun c hc => ud_ne hc, fun k hk => by rw [ud_same, u1_ne (by omega)]⟩
theorem RVJ_of {Z : Nat → Nat → Int32} (h : WJ J T X Y) : RVJ J T X (none, Wd Y Z) := ⟨Y, Z, rfl, h⟩
theorem RNJ_of {Z : Nat → Nat → Int32} {x : Int32} (hx : x = v) (h : WJ J T X Y) : RNJ v J T X (some (.int x), Wd Y Z) := ⟨Y, Z, by rw [hx], h⟩
theorem IJ.uWait (h : IJ T J) : IJ T (ud J 10 k v) := ⟨h.n, h.kind, h.m, h.sc, h.needs, h.done, h.wrong, h.hands, h.bag, h.minute, h.tl, h.te, h.fed, h.waits, h.tape⟩
theorem wMin (h : RK T (X 64)) (hj : jm (X 64) = J) (hv : isN v T') (hp : p = 0) : WJ (ud J 0 10 v) T' X (ud X 64 p v) := by
  subst hp
  subst hj
  refine WJ_u (by omega) (jm_uMin ) (h.upd (by omega) (fun i _ => ⟨by omega, by omega⟩) ?_)
  rw [jm_uMin ]
  exact h.ij.uMin hv
theorem wZ (h : RK T (X 64)) (hj : jm (X 64) = J)  (hp : p = 1) : WJ (ud J 0 17 v) T X (ud X 64 p v) := by
  subst hp
  subst hj
  refine WJ_u (by omega) (jm_uZ ) (h.upd (by omega) (fun i _ => ⟨by omega, by omega⟩) ?_)
  rw [jm_uZ ]
  exact h.ij.uZ 
theorem wHands (h : RK T (X 64)) (hj : jm (X 64) = J) (hv : v = nI 1 ∨ v = nI 2) (hp : p = 3) : WJ (ud J 0 8 v) T X (ud X 64 p v) := by
  subst hp
  subst hj
  refine WJ_u (by omega) (jm_uHands ) (h.upd (by omega) (fun i _ => ⟨by omega, by omega⟩) ?_)
  rw [jm_uHands ]
  exact h.ij.uHands hv
theorem wBag (h : RK T (X 64)) (hj : jm (X 64) = J) (hv : isN v 999) (hp : p = 4) : WJ (ud J 0 9 v) T X (ud X 64 p v) := by
  subst hp
  subst hj
  refine WJ_u (by omega) (jm_uBag ) (h.upd (by omega) (fun i _ => ⟨by omega, by omega⟩) ?_)
  rw [jm_uBag ]
  exact h.ij.uBag hv
theorem wFed (h : RK T (X 64)) (hj : jm (X 64) = J) (hv : isN v 50) (hp : p = 5) : WJ (ud J 0 14 v) T X (ud X 64 p v) := by
  subst hp
  subst hj
  refine WJ_u (by omega) (jm_uFed ) (h.upd (by omega) (fun i _ => ⟨by omega, by omega⟩) ?_)
  rw [jm_uFed ]
  exact h.ij.uFed hv
theorem wWaits (h : RK T (X 64)) (hj : jm (X 64) = J) (hv : isN v 20) (hp : p = 6) : WJ (ud J 0 16 v) T X (ud X 64 p v) := by
  subst hp
  subst hj
  refine WJ_u (by omega) (jm_uWaits ) (h.upd (by omega) (fun i _ => ⟨by omega, by omega⟩) ?_)
  rw [jm_uWaits ]
  exact h.ij.uWaits hv
theorem wKind (h : RK T (X 64)) (hj : jm (X 64) = J) (hk : k < 8) (hv : isN v 6) (hp : p = 7 + 6 * k) : WJ (ud J 1 k v) T X (ud X 64 p v) := by
  subst hp
  subst hj
  refine WJ_u (by omega) (jm_uKind hk) (h.upd (by omega) (fun i _ => ⟨by omega, by omega⟩) ?_)
  rw [jm_uKind hk]
  exact h.ij.uKind hv
theorem wM (h : RK T (X 64)) (hj : jm (X 64) = J) (hk : k < 8) (hv : isN v 9) (hp : p = 8 + 6 * k) : WJ (ud J 2 k v) T X (ud X 64 p v) := by
  subst hp
  subst hj
  refine WJ_u (by omega) (jm_uM hk) (h.upd (by omega) (fun i _ => ⟨by omega, by omega⟩) ?_)
  rw [jm_uM hk]
  exact h.ij.uM hv
theorem wSc (h : RK T (X 64)) (hj : jm (X 64) = J) (hk : k < 8) (hv : isN v 9) (hp : p = 9 + 6 * k) : WJ (ud J 3 k v) T X (ud X 64 p v) := by
  subst hp
  subst hj
  refine WJ_u (by omega) (jm_uSc hk) (h.upd (by omega) (fun i _ => ⟨by omega, by omega⟩) ?_)
  rw [jm_uSc hk]
  exact h.ij.uSc hv
theorem wNeeds (h : RK T (X 64)) (hj : jm (X 64) = J) (hk : k < 8) (hv : ∀ i, bt v i = true → i < k) (hp : p = 10 + 6 * k) : WJ (ud J 4 k v) T X (ud X 64 p v) := by
  subst hp
  subst hj
  refine WJ_u (by omega) (jm_uNeeds hk) (h.upd (by omega) (fun i _ => ⟨by omega, by omega⟩) ?_)
  rw [jm_uNeeds hk]
  exact h.ij.uNeeds hv
theorem wTape (h : RK T (X 64)) (hj : jm (X 64) = J) (hk : k < 50) (hv : isN v 255) (hp : p = 55 + k) : WJ (ud J 9 k v) T X (ud X 64 p v) := by
  subst hp
  subst hj
  refine WJ_u (by omega) (jm_uTape h.n8 hk) (h.upd (by omega) (fun i _ => ⟨by omega, by omega⟩) ?_)
  rw [jm_uTape h.n8 hk]
  exact h.ij.uTape hv
theorem wWait (h : RK T (X 64)) (hj : jm (X 64) = J) (hk : k < 20) (hp : p = 105 + k) : WJ (ud J 10 k v) T X (ud X 64 p v) := by
  subst hp
  subst hj
  refine WJ_u (by omega) (jm_uWait h.n8 hk) (h.upd (by omega) (fun i _ => ⟨by omega, by omega⟩) ?_)
  rw [jm_uWait h.n8 hk]
  exact h.ij.uWait 
theorem wDone {c : Bool} (h : RK T (X 64)) (hj : jm (X 64) = J) (hk : k < jn J) (hp : p = 11 + 6 * k) : WJ (ud J 0 6 (sWith (J 0 6) (nI k) c)) T X (ud X 64 p (bI c)) := by
  subst hp
  subst hj
  have h8 := h.n8
  have hk8 : k < 8 := Nat.lt_of_lt_of_le hk h8
  refine WJ_u (by omega) (jm_uDone h.n8 hk (fun i hi => h.fD (by have := h.n8; omega))) (h.updF (by omega) (fl_bI c) ?_)
  rw [jm_uDone h.n8 hk (fun i hi => h.fD (by have := h.n8; omega))]
  exact h.ij.uDone (bt_with_lt hk h8 h.ij.done)
theorem wWrong {c : Bool} (h : RK T (X 64)) (hj : jm (X 64) = J) (hk : k < jn J) (hp : p = 12 + 6 * k) : WJ (ud J 0 7 (sWith (J 0 7) (nI k) c)) T X (ud X 64 p (bI c)) := by
  subst hp
  subst hj
  have h8 := h.n8
  have hk8 : k < 8 := Nat.lt_of_lt_of_le hk h8
  refine WJ_u (by omega) (jm_uWrong h.n8 hk (fun i hi => h.fW (by have := h.n8; omega))) (h.updF (by omega) (fl_bI c) ?_)
  rw [jm_uWrong h.n8 hk (fun i hi => h.fW (by have := h.n8; omega))]
  exact h.ij.uWrong (bt_with_lt hk h8 h.ij.wrong)
end WJS
theorem ud_comm {J : Nat → Nat → Int32} {c a b : Nat} {v w : Int32} (h : a ≠ b) : ud (ud J c a v) c b w = ud (ud J c b w) c a v := by
  funext i j
  simp only [ud_at]
  by_cases hi : i = c
  · rw [if_pos hi, if_pos hi, if_pos hi, if_pos hi]
    by_cases h1 : j = b
    · subst h1
      rw [if_pos rfl, if_neg (Ne.symm h), if_pos rfl]
    · rw [if_neg h1, if_neg h1]
  · rw [if_neg hi, if_neg hi, if_neg hi, if_neg hi]
theorem ud_comm2 {J : Nat → Nat → Int32} {c e a b : Nat} {v w : Int32} (h : c ≠ e) : ud (ud J c a v) e b w = ud (ud J e b w) c a v := by
  funext i j
  simp only [ud_at]
  by_cases hi : i = e
  · have hc : ¬ i = c := by rw [hi]; exact Ne.symm h
    simp only [if_pos hi, if_neg hc]
  · simp only [if_neg hi]
theorem r_bag (X : Nat → Nat → Int32) (m : Int32) : ud X 64 0 m 64 4 = X 64 4 := rfl
theorem r_sc {X : Nat → Nat → Int32} {m : Int32} {k : Nat} : jm (ud X 64 0 m 64) 3 k = jm (X 64) 3 k := by
  rw [ud_same, jm_uMin]
  rfl
theorem err_b {v : Int32} (h : isN v 1) : v = bI (!decide (v = 0)) := by
  obtain ⟨n, hn, rfl⟩ := (isN_iff (by omega)).mp h
  have : n = 0 ∨ n = 1 := by omega
  rcases this with rfl | rfl <;> decide +kernel
theorem jFin_alt {J : Nat → Nat → Int32} {k : Nat} : ud (ud (ud (ud J 0 10 (J 0 10 + sLasts J k)) 0 9 (J 0 9 - J 3 k)) 0 6 (sWith (J 0 6) (nI k) true)) 0 7 (sWith (J 0 7) (nI k) (!decide (sErrs J k = 0))) = jFin J k := by
  rw [ud_comm (c := 0) (a := 6) (b := 7) (by omega), ud_comm (c := 0) (a := 9) (b := 7) (by omega), ud_comm (c := 0) (a := 10) (b := 7) (by omega)]
  rfl
set_option maxRecDepth 100000 in
set_option maxHeartbeats 4000000 in
theorem l_rIsDone (d : Nat) (X Z : Nat → Nat → Int32) {T : Nat} (hI : RK T (X 64)) (hT : T < 2000000000) {k : Nat} (hm : sMayDo (jm (X 64)) k = true) : EC (d + 5) 166 [.ref 63, .int (nI k)] (Wd X Z) (RVJ (jFin (jm (X 64)) k) (T + 300) X) := by
  refine er_enter (L := [(0, _), (1, _)]) rfl rfl rfl ?_
  obtain ⟨hk, _, hbg⟩ := mayDo_k hm
  have h8 := jn8 hI.ij
  have hk8 : k < 8 := by omega
  have hq := kind7 hI.ij k
  refine er_loc (pc' := 1) rfl rfl rfl ?_
  refine er_loc (pc' := 2) rfl rfl rfl ?_
  refine er_loc (pc' := 3) rfl rfl rfl ?_
  refine er_cIi (pc' := 6) (rest := [_, _]) 12 rfl rfl rfl rfl rfl rfl (l_rTiredJ _ X _ hI (by omega)) ?_
  refine er_cIz (pc' := 9) (rest := []) 12 rfl rfl rfl rfl rfl rfl (l_rErrsOf _ X _ hI hk8 _) ?_
  intro Z2
  refine er_loc (pc' := 10) (L' := [(2, _), (0, _), (1, _)]) rfl rfl rfl ?_
  refine er_loc (pc' := 11) rfl rfl rfl ?_
  refine er_gf (pc' := 14) (_) rfl rfl rfl rfl rfl ?_
  refine er_k (pc' := 15) (nI 0) rfl rfl rfl ?_
  refine er_pure (pc' := 16) rfl rfl rfl ?_
  refine er_ia (pc' := 17) (0) rfl rfl rfl rfl (by omega) rfl rfl ?_
  refine er_loc (pc' := 18) rfl rfl rfl ?_
  refine er_loc (pc' := 19) rfl rfl rfl ?_
  refine er_cIz (pc' := 22) (rest := [_, _, _]) 12 rfl rfl rfl rfl rfl rfl (l_rLastsOf _ X _ hI (by omega) hk) ?_
  intro Z2
  refine er_iadd (pc' := 23) rfl rfl ?_
  refine er_isX (pc' := 24) (0) rfl rfl (fun _ => rfl) rfl (by omega) rfl rfl ?_
  refine er_loc (pc' := 25) rfl rfl rfl ?_
  refine er_gf (pc' := 28) (_) rfl rfl rfl rfl rfl ?_
  refine er_k (pc' := 29) (nI 4) rfl rfl rfl ?_
  refine er_pure (pc' := 30) rfl rfl rfl ?_
  refine er_ia (pc' := 31) (4) rfl rfl rfl rfl (by omega) rfl rfl ?_
  rw [r_bag]
  refine er_loc (pc' := 32) rfl rfl rfl ?_
  refine er_loc (pc' := 33) rfl rfl rfl ?_
  refine er_k (pc' := 34) (nI 2) rfl rfl rfl ?_
  refine er_cIi (pc' := 37) (rest := [_, _, _]) 12 rfl rfl rfl rfl rfl rfl (l_of2 _ _ _ (by omega)) ?_
  rw [r_sc]
  refine er_isub (pc' := 38) rfl rfl ?_
  refine er_isX (pc' := 39) (4) rfl rfl (fun _ => rfl) rfl (by omega) rfl rfl ?_
  refine er_loc (pc' := 40) rfl rfl rfl ?_
  refine er_loc (pc' := 41) rfl rfl rfl ?_
  refine er_k (pc' := 42) (nI 4) rfl rfl rfl ?_
  refine er_k (pc' := 43) (nI 1) rfl rfl rfl ?_
  refine er_cIv (pc' := 46) (rest := []) 12 rfl rfl rfl rfl rfl rfl (l_rLets _ _ _ (show _ < 8 by omega) (show 4 < 6 by omega) _) ?_
  intro Z7
  refine er_loc (pc' := 47) rfl rfl rfl ?_
  refine er_loc (pc' := 48) rfl rfl rfl ?_
  refine er_k (pc' := 49) (nI 5) rfl rfl rfl ?_
  refine er_loc (pc' := 50) rfl rfl rfl ?_
  refine er_cIv (pc' := 53) (rest := []) 12 rfl rfl rfl rfl rfl rfl (l_rLets _ _ _ (show _ < 8 by omega) (show 5 < 6 by omega) _) ?_
  intro Z7
  refine er_vret rfl rfl ?_
  refine RVJ_of ?_
  have h1 := wMin (p := 0) hI rfl (hI.ij.minute.add (lasts300 hI.ij k) (by omega)) rfl
  have h2 := wBag (p := 4) h1.rk h1.j (bag_sub hI.ij.bag (hI.ij.sc k) hbg) rfl
  have h3 := wDone (c := true) (p := 7 + 6 * k + 4) h2.rk h2.j hk (by omega)
  have h4 := wWrong (c := !decide (sErrs (jm (X 64)) k = 0)) (p := 7 + 6 * k + 5) h3.rk h3.j hk (by omega)
  have h5 := h1.trans (h2.trans (h3.trans h4))
  rw [show ∀ q m g, ud (ud (ud (jm (X 64)) 0 10 m) 0 9 g) 0 6 q 0 7 = jm (X 64) 0 7 from fun _ _ _ => rfl, show ∀ m g, ud (ud (jm (X 64)) 0 10 m) 0 9 g 0 6 = jm (X 64) 0 6 from fun _ _ => rfl, jFin_alt, ← err_b (show isN (sErrs (jm (X 64)) k) 1 from errsBy1)] at h5
  exact h5
theorem give_eq {g s : Int32} (hg : isN g 999) (hs : isN s 9) : sHeld (if 0 < s then g + s - nI 1 else g) (nI 0) (nI 999) = sGive g s := by
  obtain ⟨a, ha, rfl⟩ := (isN_iff (by omega)).mp hg
  obtain ⟨b, hb, rfl⟩ := (isN_iff (by omega)).mp hs
  rcases Nat.eq_zero_or_pos b with h0 | h0
  · subst h0
    rw [if_neg (by decide +kernel)]
    unfold sHeld sGive
    rw [if_neg (show ¬ nI a < nI 0 from nI_nlt (by omega) (by omega)), if_neg (show ¬ nI 999 < nI a from nI_nlt (by omega) (by omega)), show (if nI 0 < nI 0 - nI 1 then nI 0 - nI 1 else nI 0) = nI 0 from by decide +kernel, show nI a + nI 0 = nI a from by rw [nI_add]; rfl]
    by_cases h9 : a < 999
    · rw [if_pos (nI_lt h9 (by omega))]
    · rw [if_neg (nI_nlt (by omega) (by omega)), show a = 999 by omega]
  · rw [if_pos (show (0 : Int32) < nI b from nI_lt (a := 0) h0 (by omega))]
    unfold sHeld sGive
    have e1 : nI a + nI b - nI 1 = nI (a + b - 1) := by rw [nI_add, nI_sub (by omega)]
    have e2 : nI b - nI 1 = nI (b - 1) := nI_sub (by omega)
    have e3 : (if nI 0 < nI (b - 1) then nI (b - 1) else nI 0) = nI (b - 1) := by
      by_cases h1 : b = 1
      · subst h1; decide +kernel
      · rw [if_pos (nI_lt (by omega) (by omega))]
    rw [e1, e2, e3, nI_add, show a + (b - 1) = a + b - 1 by omega, if_neg (show ¬ nI (a + b - 1) < nI 0 from nI_nlt (by omega) (by omega))]
    by_cases h9 : a + b - 1 < 999
    · rw [if_pos (nI_lt h9 (by omega)), if_neg (nI_nlt (by omega) (by omega))]
    · rw [if_neg (show ¬ nI (a + b - 1) < nI 999 from nI_nlt (by omega) (by omega))]
      by_cases h10 : 999 < a + b - 1
      · rw [if_pos (nI_lt h10 (by omega))]
      · rw [if_neg (nI_nlt (by omega) (by omega)), show a + b - 1 = 999 by omega]
set_option maxRecDepth 100000 in
set_option maxHeartbeats 4000000 in
theorem l_rIsUndone (d : Nat) (X Z : Nat → Nat → Int32) {T : Nat} (hI : RK T (X 64)) (hT : T < 2000000000) {k : Nat} (hk : k < jn (jm (X 64))) : EC (d + 6) 169 [.ref 63, .int (nI k)] (Wd X Z) (RVJ (jApart (jm (X 64)) k) (T + 300) X) := by
  refine er_enter (L := [(0, _), (1, _)]) rfl rfl rfl ?_
  have h8 := jn8 hI.ij
  have hk8 : k < 8 := by omega
  have hq := kind7 hI.ij k
  refine er_loc (pc' := 1) rfl rfl rfl ?_
  refine er_loc (pc' := 2) rfl rfl rfl ?_
  refine er_k (pc' := 3) (nI 2) rfl rfl rfl ?_
  refine er_cIi (pc' := 6) (rest := []) 12 rfl rfl rfl rfl rfl rfl (l_of2 _ X _ (by omega)) ?_
  refine er_loc (pc' := 7) (L' := [(2, _), (0, _), (1, _)]) rfl rfl rfl ?_
  refine er_loc (pc' := 8) rfl rfl rfl ?_
  refine er_gf (pc' := 11) (_) rfl rfl rfl rfl rfl ?_
  refine er_k (pc' := 12) (nI 0) rfl rfl rfl ?_
  refine er_pure (pc' := 13) rfl rfl rfl ?_
  refine er_ia (pc' := 14) (0) rfl rfl rfl rfl (by omega) rfl rfl ?_
  refine er_loc (pc' := 15) rfl rfl rfl ?_
  refine er_loc (pc' := 16) rfl rfl rfl ?_
  refine er_cIz (pc' := 19) (rest := [_, _, _]) 12 rfl rfl rfl rfl rfl rfl (l_rBackOf _ X _ hI (by omega) hk) ?_
  intro Z2
  refine er_iadd (pc' := 20) rfl rfl ?_
  refine er_isX (pc' := 21) (0) rfl rfl (fun _ => rfl) rfl (by omega) rfl rfl ?_
  refine er_loc (pc' := 22) rfl rfl rfl ?_
  refine er_gf (pc' := 25) (_) rfl rfl rfl rfl rfl ?_
  refine er_k (pc' := 26) (nI 4) rfl rfl rfl ?_
  refine er_loc (pc' := 27) rfl rfl rfl ?_
  refine er_if_le (pc' := 30) rfl rfl (fun h27 => ?_) (fun h27 => ?_)
  · refine er_loc (pc' := 44) rfl rfl rfl ?_
    refine er_gf (pc' := 47) (_) rfl rfl rfl rfl rfl ?_
    refine er_k (pc' := 48) (nI 4) rfl rfl rfl ?_
    refine er_ia (pc' := 49) (4) rfl rfl rfl rfl (by omega) rfl rfl ?_
    rw [r_bag]
    refine er_k (pc' := 50) (nI 0) rfl rfl rfl ?_
    refine er_k (pc' := 53) (nI 999) rfl rfl rfl ?_
    refine er_cSi (pc' := 56) (rest := [_, _]) rfl rfl rfl (l_held _ _ _ _ _) ?_
    refine er_isX (pc' := 57) (4) rfl rfl (fun _ => rfl) rfl (by omega) rfl rfl ?_
    refine er_loc (pc' := 58) rfl rfl rfl ?_
    refine er_loc (pc' := 59) rfl rfl rfl ?_
    refine er_k (pc' := 60) (nI 4) rfl rfl rfl ?_
    refine er_k (pc' := 61) (nI 0) rfl rfl rfl ?_
    refine er_cIv (pc' := 64) (rest := []) 12 rfl rfl rfl rfl rfl rfl (l_rLets _ _ _ (show _ < 8 by omega) (show 4 < 6 by omega) _) ?_
    intro Z7
    refine er_loc (pc' := 65) rfl rfl rfl ?_
    refine er_loc (pc' := 66) rfl rfl rfl ?_
    refine er_k (pc' := 67) (nI 5) rfl rfl rfl ?_
    refine er_k (pc' := 68) (nI 0) rfl rfl rfl ?_
    refine er_cIv (pc' := 71) (rest := []) 12 rfl rfl rfl rfl rfl rfl (l_rLets _ _ _ (show _ < 8 by omega) (show 5 < 6 by omega) _) ?_
    intro Z7
    refine er_vret rfl rfl ?_
    refine RVJ_of ?_
    have hg : sHeld (X 64 4) (nI 0) (nI 999) = sGive (X 64 4) (jm (X 64) 3 k) := by rw [← give_eq (g := X 64 4) hI.ij.bag (hI.ij.sc k), if_neg h27]
    rw [hg]
    have h1 := wMin (p := 0) hI rfl (hI.ij.minute.add (back300 hI.ij k) (by omega)) rfl
    have h2 := wBag (p := 4) h1.rk h1.j (give999 hI.ij.bag (hI.ij.sc k)) rfl
    have h3 := wDone (c := false) (p := 7 + 6 * k + 4) h2.rk h2.j hk (by omega)
    have h4 := wWrong (c := false) (p := 7 + 6 * k + 5) h3.rk h3.j hk (by omega)
    exact h1.trans (h2.trans (h3.trans h4))
  · refine er_loc (pc' := 31) rfl rfl rfl ?_
    refine er_gf (pc' := 34) (_) rfl rfl rfl rfl rfl ?_
    refine er_k (pc' := 35) (nI 4) rfl rfl rfl ?_
    refine er_ia (pc' := 36) (4) rfl rfl rfl rfl (by omega) rfl rfl ?_
    rw [r_bag]
    refine er_loc (pc' := 37) rfl rfl rfl ?_
    refine er_iadd (pc' := 38) rfl rfl ?_
    refine er_k (pc' := 39) (nI 1) rfl rfl rfl ?_
    refine er_isub (pc' := 40) rfl rfl ?_
    refine er_goto rfl ?_
    refine er_k (pc' := 50) (nI 0) rfl rfl rfl ?_
    refine er_k (pc' := 53) (nI 999) rfl rfl rfl ?_
    refine er_cSi (pc' := 56) (rest := [_, _]) rfl rfl rfl (l_held _ _ _ _ _) ?_
    refine er_isX (pc' := 57) (4) rfl rfl (fun _ => rfl) rfl (by omega) rfl rfl ?_
    refine er_loc (pc' := 58) rfl rfl rfl ?_
    refine er_loc (pc' := 59) rfl rfl rfl ?_
    refine er_k (pc' := 60) (nI 4) rfl rfl rfl ?_
    refine er_k (pc' := 61) (nI 0) rfl rfl rfl ?_
    refine er_cIv (pc' := 64) (rest := []) 12 rfl rfl rfl rfl rfl rfl (l_rLets _ _ _ (show _ < 8 by omega) (show 4 < 6 by omega) _) ?_
    intro Z7
    refine er_loc (pc' := 65) rfl rfl rfl ?_
    refine er_loc (pc' := 66) rfl rfl rfl ?_
    refine er_k (pc' := 67) (nI 5) rfl rfl rfl ?_
    refine er_k (pc' := 68) (nI 0) rfl rfl rfl ?_
    refine er_cIv (pc' := 71) (rest := []) 12 rfl rfl rfl rfl rfl rfl (l_rLets _ _ _ (show _ < 8 by omega) (show 5 < 6 by omega) _) ?_
    intro Z7
    refine er_vret rfl rfl ?_
    refine RVJ_of ?_
    have hg : sHeld (X 64 4 + jm (X 64) 3 k - nI 1) (nI 0) (nI 999) = sGive (X 64 4) (jm (X 64) 3 k) := by rw [← give_eq (g := X 64 4) hI.ij.bag (hI.ij.sc k), if_pos h27]
    rw [hg]
    have h1 := wMin (p := 0) hI rfl (hI.ij.minute.add (back300 hI.ij k) (by omega)) rfl
    have h2 := wBag (p := 4) h1.rk h1.j (give999 hI.ij.bag (hI.ij.sc k)) rfl
    have h3 := wDone (c := false) (p := 7 + 6 * k + 4) h2.rk h2.j hk (by omega)
    have h4 := wWrong (c := false) (p := 7 + 6 * k + 5) h3.rk h3.j hk (by omega)
    exact h1.trans (h2.trans (h3.trans h4))
