/-! THE REFERENCE: its laws worked out -/
section JM
variable {R : Nat → Int32} {k : Nat}
theorem jm1 (h : k < 8) : jm R 1 k = R (7 + 6 * k) := if_pos h
theorem jm2 (h : k < 8) : jm R 2 k = R (8 + 6 * k) := if_pos h
theorem jm3 (h : k < 8) : jm R 3 k = R (9 + 6 * k) := if_pos h
theorem jm4 (h : k < 8) : jm R 4 k = R (10 + 6 * k) := if_pos h
theorem jm5 : jm R 5 0 = R 125 := id rfl
theorem jm7 : jm R 7 0 = R 226 := id rfl
theorem jm6 (h : k < nN (R 125)) : jm R 6 k = cM (R (126 + k)) (R (176 + k)) := if_pos h
theorem jm8 (h : k < nN (R 226)) : jm R 8 k = cM (R (227 + k)) (R (277 + k)) := if_pos h
theorem jm9 (h : k < 50) : jm R 9 k = R (55 + k) := if_pos h
theorem jm10 (h : k < 20) : jm R 10 k = R (105 + k) := if_pos h
theorem jm01 : jm R 0 1 = R 2 := id rfl
theorem jm08 : jm R 0 8 = R 3 := id rfl
theorem jm09 : jm R 0 9 = R 4 := id rfl
theorem jm010 : jm R 0 10 = R 0 := id rfl
theorem jm014 : jm R 0 14 = R 5 := id rfl
theorem jm016 : jm R 0 16 = R 6 := id rfl
theorem jm017 : jm R 0 17 = R 1 := id rfl
theorem jm06 : jm R 0 6 = rB R 11 (nN (R 2)) := id rfl
theorem jm07 : jm R 0 7 = rB R 12 (nN (R 2)) := id rfl
end JM
def cF (R : Nat → Int32) (p : Nat) : Nat → Int32 := fun k => cM (R (p + 1 + k)) (R (p + 51 + k))
theorem okSg_f {g : Int32} (h : okSg g) : (¬ g = nI 1 ∧ ¬ g = nI 2 ∧ ¬ g = nI 3) ∧ (-g < -3 ∧ ¬ -g = -33) ∧ (¬ g = 1 ∧ ¬ g = 2 ∧ ¬ g = 3) := by
  rcases h with h | h | h | h | h | h | h | h | h | h <;> subst h <;> decide +kernel
theorem cM_1 {a w : Int32} (h : a = nI 1) : cM a w = w := by
  subst h
  exact if_pos (by decide +kernel)
theorem cM_2 {a w : Int32} (h : a = nI 2) : cM a w = -1 - w := by
  subst h
  exact (if_neg (by decide +kernel)).trans (if_pos (by decide +kernel))
theorem cM_3 {a w : Int32} (h : a = nI 3) : cM a w = -33 := by
  subst h
  exact (if_neg (by decide +kernel)).trans ((if_neg (by decide +kernel)).trans (if_pos (by decide +kernel)))
theorem cM_g {a w : Int32} (h : okSg a) : cM a w = -a := by
  obtain ⟨_, _, h1, h2, h3⟩ := okSg_f h
  exact (if_neg h1).trans ((if_neg h2).trans (if_neg h3))
theorem ge0_f {w : Int32} (h : ¬ w < 0) : ¬ w < -3 ∧ ¬ w = -3 ∧ ¬ w = -2 ∧ ¬ w = -1 := by
  have h0 : (0 : Int32) ≤ w := Int32.not_lt.mp h
  have h1 : (0 : Int) ≤ w.toInt := by
    have := Int32.le_iff_toInt_le.mp h0
    exact this
  refine ⟨fun hh => ?_, fun hh => ?_, fun hh => ?_, fun hh => ?_⟩
  · have h2 : w.toInt < (-3 : Int32).toInt := Int32.lt_iff_toInt_lt.mp hh
    have e : (-3 : Int32).toInt = -3 := by decide +kernel
    omega
  · subst hh; exact absurd h (by decide +kernel)
  · subst hh; exact absurd h (by decide +kernel)
  · subst hh; exact absurd h (by decide +kernel)
theorem sVal_p {w a b c : Int32} (h : ¬ w < 0) : sVal w a b c = w := by
  obtain ⟨_, h1, h2, h3⟩ := ge0_f h
  exact (if_neg h1).trans ((if_neg h2).trans (if_neg h3))
theorem nam_f {w : Int32} (h : w = nI 0 ∨ w = nI 1 ∨ w = nI 2) : ∃ j, j < 3 ∧ w = nI j := by
  rcases h with h | h | h
  · exact ⟨0, by omega, h⟩
  · exact ⟨1, by omega, h⟩
  · exact ⟨2, by omega, h⟩
theorem lt3 {q : Nat} (h : q < 3) : q = 0 ∨ q = 1 ∨ q = 2 := by omega
theorem sVal_n {j : Nat} (h : j < 3) {f : Nat → Int32} : sVal (-1 - nI j) (f 0) (f 1) (f 2) = f j := by
  rcases lt3 h with e | e | e <;> subst e
  · exact (if_neg (by decide +kernel)).trans ((if_neg (by decide +kernel)).trans (if_pos (by decide +kernel)))
  · exact (if_neg (by decide +kernel)).trans (if_pos (by decide +kernel))
  · exact if_pos (by decide +kernel)
theorem nam_lt {j : Nat} (h : j < 3) : ¬ -1 - nI j < -3 := by
  rcases lt3 h with e | e | e <;> subst e <;> decide +kernel
theorem RK.upd {R : Nat → Int32} {p : Nat} {v : Int32} {T T' : Nat} (h : RK T R) (hp : p < 125) (hf : ∀ i, i < 8 → 11 + 6 * i ≠ p ∧ 12 + 6 * i ≠ p) (hj : IJ T' (jm (u1 R p v))) : RK T' (u1 R p v) := by
  refine ⟨hj, ?_, ?_, ?_⟩
  · intro i hi
    rw [u1_ne (hf i hi).1, u1_ne (hf i hi).2]
    exact h.2.1 i hi
  · intro k hk
    rw [u1_ne (by omega)] at hk
    rw [u1_ne (by omega), u1_ne (by omega)]
    exact h.2.2.1 k hk
  · intro k hk
    rw [u1_ne (by omega)] at hk
    rw [u1_ne (by omega), u1_ne (by omega)]
    exact h.2.2.2 k hk
theorem RK.updF {R : Nat → Int32} {p : Nat} {v : Int32} {T T' : Nat} (h : RK T R) (hp : p < 125) (hv : fl v) (hj : IJ T' (jm (u1 R p v))) : RK T' (u1 R p v) := by
  refine ⟨hj, ?_, ?_, ?_⟩
  · intro i hi
    rw [u1_at, u1_at]
    refine ⟨?_, ?_⟩
    · split
      · exact hv
      · exact h.fD hi
    · split
      · exact hv
      · exact h.fW hi
  · intro k hk
    rw [u1_ne (by omega)] at hk
    rw [u1_ne (by omega), u1_ne (by omega)]
    exact h.2.2.1 k hk
  · intro k hk
    rw [u1_ne (by omega)] at hk
    rw [u1_ne (by omega), u1_ne (by omega)]
    exact h.2.2.2 k hk
theorem RK.done {T : Nat} {R : Nat → Int32} (h : RK T R) {k : Nat} (hk : k < jn (jm R)) : R (11 + 6 * k) = bI (sDone (jm R) k) := by
  have h8 := h.n8
  have hk' : k < nN (R 2) := hk
  rw [fl_b (h.fD (show k < 8 by omega))]
  congr 1
  unfold sDone
  rw [sBit_bt (by omega), jm06, bt_rB h8 (fun i hi => h.fD (by omega)), decide_eq_true hk', Bool.true_and]
theorem RK.wrong {T : Nat} {R : Nat → Int32} (h : RK T R) {k : Nat} (hk : k < jn (jm R)) : R (12 + 6 * k) = bI (sBit (jm R 0 7) (nI k)) := by
  have h8 := h.n8
  have hk' : k < nN (R 2) := hk
  rw [fl_b (h.fW (show k < 8 by omega))]
  congr 1
  rw [sBit_bt (by omega), jm07, bt_rB h8 (fun i hi => h.fW (by omega)), decide_eq_true hk', Bool.true_and]
set_option maxRecDepth 100000 in
set_option maxHeartbeats 4000000 in
theorem l_wk_loop (d : Nat) (X : Nat → Nat → Int32) (p len : Nat) (a b c : Int32) (hp : p ≤ 226) (hl : X 64 p = nI len) (hok : ∀ k, k < len → aOK (X 64 (p + 1 + k)) (X 64 (p + 51 + k))) (hw : wfC (cF (X 64) p) len) (h0 : 0 < len) : ∀ (m i : Nat) (Z : Nat → Nat → Int32), i + m = len → Stk (Z 71) (sEv (cF (X 64) p) a b c i) → (Z 70 0 = a ∧ Z 70 1 = b ∧ Z 70 2 = c) → ER (d + 1) tb_m143 4 [(0, .ref 63), (1, .int (nI p)), (2, .int (nI (sDp (cF (X 64) p) i))), (3, .int (nI i))] [] (Wd X Z) (RI (sVl (cF (X 64) p) len a b c) X)
  | 0, i, Z, hi, hs, hfa => by
    have hi : i = len := by omega
    subst hi
    have h50 := hw.1
    refine er_loc (pc' := 5) rfl rfl rfl ?_
    refine er_loc (pc' := 6) rfl rfl rfl ?_
    refine er_gf (pc' := 9) (_) rfl rfl rfl rfl rfl ?_
    refine er_loc (pc' := 10) rfl rfl rfl ?_
    refine er_ia (pc' := 11) (p) rfl rfl rfl rfl (by omega) rfl rfl ?_
    rw [hl]
    refine er_cm_geT rfl (nI_nlt (by omega) (by omega)) ?_
    refine er_loc (pc' := 156) rfl rfl rfl ?_
    refine er_gf (pc' := 159) (_) rfl rfl rfl rfl rfl ?_
    refine er_k (pc' := 160) (nI 0) rfl rfl rfl ?_
    refine er_ia (pc' := 161) (0) rfl rfl rfl rfl (by omega) rfl rfl ?_
    refine er_iret rfl rfl ?_
    exact ⟨_, by rw [Stk_one hs (by rw [sEv_len hw _ (Nat.le_refl _)]; exact hw.2.1 h0)]; rfl⟩
  | m + 1, i, Z, hi, hs, hfa => by
    have h50 := hw.1
    obtain ⟨w1, w2, w3⟩ := hw.2.2 i (by omega)
    have hlen := sEv_len (a := a) (b := b) (c := c) hw i (by omega)
    have hd50 : sDp (cF (X 64) p) i ≤ 50 := Nat.le_trans (sDp_le _ i) (by omega)
    rcases hok i (by omega) with ⟨ha, hw0⟩ | ⟨ha, hn⟩ | ha | ha
    · have hF : cF (X 64) p i = X 64 (p + 51 + i) := cM_1 ha
      have h28 : ¬ cF (X 64) p i < -3 := by rw [hF]; exact (ge0_f hw0).1
      refine er_loc (pc' := 5) rfl rfl rfl ?_
      refine er_loc (pc' := 6) rfl rfl rfl ?_
      refine er_gf (pc' := 9) (_) rfl rfl rfl rfl rfl ?_
      refine er_loc (pc' := 10) rfl rfl rfl ?_
      refine er_ia (pc' := 11) (p) rfl rfl rfl rfl (by omega) rfl rfl ?_
      rw [hl]
      refine er_cm_geF (pc' := 14) rfl (nI_lt (by omega) (by omega)) rfl ?_
      refine er_loc (pc' := 15) rfl rfl rfl ?_
      refine er_gf (pc' := 18) (_) rfl rfl rfl rfl rfl ?_
      refine er_loc (pc' := 19) rfl rfl rfl ?_
      refine er_k (pc' := 20) (nI 1) rfl rfl rfl ?_
      refine er_iadd (pc' := 21) rfl rfl ?_
      refine er_loc (pc' := 22) rfl rfl rfl ?_
      refine er_iadd (pc' := 23) rfl rfl ?_
      refine er_ia (pc' := 24) (((p + 1) + i)) rfl rfl rfl (by simp only [nI_add, nI_mul]) (by omega) rfl rfl ?_
      rw [ha]
      refine er_loc (pc' := 26) (L' := [(4, _), (0, _), (1, _), (2, _), (3, _)]) rfl rfl rfl ?_
      refine er_loc (pc' := 28) rfl rfl rfl ?_
      refine er_k (pc' := 29) (nI 1) rfl rfl rfl ?_
      refine er_cm_eqT rfl (rfl) ?_
      refine er_loc (pc' := 39) rfl rfl rfl ?_
      refine er_gf (pc' := 42) (_) rfl rfl rfl rfl rfl ?_
      refine er_loc (pc' := 43) rfl rfl rfl ?_
      refine er_loc (pc' := 45) rfl rfl rfl ?_
      refine er_k (pc' := 46) (nI 1) rfl rfl rfl ?_
      refine er_cm_neF (pc' := 49) rfl (rfl) rfl ?_
      refine er_loc (pc' := 50) rfl rfl rfl ?_
      refine er_gf (pc' := 53) (_) rfl rfl rfl rfl rfl ?_
      refine er_loc (pc' := 54) rfl rfl rfl ?_
      refine er_k (pc' := 56) (nI 51) rfl rfl rfl ?_
      refine er_iadd (pc' := 57) rfl rfl ?_
      refine er_loc (pc' := 58) rfl rfl rfl ?_
      refine er_iadd (pc' := 59) rfl rfl ?_
      refine er_ia (pc' := 60) (((p + 51) + i)) rfl rfl rfl (by simp only [nI_add, nI_mul]) (by omega) rfl rfl ?_
      refine er_goto rfl ?_
      refine er_isZ (pc' := 80) (sDp (cF (X 64) p) i) rfl rfl (fun _ => rfl) rfl (w1 h28) rfl rfl ?_
      refine er_loc (pc' := 83) (L' := [(2, .int (_ + nI 1)), (4, _), (0, _), (1, _), (3, _)]) rfl rfl rfl ?_
      refine er_goto rfl ?_
      refine er_loc (L' := [(3, .int (_ + nI 1)), (2, _), (4, _), (0, _), (1, _)]) rfl rfl rfl ?_
      refine er_goto rfl ?_
      rw [nI_add i 1]
      rw [nI_add]
      refine ER_loc [(0, _), (1, _), (2, _), (3, _)] rfl (List.forall_mem_cons.mpr ⟨rfl, List.forall_mem_cons.mpr ⟨rfl, List.forall_mem_cons.mpr ⟨rfl, List.forall_mem_cons.mpr ⟨rfl, fun _ h => absurd h List.not_mem_nil⟩⟩⟩⟩) rfl rfl ?_
      have ih := fun Z1 => l_wk_loop d X p len a b c hp hl hok hw h0 m (i + 1) Z1 (by omega)
      rw [sDp_push h28] at ih
      refine ih _ ?_ ⟨by rw [ud_ne (by omega)]; exact hfa.1, by rw [ud_ne (by omega)]; exact hfa.2.1, by rw [ud_ne (by omega)]; exact hfa.2.2⟩
      rw [ud_same]
      rw [sEv_push h28, hF, sVal_p hw0, ← hlen]
      exact Stk_push _ hs
    · obtain ⟨j, hj3, hj⟩ := nam_f hn
      have hF : cF (X 64) p i = -1 - nI j := by rw [← hj]; exact cM_2 ha
      have h28 : ¬ cF (X 64) p i < -3 := by rw [hF]; exact nam_lt hj3
      refine er_loc (pc' := 5) rfl rfl rfl ?_
      refine er_loc (pc' := 6) rfl rfl rfl ?_
      refine er_gf (pc' := 9) (_) rfl rfl rfl rfl rfl ?_
      refine er_loc (pc' := 10) rfl rfl rfl ?_
      refine er_ia (pc' := 11) (p) rfl rfl rfl rfl (by omega) rfl rfl ?_
      rw [hl]
      refine er_cm_geF (pc' := 14) rfl (nI_lt (by omega) (by omega)) rfl ?_
      refine er_loc (pc' := 15) rfl rfl rfl ?_
      refine er_gf (pc' := 18) (_) rfl rfl rfl rfl rfl ?_
      refine er_loc (pc' := 19) rfl rfl rfl ?_
      refine er_k (pc' := 20) (nI 1) rfl rfl rfl ?_
      refine er_iadd (pc' := 21) rfl rfl ?_
      refine er_loc (pc' := 22) rfl rfl rfl ?_
      refine er_iadd (pc' := 23) rfl rfl ?_
      refine er_ia (pc' := 24) (((p + 1) + i)) rfl rfl rfl (by simp only [nI_add, nI_mul]) (by omega) rfl rfl ?_
      rw [ha]
      refine er_loc (pc' := 26) (L' := [(4, _), (0, _), (1, _), (2, _), (3, _)]) rfl rfl rfl ?_
      refine er_loc (pc' := 28) rfl rfl rfl ?_
      refine er_k (pc' := 29) (nI 1) rfl rfl rfl ?_
      refine er_cm_eqF (pc' := 32) rfl (by decide +kernel) rfl ?_
      refine er_loc (pc' := 34) rfl rfl rfl ?_
      refine er_k (pc' := 35) (nI 2) rfl rfl rfl ?_
      refine er_cm_neF (pc' := 38) rfl (rfl) rfl ?_
      refine er_loc (pc' := 39) rfl rfl rfl ?_
      refine er_gf (pc' := 42) (_) rfl rfl rfl rfl rfl ?_
      refine er_loc (pc' := 43) rfl rfl rfl ?_
      refine er_loc (pc' := 45) rfl rfl rfl ?_
      refine er_k (pc' := 46) (nI 1) rfl rfl rfl ?_
      refine er_cm_neT rfl (by decide +kernel) ?_
      refine er_loc (pc' := 64) rfl rfl rfl ?_
      refine er_gf (pc' := 67) (_) rfl rfl rfl rfl rfl ?_
      refine er_loc (pc' := 68) rfl rfl rfl ?_
      refine er_gf (pc' := 71) (_) rfl rfl rfl rfl rfl ?_
      refine er_loc (pc' := 72) rfl rfl rfl ?_
      refine er_k (pc' := 74) (nI 51) rfl rfl rfl ?_
      refine er_iadd (pc' := 75) rfl rfl ?_
      refine er_loc (pc' := 76) rfl rfl rfl ?_
      refine er_iadd (pc' := 77) rfl rfl ?_
      refine er_ia (pc' := 78) (((p + 51) + i)) rfl rfl rfl (by simp only [nI_add, nI_mul]) (by omega) rfl rfl ?_
      rw [hj]
      refine er_ia (pc' := 79) (j) rfl rfl rfl rfl (by omega) rfl rfl ?_
      refine er_isZ (pc' := 80) (sDp (cF (X 64) p) i) rfl rfl (fun _ => rfl) rfl (w1 h28) rfl rfl ?_
      refine er_loc (pc' := 83) (L' := [(2, .int (_ + nI 1)), (4, _), (0, _), (1, _), (3, _)]) rfl rfl rfl ?_
      refine er_goto rfl ?_
      refine er_loc (L' := [(3, .int (_ + nI 1)), (2, _), (4, _), (0, _), (1, _)]) rfl rfl rfl ?_
      refine er_goto rfl ?_
      rw [nI_add i 1]
      rw [nI_add]
      refine ER_loc [(0, _), (1, _), (2, _), (3, _)] rfl (List.forall_mem_cons.mpr ⟨rfl, List.forall_mem_cons.mpr ⟨rfl, List.forall_mem_cons.mpr ⟨rfl, List.forall_mem_cons.mpr ⟨rfl, fun _ h => absurd h List.not_mem_nil⟩⟩⟩⟩) rfl rfl ?_
      have ih := fun Z1 => l_wk_loop d X p len a b c hp hl hok hw h0 m (i + 1) Z1 (by omega)
      rw [sDp_push h28] at ih
      refine ih _ ?_ ⟨by rw [ud_ne (by omega)]; exact hfa.1, by rw [ud_ne (by omega)]; exact hfa.2.1, by rw [ud_ne (by omega)]; exact hfa.2.2⟩
      rw [ud_same]
      have hv : sVal (-1 - nI j) a b c = Z 70 j := by rw [← hfa.1, ← hfa.2.1, ← hfa.2.2]; exact sVal_n hj3
      rw [sEv_push h28, hF, hv, ← hlen]
      exact Stk_push _ hs
    · have h66 : cF (X 64) p i = -33 := cM_3 ha
      have h28 : cF (X 64) p i < -3 := by rw [h66]; decide +kernel
      have d1 := w2 h66
      obtain ⟨x0, r0, hl0, hr0⟩ := ne_nil hlen d1
      have hz0 := hs
      rw [hl0] at hz0
      refine er_loc (pc' := 5) rfl rfl rfl ?_
      refine er_loc (pc' := 6) rfl rfl rfl ?_
      refine er_gf (pc' := 9) (_) rfl rfl rfl rfl rfl ?_
      refine er_loc (pc' := 10) rfl rfl rfl ?_
      refine er_ia (pc' := 11) (p) rfl rfl rfl rfl (by omega) rfl rfl ?_
      rw [hl]
      refine er_cm_geF (pc' := 14) rfl (nI_lt (by omega) (by omega)) rfl ?_
      refine er_loc (pc' := 15) rfl rfl rfl ?_
      refine er_gf (pc' := 18) (_) rfl rfl rfl rfl rfl ?_
      refine er_loc (pc' := 19) rfl rfl rfl ?_
      refine er_k (pc' := 20) (nI 1) rfl rfl rfl ?_
      refine er_iadd (pc' := 21) rfl rfl ?_
      refine er_loc (pc' := 22) rfl rfl rfl ?_
      refine er_iadd (pc' := 23) rfl rfl ?_
      refine er_ia (pc' := 24) (((p + 1) + i)) rfl rfl rfl (by simp only [nI_add, nI_mul]) (by omega) rfl rfl ?_
      rw [ha]
      refine er_loc (pc' := 26) (L' := [(4, _), (0, _), (1, _), (2, _), (3, _)]) rfl rfl rfl ?_
      refine er_loc (pc' := 28) rfl rfl rfl ?_
      refine er_k (pc' := 29) (nI 1) rfl rfl rfl ?_
      refine er_cm_eqF (pc' := 32) rfl (by decide +kernel) rfl ?_
      refine er_loc (pc' := 34) rfl rfl rfl ?_
      refine er_k (pc' := 35) (nI 2) rfl rfl rfl ?_
      refine er_cm_neT rfl (by decide +kernel) ?_
      refine er_loc (pc' := 88) rfl rfl rfl ?_
      refine er_k (pc' := 89) (nI 3) rfl rfl rfl ?_
      refine er_cm_neF (pc' := 92) rfl (rfl) rfl ?_
      refine er_loc (pc' := 93) rfl rfl rfl ?_
      refine er_gf (pc' := 96) (_) rfl rfl rfl rfl rfl ?_
      refine er_loc (pc' := 97) rfl rfl rfl ?_
      refine er_k (pc' := 98) (nI 1) rfl rfl rfl ?_
      refine er_isub (pc' := 99) rfl rfl ?_
      refine er_loc (pc' := 100) rfl rfl rfl ?_
      refine er_gf (pc' := 103) (_) rfl rfl rfl rfl rfl ?_
      refine er_loc (pc' := 104) rfl rfl rfl ?_
      refine er_k (pc' := 105) (nI 1) rfl rfl rfl ?_
      refine er_isub (pc' := 106) rfl rfl ?_
      refine er_ia (pc' := 107) (sDp (cF (X 64) p) i - 1) rfl rfl rfl (nI_sub d1) (by omega) rfl rfl ?_
      rw [show Z 71 (sDp (cF (X 64) p) i - 1) = x0 from by rw [← hr0]; exact hz0.1]
      refine er_if_ne (pc' := 110) rfl rfl (fun h107 => ?_) (fun h107 => ?_)
      · refine er_k (nI 0) rfl rfl rfl ?_
        refine er_isZ (pc' := 116) (sDp (cF (X 64) p) i - 1) rfl rfl (fun _ => rfl) (nI_sub d1) (by omega) rfl rfl ?_
        refine er_goto rfl ?_
        refine er_loc (L' := [(3, .int (_ + nI 1)), (4, _), (0, _), (1, _), (2, _)]) rfl rfl rfl ?_
        refine er_goto rfl ?_
        rw [nI_add i 1]
        refine ER_loc [(0, _), (1, _), (2, _), (3, _)] rfl (List.forall_mem_cons.mpr ⟨rfl, List.forall_mem_cons.mpr ⟨rfl, List.forall_mem_cons.mpr ⟨rfl, List.forall_mem_cons.mpr ⟨rfl, fun _ h => absurd h List.not_mem_nil⟩⟩⟩⟩) rfl rfl ?_
        have ih := fun Z1 => l_wk_loop d X p len a b c hp hl hok hw h0 m (i + 1) Z1 (by omega)
        rw [sDp_deny h28 h66] at ih
        refine ih _ ?_ ⟨by rw [ud_ne (by omega)]; exact hfa.1, by rw [ud_ne (by omega)]; exact hfa.2.1, by rw [ud_ne (by omega)]; exact hfa.2.2⟩
        rw [ud_same]
        rw [sEv_deny h28 h66 hl0, decide_eq_false h107, ← hr0]
        exact Stk_push _ hz0.2
      · refine er_k (nI 1) rfl rfl rfl ?_
        refine er_goto rfl ?_
        refine er_isZ (pc' := 116) (sDp (cF (X 64) p) i - 1) rfl rfl (fun _ => rfl) (nI_sub d1) (by omega) rfl rfl ?_
        refine er_goto rfl ?_
        refine er_loc (L' := [(3, .int (_ + nI 1)), (4, _), (0, _), (1, _), (2, _)]) rfl rfl rfl ?_
        refine er_goto rfl ?_
        rw [nI_add i 1]
        refine ER_loc [(0, _), (1, _), (2, _), (3, _)] rfl (List.forall_mem_cons.mpr ⟨rfl, List.forall_mem_cons.mpr ⟨rfl, List.forall_mem_cons.mpr ⟨rfl, List.forall_mem_cons.mpr ⟨rfl, fun _ h => absurd h List.not_mem_nil⟩⟩⟩⟩) rfl rfl ?_
        have ih := fun Z1 => l_wk_loop d X p len a b c hp hl hok hw h0 m (i + 1) Z1 (by omega)
        rw [sDp_deny h28 h66] at ih
        refine ih _ ?_ ⟨by rw [ud_ne (by omega)]; exact hfa.1, by rw [ud_ne (by omega)]; exact hfa.2.1, by rw [ud_ne (by omega)]; exact hfa.2.2⟩
        rw [ud_same]
        rw [sEv_deny h28 h66 hl0, decide_eq_true h107, ← hr0]
        exact Stk_push _ hz0.2
    · obtain ⟨⟨g1, g2, g3⟩, ⟨g4, g5⟩, _⟩ := okSg_f ha
      have hF : cF (X 64) p i = -(X 64 (p + 1 + i)) := cM_g ha
      have h66 : ¬ cF (X 64) p i = -33 := by rw [hF]; exact g5
      have h28 : cF (X 64) p i < -3 := by rw [hF]; exact g4
      have d1 := w3 h28 h66
      obtain ⟨y0, x0, r0, hl0, hr0⟩ := ne_nil2 hlen d1
      have hz0 := hs
      rw [hl0] at hz0
      refine er_loc (pc' := 5) rfl rfl rfl ?_
      refine er_loc (pc' := 6) rfl rfl rfl ?_
      refine er_gf (pc' := 9) (_) rfl rfl rfl rfl rfl ?_
      refine er_loc (pc' := 10) rfl rfl rfl ?_
      refine er_ia (pc' := 11) (p) rfl rfl rfl rfl (by omega) rfl rfl ?_
      rw [hl]
      refine er_cm_geF (pc' := 14) rfl (nI_lt (by omega) (by omega)) rfl ?_
      refine er_loc (pc' := 15) rfl rfl rfl ?_
      refine er_gf (pc' := 18) (_) rfl rfl rfl rfl rfl ?_
      refine er_loc (pc' := 19) rfl rfl rfl ?_
      refine er_k (pc' := 20) (nI 1) rfl rfl rfl ?_
      refine er_iadd (pc' := 21) rfl rfl ?_
      refine er_loc (pc' := 22) rfl rfl rfl ?_
      refine er_iadd (pc' := 23) rfl rfl ?_
      refine er_ia (pc' := 24) (((p + 1) + i)) rfl rfl rfl (by simp only [nI_add, nI_mul]) (by omega) rfl rfl ?_
      refine er_loc (pc' := 26) (L' := [(4, _), (0, _), (1, _), (2, _), (3, _)]) rfl rfl rfl ?_
      refine er_loc (pc' := 28) rfl rfl rfl ?_
      refine er_k (pc' := 29) (nI 1) rfl rfl rfl ?_
      refine er_cm_eqF (pc' := 32) rfl (g1) rfl ?_
      refine er_loc (pc' := 34) rfl rfl rfl ?_
      refine er_k (pc' := 35) (nI 2) rfl rfl rfl ?_
      refine er_cm_neT rfl (g2) ?_
      refine er_loc (pc' := 88) rfl rfl rfl ?_
      refine er_k (pc' := 89) (nI 3) rfl rfl rfl ?_
      refine er_cm_neT rfl (g3) ?_
      refine er_loc (pc' := 122) (L' := [(2, .int (_ + (-1))), (4, _), (0, _), (1, _), (3, _)]) rfl rfl rfl ?_
      rw [nI_addm1 (by omega)]
      refine er_loc (pc' := 123) rfl rfl rfl ?_
      refine er_gf (pc' := 126) (_) rfl rfl rfl rfl rfl ?_
      refine er_loc (pc' := 127) rfl rfl rfl ?_
      refine er_k (pc' := 128) (nI 1) rfl rfl rfl ?_
      refine er_isub (pc' := 129) rfl rfl ?_
      refine er_loc (pc' := 131) rfl rfl rfl ?_
      refine er_loc (pc' := 132) rfl rfl rfl ?_
      refine er_gf (pc' := 135) (_) rfl rfl rfl rfl rfl ?_
      refine er_loc (pc' := 136) rfl rfl rfl ?_
      refine er_k (pc' := 137) (nI 1) rfl rfl rfl ?_
      refine er_isub (pc' := 138) rfl rfl ?_
      refine er_ia (pc' := 139) (sDp (cF (X 64) p) i - 2) rfl rfl rfl ((nI_sub (by omega)).trans (congrArg nI (by omega))) (by omega) rfl rfl ?_
      refine er_loc (pc' := 140) rfl rfl rfl ?_
      refine er_gf (pc' := 143) (_) rfl rfl rfl rfl rfl ?_
      refine er_loc (pc' := 144) rfl rfl rfl ?_
      refine er_ia (pc' := 145) (sDp (cF (X 64) p) i - 1) rfl rfl rfl rfl (by omega) rfl rfl ?_
      refine er_cSi (pc' := 148) (rest := [_, _]) rfl rfl rfl (l_twoOf _ _ _ _ _ ha) ?_
      refine er_isZ (pc' := 149) (sDp (cF (X 64) p) i - 2) rfl rfl (fun _ => rfl) ((nI_sub (by omega)).trans (congrArg nI (by omega))) (by omega) rfl rfl ?_
      refine er_loc (L' := [(3, .int (_ + nI 1)), (2, _), (4, _), (0, _), (1, _)]) rfl rfl rfl ?_
      refine er_goto rfl ?_
      rw [nI_add i 1]
      refine ER_loc [(0, _), (1, _), (2, _), (3, _)] rfl (List.forall_mem_cons.mpr ⟨rfl, List.forall_mem_cons.mpr ⟨rfl, List.forall_mem_cons.mpr ⟨rfl, List.forall_mem_cons.mpr ⟨rfl, fun _ h => absurd h List.not_mem_nil⟩⟩⟩⟩) rfl rfl ?_
      have ih := fun Z1 => l_wk_loop d X p len a b c hp hl hok hw h0 m (i + 1) Z1 (by omega)
      rw [sDp_join h28 h66] at ih
      refine ih _ ?_ ⟨by rw [ud_ne (by omega)]; exact hfa.1, by rw [ud_ne (by omega)]; exact hfa.2.1, by rw [ud_ne (by omega)]; exact hfa.2.2⟩
      rw [ud_same]
      rw [sEv_join h28 h66 hl0, hF, Int32.neg_neg, show Z 71 (sDp (cF (X 64) p) i - 2) = x0 from by rw [← hr0]; exact hz0.2.1, show Z 71 (sDp (cF (X 64) p) i - 1) = y0 from by rw [show sDp (cF (X 64) p) i - 1 = (x0 :: r0).length from by simp only [List.length_cons]; omega]; exact hz0.1, ← hr0]
      exact Stk_push _ hz0.2.2
set_option maxRecDepth 100000 in
set_option maxHeartbeats 4000000 in
theorem l_rWorks (d : Nat) (X Z : Nat → Nat → Int32) (p len : Nat) (a b c : Int32) (hp : p ≤ 226) (hl : X 64 p = nI len) (hok : ∀ k, k < len → aOK (X 64 (p + 1 + k)) (X 64 (p + 51 + k))) (hw : wfC (cF (X 64) p) len) (h0 : 0 < len) (hfa : Z 70 0 = a ∧ Z 70 1 = b ∧ Z 70 2 = c) : EC (d + 2) 143 [.ref 63, .int (nI p)] (Wd X Z) (RI (sVl (cF (X 64) p) len a b c) X) := by
  refine er_enter (L := [(0, _), (1, _)]) rfl rfl rfl ?_
  refine er_k (pc' := 1) (nI 0) rfl rfl rfl ?_
  refine er_loc (pc' := 2) (L' := [(2, _), (0, _), (1, _)]) rfl rfl rfl ?_
  refine er_k (pc' := 3) (nI 0) rfl rfl rfl ?_
  refine er_loc (pc' := 4) (L' := [(3, _), (2, _), (0, _), (1, _)]) rfl rfl rfl ?_
  refine ER_loc [(0, _), (1, _), (2, _), (3, _)] rfl (List.forall_mem_cons.mpr ⟨rfl, List.forall_mem_cons.mpr ⟨rfl, List.forall_mem_cons.mpr ⟨rfl, List.forall_mem_cons.mpr ⟨rfl, fun _ h => absurd h List.not_mem_nil⟩⟩⟩⟩) rfl rfl ?_
  exact l_wk_loop d X p len a b c hp hl hok hw h0 len 0 Z (by omega) trivial hfa
theorem wfM6 {T : Nat} {R : Nat → Int32} (h : IJ T (jm R)) : wfC (cF R 125) (nN (R 125)) := wfC_cong (fun i hi => jm6 hi) h.tl.2
theorem wfM8 {T : Nat} {R : Nat → Int32} (h : IJ T (jm R)) : wfC (cF R 226) (nN (R 226)) := wfC_cong (fun i hi => jm8 hi) h.te.2
theorem vlM6 {R : Nat → Int32} {a b c : Int32} : sVl (cF R 125) (nN (R 125)) a b c = sVl (jm R 6) (jl (jm R)) a b c := sVl_cong (fun i hi => (jm6 hi).symm)
theorem vlM8 {R : Nat → Int32} {a b c : Int32} : sVl (cF R 226) (nN (R 226)) a b c = sVl (jm R 8) (je (jm R)) a b c := sVl_cong (fun i hi => (jm8 hi).symm)
theorem nI_pos0 {n : Nat} (h : n ≤ 50) : (0 < nI n) ↔ 0 < n := fin_le (m := 50) (p := fun n => (0 < nI n) ↔ 0 < n) h (by decide +kernel)
set_option maxRecDepth 100000 in
set_option maxHeartbeats 4000000 in
theorem l_rGives0 (d : Nat) (X Z : Nat → Nat → Int32) {T : Nat} (hI : RK T (X 64)) (a b c : Int32) : EC (d + 3) 142 [.ref 63, .int (nI 0), .int a, .int b, .int c] (Wd X Z) (RI (sLastsBy (jm (X 64)) a b c) X) := by
  refine er_enter (L := [(0, _), (1, _), (2, _), (3, _), (4, _)]) rfl rfl rfl ?_
  have hl : X 64 125 = nI (nN (X 64 125)) := hI.ij.tl.1.1
  refine er_k (pc' := 2) (nI 125) rfl rfl rfl ?_
  refine er_k (pc' := 4) (nI 101) rfl rfl rfl ?_
  refine er_loc (pc' := 5) rfl rfl rfl ?_
  refine er_imul (pc' := 6) rfl rfl ?_
  refine er_iadd (pc' := 7) rfl rfl ?_
  rw [show nI 125 + nI 101 * nI 0 = nI 125 from by decide +kernel]
  refine er_loc (pc' := 9) (L' := [(5, _), (0, _), (1, _), (2, _), (3, _), (4, _)]) rfl rfl rfl ?_
  refine er_loc (pc' := 10) rfl rfl rfl ?_
  refine er_gf (pc' := 13) (_) rfl rfl rfl rfl rfl ?_
  refine er_k (pc' := 14) (nI 0) rfl rfl rfl ?_
  refine er_loc (pc' := 15) rfl rfl rfl ?_
  refine er_isZ (pc' := 16) (0) rfl rfl (fun _ => rfl) rfl (by omega) rfl rfl ?_
  refine er_loc (pc' := 17) rfl rfl rfl ?_
  refine er_gf (pc' := 20) (_) rfl rfl rfl rfl rfl ?_
  refine er_k (pc' := 21) (nI 1) rfl rfl rfl ?_
  refine er_loc (pc' := 22) rfl rfl rfl ?_
  refine er_isZ (pc' := 23) (1) rfl rfl (fun _ => rfl) rfl (by omega) rfl rfl ?_
  refine er_loc (pc' := 24) rfl rfl rfl ?_
  refine er_gf (pc' := 27) (_) rfl rfl rfl rfl rfl ?_
  refine er_k (pc' := 28) (nI 2) rfl rfl rfl ?_
  refine er_loc (pc' := 30) rfl rfl rfl ?_
  refine er_isZ (pc' := 31) (2) rfl rfl (fun _ => rfl) rfl (by omega) rfl rfl ?_
  refine er_loc (pc' := 32) rfl rfl rfl ?_
  refine er_gf (pc' := 35) (_) rfl rfl rfl rfl rfl ?_
  refine er_loc (pc' := 37) rfl rfl rfl ?_
  refine er_ia (pc' := 38) (125) rfl rfl rfl rfl (by omega) rfl rfl ?_
  rw [hl]
  refine er_if_le (pc' := 41) rfl rfl (fun h38 => ?_) (fun h38 => ?_)
  · have hz : ¬ 0 < nN (X 64 125) := fun hh => h38 ((nI_pos0 hI.ij.tl.1.2).mpr hh)
    refine er_loc (pc' := 51) rfl rfl rfl ?_
    refine er_if_neF (pc' := 54) rfl (rfl) rfl ?_
    refine er_k (pc' := 55) (nI 1) rfl rfl rfl ?_
    refine er_loc (pc' := 56) rfl rfl rfl ?_
    refine er_iadd (pc' := 57) rfl rfl ?_
    refine er_loc (pc' := 59) rfl rfl rfl ?_
    refine er_iadd (pc' := 60) rfl rfl ?_
    refine er_goto rfl ?_
    refine er_loc (pc' := 78) (L' := [(6, _), (5, _), (0, _), (1, _), (2, _), (3, _), (4, _)]) rfl rfl rfl ?_
    refine er_loc (pc' := 79) rfl rfl rfl ?_
    refine er_if_neF (pc' := 82) rfl (rfl) rfl ?_
    refine er_loc (pc' := 84) rfl rfl rfl ?_
    refine er_k (pc' := 85) (nI 1) rfl rfl rfl ?_
    refine er_k (pc' := 87) (nI 99) rfl rfl rfl ?_
    refine er_cSi (pc' := 90) (rest := []) rfl rfl rfl (l_held _ _ _ _ _) ?_
    refine er_goto rfl ?_
    refine er_iret rfl rfl ?_
    refine RI_of ?_ rfl
    show sHeld _ _ _ = sHeld (if 0 < nN (X 64 125) then _ else _) _ _
    rw [if_neg hz]
  · have hz : 0 < nN (X 64 125) := (nI_pos0 hI.ij.tl.1.2).mp h38
    refine er_loc (pc' := 42) rfl rfl rfl ?_
    refine er_loc (pc' := 44) rfl rfl rfl ?_
    refine er_cIz (pc' := 47) (rest := []) 12 rfl rfl rfl rfl rfl rfl (l_rWorks _ X _ 125 (nN (X 64 125)) a b c (by omega) hl (fun k hk => hI.2.2.1 k hk) (wfM6 hI.ij) hz ⟨by simp [ud_at], by simp [ud_at], by simp [ud_at]⟩) ?_
    intro Z2
    refine er_goto rfl ?_
    refine er_loc (pc' := 78) (L' := [(6, _), (5, _), (0, _), (1, _), (2, _), (3, _), (4, _)]) rfl rfl rfl ?_
    refine er_loc (pc' := 79) rfl rfl rfl ?_
    refine er_if_neF (pc' := 82) rfl (rfl) rfl ?_
    refine er_loc (pc' := 84) rfl rfl rfl ?_
    refine er_k (pc' := 85) (nI 1) rfl rfl rfl ?_
    refine er_k (pc' := 87) (nI 99) rfl rfl rfl ?_
    refine er_cSi (pc' := 90) (rest := []) rfl rfl rfl (l_held _ _ _ _ _) ?_
    refine er_goto rfl ?_
    refine er_iret rfl rfl ?_
    refine RI_of ?_ rfl
    rw [vlM6]
    show sHeld _ _ _ = sHeld (if 0 < nN (X 64 125) then _ else _) _ _
    rw [if_pos hz]
set_option maxRecDepth 100000 in
set_option maxHeartbeats 4000000 in
theorem l_rGives1 (d : Nat) (X Z : Nat → Nat → Int32) {T : Nat} (hI : RK T (X 64)) (a b c : Int32) : EC (d + 3) 142 [.ref 63, .int (nI 1), .int a, .int b, .int c] (Wd X Z) (RI (sErrsBy (jm (X 64)) a b c) X) := by
  refine er_enter (L := [(0, _), (1, _), (2, _), (3, _), (4, _)]) rfl rfl rfl ?_
  have hl : X 64 226 = nI (nN (X 64 226)) := hI.ij.te.1.1
  refine er_k (pc' := 2) (nI 125) rfl rfl rfl ?_
  refine er_k (pc' := 4) (nI 101) rfl rfl rfl ?_
  refine er_loc (pc' := 5) rfl rfl rfl ?_
  refine er_imul (pc' := 6) rfl rfl ?_
  refine er_iadd (pc' := 7) rfl rfl ?_
  rw [show nI 125 + nI 101 * nI 1 = nI 226 from by decide +kernel]
  refine er_loc (pc' := 9) (L' := [(5, _), (0, _), (1, _), (2, _), (3, _), (4, _)]) rfl rfl rfl ?_
  refine er_loc (pc' := 10) rfl rfl rfl ?_
  refine er_gf (pc' := 13) (_) rfl rfl rfl rfl rfl ?_
  refine er_k (pc' := 14) (nI 0) rfl rfl rfl ?_
  refine er_loc (pc' := 15) rfl rfl rfl ?_
  refine er_isZ (pc' := 16) (0) rfl rfl (fun _ => rfl) rfl (by omega) rfl rfl ?_
  refine er_loc (pc' := 17) rfl rfl rfl ?_
  refine er_gf (pc' := 20) (_) rfl rfl rfl rfl rfl ?_
  refine er_k (pc' := 21) (nI 1) rfl rfl rfl ?_
  refine er_loc (pc' := 22) rfl rfl rfl ?_
  refine er_isZ (pc' := 23) (1) rfl rfl (fun _ => rfl) rfl (by omega) rfl rfl ?_
  refine er_loc (pc' := 24) rfl rfl rfl ?_
  refine er_gf (pc' := 27) (_) rfl rfl rfl rfl rfl ?_
  refine er_k (pc' := 28) (nI 2) rfl rfl rfl ?_
  refine er_loc (pc' := 30) rfl rfl rfl ?_
  refine er_isZ (pc' := 31) (2) rfl rfl (fun _ => rfl) rfl (by omega) rfl rfl ?_
  refine er_loc (pc' := 32) rfl rfl rfl ?_
  refine er_gf (pc' := 35) (_) rfl rfl rfl rfl rfl ?_
  refine er_loc (pc' := 37) rfl rfl rfl ?_
  refine er_ia (pc' := 38) (226) rfl rfl rfl rfl (by omega) rfl rfl ?_
  rw [hl]
  refine er_if_le (pc' := 41) rfl rfl (fun h38 => ?_) (fun h38 => ?_)
  · have hz : ¬ 0 < nN (X 64 226) := fun hh => h38 ((nI_pos0 hI.ij.te.1.2).mpr hh)
    refine er_loc (pc' := 51) rfl rfl rfl ?_
    refine er_if_neT rfl (by decide +kernel) ?_
    refine er_loc (pc' := 64) rfl rfl rfl ?_
    refine er_loc (pc' := 65) rfl rfl rfl ?_
    refine er_iadd (pc' := 66) rfl rfl ?_
    refine er_k (pc' := 68) (nI 9) rfl rfl rfl ?_
    refine er_cm_le (pc' := 71) rfl rfl (fun h68 => ?_) (fun h68 => ?_)
    · refine er_k (nI 0) rfl rfl rfl ?_
      refine er_loc (pc' := 78) (L' := [(6, _), (5, _), (0, _), (1, _), (2, _), (3, _), (4, _)]) rfl rfl rfl ?_
      refine er_loc (pc' := 79) rfl rfl rfl ?_
      refine er_if_neT rfl (by decide +kernel) ?_
      refine er_loc (pc' := 95) rfl rfl rfl ?_
      refine er_k (pc' := 96) (nI 0) rfl rfl rfl ?_
      refine er_k (pc' := 97) (nI 1) rfl rfl rfl ?_
      refine er_cSi (pc' := 100) (rest := []) rfl rfl rfl (l_held _ _ _ _ _) ?_
      refine er_iret rfl rfl ?_
      refine RI_of ?_ rfl
      show sHeld _ _ _ = sHeld (if 0 < nN (X 64 226) then _ else (if nI 9 < _ then _ else _)) _ _
      rw [if_neg hz, if_neg h68]
    · refine er_k (nI 1) rfl rfl rfl ?_
      refine er_goto rfl ?_
      refine er_loc (pc' := 78) (L' := [(6, _), (5, _), (0, _), (1, _), (2, _), (3, _), (4, _)]) rfl rfl rfl ?_
      refine er_loc (pc' := 79) rfl rfl rfl ?_
      refine er_if_neT rfl (by decide +kernel) ?_
      refine er_loc (pc' := 95) rfl rfl rfl ?_
      refine er_k (pc' := 96) (nI 0) rfl rfl rfl ?_
      refine er_k (pc' := 97) (nI 1) rfl rfl rfl ?_
      refine er_cSi (pc' := 100) (rest := []) rfl rfl rfl (l_held _ _ _ _ _) ?_
      refine er_iret rfl rfl ?_
      refine RI_of ?_ rfl
      show sHeld _ _ _ = sHeld (if 0 < nN (X 64 226) then _ else (if nI 9 < _ then _ else _)) _ _
      rw [if_neg hz, if_pos h68]
  · have hz : 0 < nN (X 64 226) := (nI_pos0 hI.ij.te.1.2).mp h38
    refine er_loc (pc' := 42) rfl rfl rfl ?_
    refine er_loc (pc' := 44) rfl rfl rfl ?_
    refine er_cIz (pc' := 47) (rest := []) 12 rfl rfl rfl rfl rfl rfl (l_rWorks _ X _ 226 (nN (X 64 226)) a b c (by omega) hl (fun k hk => hI.2.2.2 k hk) (wfM8 hI.ij) hz ⟨by simp [ud_at], by simp [ud_at], by simp [ud_at]⟩) ?_
    intro Z2
    refine er_goto rfl ?_
    refine er_loc (pc' := 78) (L' := [(6, _), (5, _), (0, _), (1, _), (2, _), (3, _), (4, _)]) rfl rfl rfl ?_
    refine er_loc (pc' := 79) rfl rfl rfl ?_
    refine er_if_neT rfl (by decide +kernel) ?_
    refine er_loc (pc' := 95) rfl rfl rfl ?_
    refine er_k (pc' := 96) (nI 0) rfl rfl rfl ?_
    refine er_k (pc' := 97) (nI 1) rfl rfl rfl ?_
    refine er_cSi (pc' := 100) (rest := []) rfl rfl rfl (l_held _ _ _ _ _) ?_
    refine er_iret rfl rfl ?_
    refine RI_of ?_ rfl
    rw [vlM8]
    show sHeld _ _ _ = sHeld (if 0 < nN (X 64 226) then _ else _) _ _
    rw [if_pos hz]
