/-! TEXTS: their code worked out, by loops over a pile -/
theorem nI_sub {a b : Nat} (h : b ≤ a) : nI a - nI b = nI (a - b) := by
  have e : nI a = nI (a - b) + nI b := by rw [nI_add]; congr 1; omega
  rw [e, Int32.add_sub_cancel]
theorem nI_addm1 {a : Nat} (h : 1 ≤ a) : nI a + (-1) = nI (a - 1) := by
  rw [← nI_sub h]
  exact (Int32.sub_eq_add_neg (a := nI a) (b := nI 1)).symm ▸ rfl
theorem sDp_le (f : Nat → Int32) : ∀ i, sDp f i ≤ i
  | 0 => Nat.le_refl _
  | i + 1 => by
    have := sDp_le f i
    unfold sDp
    split
    · split <;> omega
    · omega
theorem sEv_push {f : Nat → Int32} {a b c : Int32} {i : Nat} (h : ¬ f i < -3) : sEv f a b c (i + 1) = sVal (f i) a b c :: sEv f a b c i := by
  show sStep _ _ _ _ _ = _
  unfold sStep
  rw [if_neg h]
theorem sDp_push {f : Nat → Int32} {i : Nat} (h : ¬ f i < -3) : sDp f (i + 1) = sDp f i + 1 := by
  show (if _ then _ else _) = _
  rw [if_neg h]
theorem sEv_deny {f : Nat → Int32} {a b c x : Int32} {r : List Int32} {i : Nat} (h : f i < -3) (h2 : f i = -33) (hl : sEv f a b c i = x :: r) : sEv f a b c (i + 1) = bI (decide (x = 0)) :: r := by
  show sStep _ _ _ _ _ = _
  unfold sStep
  rw [if_pos h, if_pos h2, hl]
theorem sDp_deny {f : Nat → Int32} {i : Nat} (h : f i < -3) (h2 : f i = -33) : sDp f (i + 1) = sDp f i := by
  show (if _ then _ else _) = _
  rw [if_pos h, if_pos h2]
theorem sEv_join {f : Nat → Int32} {a b c x y : Int32} {r : List Int32} {i : Nat} (h : f i < -3) (h2 : ¬ f i = -33) (hl : sEv f a b c i = y :: x :: r) : sEv f a b c (i + 1) = sJoin (-f i) x y :: r := by
  show sStep _ _ _ _ _ = _
  unfold sStep
  rw [if_pos h, if_neg h2, hl]
theorem sDp_join {f : Nat → Int32} {i : Nat} (h : f i < -3) (h2 : ¬ f i = -33) : sDp f (i + 1) = sDp f i - 1 := by
  show (if _ then _ else _) = _
  rw [if_pos h, if_neg h2]
theorem ne_nil {l : List Int32} {n : Nat} (h : l.length = n) (hn : 1 ≤ n) : ∃ x r, l = x :: r ∧ r.length = n - 1 := by
  match l, h with
  | [], h => simp at h; omega
  | x :: r, h => exact ⟨x, r, rfl, by simp at h; omega⟩
theorem ne_nil2 {l : List Int32} {n : Nat} (h : l.length = n) (hn : 2 ≤ n) : ∃ y x r, l = y :: x :: r ∧ r.length = n - 2 := by
  match l, h with
  | [], h => simp at h; omega
  | [x], h => simp at h; omega
  | y :: x :: r, h => exact ⟨y, x, r, rfl, by simp at h; omega⟩
theorem Stk_one {z : Nat → Int32} {l : List Int32} (h : Stk z l) (hl : l.length = 1) : z 0 = l.headD 0 := by
  match l, hl with
  | [x], _ => exact h.1
def sVl (f : Nat → Int32) (n : Nat) (a b c : Int32) : Int32 := (sEv f a b c n).headD 0
set_option maxRecDepth 100000 in
set_option maxHeartbeats 4000000 in
theorem l_wo_loop (d : Nat) {t : Nat} (ht : tx t) (X : Nat → Nat → Int32) (a b c : Int32) (len : Nat) (hl : X t 2 = nI len) (hw : wfC (X (t + 1)) len) (h0 : 0 < len) : ∀ (m i : Nat) (Z : Nat → Nat → Int32), i + m = len → Stk (Z (t + 2)) (sEv (X (t + 1)) a b c i) → ER (d + 1) tb_m56 6 [(0, .ref t), (1, .int a), (2, .int b), (3, .int c), (4, .int (nI (sDp (X (t + 1)) i))), (5, .int (nI i))] [] (Wd X Z) (RI (sVl (X (t + 1)) len a b c) X)
  | 0, i, Z, hi, hs => by
    have hi : i = len := by omega
    subst hi
    have h50 := hw.1
    refine er_loc (pc' := 8) rfl rfl rfl ?_
    refine er_loc (pc' := 9) rfl rfl rfl ?_
    refine er_gf (pc' := 12) (_) rfl (blt_T ht 0 rfl) (cO_T0 ht _ _) rfl rfl ?_
    rw [hl]
    refine er_cm_geT rfl (nI_nlt (by omega) (by omega)) ?_
    refine er_loc (pc' := 151) rfl rfl rfl ?_
    refine er_gf (pc' := 154) (_) rfl (blt_T ht 0 rfl) (cO_T0 ht _ _) rfl rfl ?_
    refine er_k (pc' := 155) (nI 0) rfl rfl rfl ?_
    refine er_ia (pc' := 156) (0) rfl (blt_T ht 2 rfl) (cO_T2 ht _ _) rfl (by omega) rfl rfl ?_
    refine er_iret rfl rfl ?_
    exact ⟨_, by rw [Stk_one hs (by rw [sEv_len hw _ (Nat.le_refl _)]; exact hw.2.1 h0)]; rfl⟩
  | m + 1, i, Z, hi, hs => by
    have h50 := hw.1
    obtain ⟨w1, w2, w3⟩ := hw.2.2 i (by omega)
    have hlen := sEv_len (a := a) (b := b) (c := c) hw i (by omega)
    have hd50 : sDp (X (t + 1)) i ≤ 50 := Nat.le_trans (sDp_le _ i) (by omega)
    refine er_loc (pc' := 8) rfl rfl rfl ?_
    refine er_loc (pc' := 9) rfl rfl rfl ?_
    refine er_gf (pc' := 12) (_) rfl (blt_T ht 0 rfl) (cO_T0 ht _ _) rfl rfl ?_
    rw [hl]
    refine er_cm_geF (pc' := 15) rfl (nI_lt (by omega) (by omega)) rfl ?_
    refine er_loc (pc' := 16) rfl rfl rfl ?_
    refine er_gf (pc' := 19) (_) rfl (blt_T ht 0 rfl) (cO_T0 ht _ _) rfl rfl ?_
    refine er_loc (pc' := 21) rfl rfl rfl ?_
    refine er_ia (pc' := 22) (i) rfl (blt_T ht 1 rfl) (cO_T1 ht _ _) rfl (by omega) rfl rfl ?_
    refine er_loc (pc' := 24) (L' := [(6, _), (0, _), (1, _), (2, _), (3, _), (4, _), (5, _)]) rfl rfl rfl ?_
    refine er_loc (pc' := 26) rfl rfl rfl ?_
    refine er_k (pc' := 28) (-3) rfl rfl rfl ?_
    refine er_cm_lt (pc' := 31) rfl rfl (fun h28 => ?_) (fun h28 => ?_)
    · refine er_loc (pc' := 64) rfl rfl rfl ?_
      refine er_k (pc' := 66) (-33) rfl rfl rfl ?_
      refine er_cm_ne (pc' := 69) rfl rfl (fun h66 => ?_) (fun h66 => ?_)
      · have d1 := w3 h28 h66
        obtain ⟨y0, x0, r0, hl0, hr0⟩ := ne_nil2 hlen d1
        have hz0 := hs
        rw [hl0] at hz0
        refine er_loc (pc' := 106) rfl rfl rfl ?_
        refine er_k (pc' := 107) (nI 2) rfl rfl rfl ?_
        refine er_cm_ltF (pc' := 110) rfl (nI_nlt d1 (by omega)) rfl ?_
        refine er_loc (pc' := 113) (L' := [(4, .int (_ + (-1))), (6, _), (0, _), (1, _), (2, _), (3, _), (5, _)]) rfl rfl rfl ?_
        rw [nI_addm1 (by omega)]
        refine er_loc (pc' := 114) rfl rfl rfl ?_
        refine er_gf (pc' := 117) (_) rfl (blt_T ht 0 rfl) (cO_T0 ht _ _) rfl rfl ?_
        refine er_loc (pc' := 119) rfl rfl rfl ?_
        refine er_k (pc' := 120) (nI 1) rfl rfl rfl ?_
        refine er_isub rfl rfl ?_
        refine er_loc (pc' := 123) rfl rfl rfl ?_
        refine er_ineg (pc' := 124) rfl rfl ?_
        refine er_loc (pc' := 125) rfl rfl rfl ?_
        refine er_gf (pc' := 128) (_) rfl (blt_T ht 0 rfl) (cO_T0 ht _ _) rfl rfl ?_
        refine er_loc (pc' := 130) rfl rfl rfl ?_
        refine er_k (pc' := 131) (nI 1) rfl rfl rfl ?_
        refine er_isub (pc' := 132) rfl rfl ?_
        refine er_ia (pc' := 133) (sDp (X (t + 1)) i - 2) rfl (blt_T ht 2 rfl) (cO_T2 ht _ _) ((nI_sub (by omega)).trans (congrArg nI (by omega))) (by omega) rfl rfl ?_
        refine er_loc (pc' := 134) rfl rfl rfl ?_
        refine er_gf (pc' := 137) (_) rfl (blt_T ht 0 rfl) (cO_T0 ht _ _) rfl rfl ?_
        refine er_loc (pc' := 139) rfl rfl rfl ?_
        refine er_ia (pc' := 140) (sDp (X (t + 1)) i - 1) rfl (blt_T ht 2 rfl) (cO_T2 ht _ _) rfl (by omega) rfl rfl ?_
        refine er_cSi (pc' := 143) (rest := [_, _]) rfl rfl rfl (l_joined _ _ _ _ _) ?_
        refine er_isZ (pc' := 144) (sDp (X (t + 1)) i - 2) rfl (blt_T ht 2 rfl) (fun f => cO_T2 ht _ f) ((nI_sub (by omega)).trans (congrArg nI (by omega))) (by omega) rfl rfl ?_
        refine er_loc (L' := [(5, .int (_ + nI 1)), (4, _), (6, _), (0, _), (1, _), (2, _), (3, _)]) rfl rfl rfl ?_
        refine er_goto rfl ?_
        rw [nI_add]
        refine ER_loc [(0, _), (1, _), (2, _), (3, _), (4, _), (5, _)] rfl (List.forall_mem_cons.mpr ⟨rfl, List.forall_mem_cons.mpr ⟨rfl, List.forall_mem_cons.mpr ⟨rfl, List.forall_mem_cons.mpr ⟨rfl, List.forall_mem_cons.mpr ⟨rfl, List.forall_mem_cons.mpr ⟨rfl, fun _ h => absurd h List.not_mem_nil⟩⟩⟩⟩⟩⟩) rfl rfl ?_
        have ih := fun Z1 => l_wo_loop d ht X a b c len hl hw h0 m (i + 1) Z1 (by omega)
        rw [sDp_join h28 h66] at ih
        refine ih _ ?_
        rw [ud_same]
        rw [sEv_join h28 h66 hl0, show Z (t + 2) (sDp (X (t + 1)) i - 2) = x0 from by rw [← hr0]; exact hz0.2.1, show Z (t + 2) (sDp (X (t + 1)) i - 1) = y0 from by rw [show sDp (X (t + 1)) i - 1 = (x0 :: r0).length from by simp only [List.length_cons]; omega]; exact hz0.1, ← hr0]
        exact Stk_push _ hz0.2.2
      · have d1 := w2 h66
        obtain ⟨x0, r0, hl0, hr0⟩ := ne_nil hlen d1
        have hz0 := hs
        rw [hl0] at hz0
        refine er_loc (pc' := 71) rfl rfl rfl ?_
        refine er_k (pc' := 72) (nI 1) rfl rfl rfl ?_
        refine er_cm_ltF (pc' := 75) rfl (nI_nlt d1 (by omega)) rfl ?_
        refine er_loc (pc' := 76) rfl rfl rfl ?_
        refine er_gf (pc' := 79) (_) rfl (blt_T ht 0 rfl) (cO_T0 ht _ _) rfl rfl ?_
        refine er_loc (pc' := 81) rfl rfl rfl ?_
        refine er_k (pc' := 82) (nI 1) rfl rfl rfl ?_
        refine er_isub (pc' := 83) rfl rfl ?_
        refine er_loc (pc' := 84) rfl rfl rfl ?_
        refine er_gf (pc' := 87) (_) rfl (blt_T ht 0 rfl) (cO_T0 ht _ _) rfl rfl ?_
        refine er_loc (pc' := 89) rfl rfl rfl ?_
        refine er_k (pc' := 90) (nI 1) rfl rfl rfl ?_
        refine er_isub (pc' := 91) rfl rfl ?_
        refine er_ia (pc' := 92) (sDp (X (t + 1)) i - 1) rfl (blt_T ht 2 rfl) (cO_T2 ht _ _) (nI_sub d1) (by omega) rfl rfl ?_
        rw [show Z (t + 2) (sDp (X (t + 1)) i - 1) = x0 from by rw [← hr0]; exact hz0.1]
        refine er_if_ne (pc' := 95) rfl rfl (fun h92 => ?_) (fun h92 => ?_)
        · refine er_k (nI 0) rfl rfl rfl ?_
          refine er_isZ (pc' := 101) (sDp (X (t + 1)) i - 1) rfl (blt_T ht 2 rfl) (fun f => cO_T2 ht _ f) (nI_sub d1) (by omega) rfl rfl ?_
          refine er_goto rfl ?_
          refine er_loc (L' := [(5, .int (_ + nI 1)), (6, _), (0, _), (1, _), (2, _), (3, _), (4, _)]) rfl rfl rfl ?_
          refine er_goto rfl ?_
          rw [nI_add]
          refine ER_loc [(0, _), (1, _), (2, _), (3, _), (4, _), (5, _)] rfl (List.forall_mem_cons.mpr ⟨rfl, List.forall_mem_cons.mpr ⟨rfl, List.forall_mem_cons.mpr ⟨rfl, List.forall_mem_cons.mpr ⟨rfl, List.forall_mem_cons.mpr ⟨rfl, List.forall_mem_cons.mpr ⟨rfl, fun _ h => absurd h List.not_mem_nil⟩⟩⟩⟩⟩⟩) rfl rfl ?_
          have ih := fun Z1 => l_wo_loop d ht X a b c len hl hw h0 m (i + 1) Z1 (by omega)
          rw [sDp_deny h28 h66] at ih
          refine ih _ ?_
          rw [ud_same]
          rw [sEv_deny h28 h66 hl0, decide_eq_false h92, ← hr0]
          exact Stk_push _ hz0.2
        · refine er_k (nI 1) rfl rfl rfl ?_
          refine er_goto rfl ?_
          refine er_isZ (pc' := 101) (sDp (X (t + 1)) i - 1) rfl (blt_T ht 2 rfl) (fun f => cO_T2 ht _ f) (nI_sub d1) (by omega) rfl rfl ?_
          refine er_goto rfl ?_
          refine er_loc (L' := [(5, .int (_ + nI 1)), (6, _), (0, _), (1, _), (2, _), (3, _), (4, _)]) rfl rfl rfl ?_
          refine er_goto rfl ?_
          rw [nI_add]
          refine ER_loc [(0, _), (1, _), (2, _), (3, _), (4, _), (5, _)] rfl (List.forall_mem_cons.mpr ⟨rfl, List.forall_mem_cons.mpr ⟨rfl, List.forall_mem_cons.mpr ⟨rfl, List.forall_mem_cons.mpr ⟨rfl, List.forall_mem_cons.mpr ⟨rfl, List.forall_mem_cons.mpr ⟨rfl, fun _ h => absurd h List.not_mem_nil⟩⟩⟩⟩⟩⟩) rfl rfl ?_
          have ih := fun Z1 => l_wo_loop d ht X a b c len hl hw h0 m (i + 1) Z1 (by omega)
          rw [sDp_deny h28 h66] at ih
          refine ih _ ?_
          rw [ud_same]
          rw [sEv_deny h28 h66 hl0, decide_eq_true h92, ← hr0]
          exact Stk_push _ hz0.2
    · refine er_loc (pc' := 33) rfl rfl rfl ?_
      refine er_loc (pc' := 34) rfl rfl rfl ?_
      refine er_gf (pc' := 37) (_) rfl (blt_T ht 0 rfl) (cO_T0 ht _ _) rfl rfl ?_
      refine er_al (pc' := 38) rfl (blt_T ht 2 rfl) (cO_T2 ht _ _) rfl ?_
      refine er_cm_geF (pc' := 41) rfl (nI_lt (w1 h28) (by omega)) rfl ?_
      refine er_loc (pc' := 42) rfl rfl rfl ?_
      refine er_gf (pc' := 45) (_) rfl (blt_T ht 0 rfl) (cO_T0 ht _ _) rfl rfl ?_
      refine er_loc (pc' := 47) rfl rfl rfl ?_
      refine er_loc (pc' := 49) rfl rfl rfl ?_
      refine er_loc (pc' := 50) rfl rfl rfl ?_
      refine er_loc (pc' := 51) rfl rfl rfl ?_
      refine er_loc (pc' := 52) rfl rfl rfl ?_
      refine er_cSi (pc' := 55) (rest := [_, _]) rfl rfl rfl (l_valueOf _ _ _ _ _ _) ?_
      refine er_isZ (sDp (X (t + 1)) i) rfl (blt_T ht 2 rfl) (fun f => cO_T2 ht _ f) rfl (w1 h28) rfl rfl ?_
      refine er_loc (pc' := 59) (L' := [(4, .int (_ + nI 1)), (6, _), (0, _), (1, _), (2, _), (3, _), (5, _)]) rfl rfl rfl ?_
      refine er_goto rfl ?_
      refine er_loc (L' := [(5, .int (_ + nI 1)), (4, _), (6, _), (0, _), (1, _), (2, _), (3, _)]) rfl rfl rfl ?_
      refine er_goto rfl ?_
      rw [nI_add, nI_add]
      refine ER_loc [(0, _), (1, _), (2, _), (3, _), (4, _), (5, _)] rfl (List.forall_mem_cons.mpr ⟨rfl, List.forall_mem_cons.mpr ⟨rfl, List.forall_mem_cons.mpr ⟨rfl, List.forall_mem_cons.mpr ⟨rfl, List.forall_mem_cons.mpr ⟨rfl, List.forall_mem_cons.mpr ⟨rfl, fun _ h => absurd h List.not_mem_nil⟩⟩⟩⟩⟩⟩) rfl rfl ?_
      have ih := fun Z1 => l_wo_loop d ht X a b c len hl hw h0 m (i + 1) Z1 (by omega)
      rw [sDp_push h28] at ih
      refine ih _ ?_
      rw [ud_same]
      rw [sEv_push h28, ← hlen]
      exact Stk_push _ hs
set_option maxRecDepth 100000 in
set_option maxHeartbeats 4000000 in
theorem l_workedOut (d : Nat) {t : Nat} (ht : tx t) (X Z : Nat → Nat → Int32) (a b c : Int32) (len : Nat) (hl : X t 2 = nI len) (hw : wfC (X (t + 1)) len) (h0 : 0 < len) : EC (d + 2) 56 [.ref t, .int a, .int b, .int c] (Wd X Z) (RI (sVl (X (t + 1)) len a b c) X) := by
  refine er_enter (L := [(0, _), (1, _), (2, _), (3, _)]) rfl rfl rfl ?_
  refine er_k (pc' := 1) (nI 0) rfl rfl rfl ?_
  refine er_loc (pc' := 3) (L' := [(4, _), (0, _), (1, _), (2, _), (3, _)]) rfl rfl rfl ?_
  refine er_k (pc' := 4) (nI 0) rfl rfl rfl ?_
  refine er_loc (pc' := 6) (L' := [(5, _), (4, _), (0, _), (1, _), (2, _), (3, _)]) rfl rfl rfl ?_
  refine ER_loc [(0, _), (1, _), (2, _), (3, _), (4, _), (5, _)] rfl (List.forall_mem_cons.mpr ⟨rfl, List.forall_mem_cons.mpr ⟨rfl, List.forall_mem_cons.mpr ⟨rfl, List.forall_mem_cons.mpr ⟨rfl, List.forall_mem_cons.mpr ⟨rfl, List.forall_mem_cons.mpr ⟨rfl, fun _ h => absurd h List.not_mem_nil⟩⟩⟩⟩⟩⟩) rfl rfl ?_
  exact l_wo_loop d ht X a b c len hl hw h0 len 0 _ (by omega) trivial
set_option maxRecDepth 100000 in
set_option maxHeartbeats 4000000 in
theorem l_isGiven (d : Nat) {t : Nat} (ht : tx t) (X Z : Nat → Nat → Int32) (len : Nat) (hl : X t 2 = nI len) (h50 : len ≤ 50) : EC (d + 1) 55 [.ref t] (Wd X Z) (PI (bI (decide (0 < len))) (Wd X Z)) := by
  refine er_enter (L := [(0, _)]) rfl rfl rfl ?_
  refine er_loc (pc' := 1) rfl rfl rfl ?_
  refine er_gf (pc' := 4) (_) rfl (blt_T ht 0 rfl) (cO_T0 ht _ _) rfl rfl ?_
  rw [hl]
  refine er_if_le (pc' := 7) rfl rfl (fun h4 => ?_) (fun h4 => ?_)
  · have hq : len = 0 := by
      rcases Nat.eq_zero_or_pos len with h | h
      · exact h
      · exact absurd (nI_lt h (by omega)) h4
    refine er_k (pc' := 12) (nI 0) rfl rfl rfl ?_
    refine er_ret _ rfl rfl ?_
    exact PI_of (bI_eq0 (by simp [hq]))
  · have hq : 0 < len := by
      rcases Nat.eq_zero_or_pos len with h | h
      · subst h; exact absurd h4 (by decide +kernel)
      · exact h
    refine er_k (pc' := 8) (nI 1) rfl rfl rfl ?_
    refine er_goto rfl ?_
    refine er_ret _ rfl rfl ?_
    exact PI_of (bI_eq1 (by simp [hq]))
