/-! THE REFERENCE, its face: all, check -/
def unN (J : Nat → Nat → Int32) : Nat → Nat
  | 0 => 0
  | i + 1 => unN J i + (if sDone J i = true then 0 else 1)
theorem unN_le (J : Nat → Nat → Int32) : ∀ n, unN J n ≤ n
  | 0 => Nat.le_refl _
  | n + 1 => by
    have := unN_le J n
    unfold unN
    split <;> omega
theorem done_pass {J : Nat → Nat → Int32} {k i : Nat} (hk : k < 32) (hi : i < 32) : sDone (jPass J k) i = if i = k then true else sDone J i := by
  unfold sDone
  rw [show jPass J k 0 6 = sWith (J 0 6) (nI k) true from rfl, sBit_bt hi, bt_with hk, sBit_bt hi]
theorem done_fin {J : Nat → Nat → Int32} {k i : Nat} (hk : k < 32) (hi : i < 32) : sDone (jFin J k) i = if i = k then true else sDone J i := done_pass hk hi
theorem unN_fin {J : Nat → Nat → Int32} {k : Nat} (hk : k < 32) (hd : sDone J k = false) : ∀ {n : Nat}, n ≤ 32 → unN (jFin J k) n + (if k < n then 1 else 0) = unN J n
  | 0, _ => by rw [if_neg (by omega)]; rfl
  | n + 1, h => by
    have ih := unN_fin hk hd (n := n) (by omega)
    show unN (jFin J k) n + (if sDone (jFin J k) n = true then 0 else 1) + _ = unN J n + (if sDone J n = true then 0 else 1)
    rw [done_fin hk (by omega)]
    by_cases hn : n = k
    · subst hn
      rw [if_pos rfl, if_pos rfl, if_pos (by omega), hd, if_neg (by decide)]
      rw [if_neg (by omega)] at ih
      omega
    · rw [if_neg hn]
      by_cases h1 : k < n
      · rw [if_pos (show k < n + 1 by omega)]
        rw [if_pos h1] at ih
        omega
      · rw [if_neg (show ¬ k < n + 1 by omega)]
        rw [if_neg h1] at ih
        omega
theorem unN_0 {J : Nat → Nat → Int32} : ∀ {n : Nat}, unN J n = 0 → ∀ i, i < n → sDone J i = true
  | 0, _, i, hi => by omega
  | n + 1, h, i, hi => by
    unfold unN at h
    cases hd : sDone J n with
    | false => rw [hd, if_neg (by decide)] at h; omega
    | true =>
      rw [hd, if_pos rfl] at h
      by_cases he : i = n
      · subst he; exact hd
      · exact unN_0 (n := n) (by omega) i (by omega)
theorem sFirst_lt {J : Nat → Nat → Int32} : ∀ {m i k : Nat}, sFirst J m i = some k → sMayDo J k = true
  | 0, i, k, h => by cases h
  | m + 1, i, k, h => by
    unfold sFirst at h
    split at h
    · rename_i h1
      cases h
      exact h1
    · exact sFirst_lt h
theorem jIt_stay {J : Nat → Nat → Int32} {i : Nat} (h : sFirst (jIt J i) (jn (jIt J i)) 0 = none) : ∀ t, jIt J (i + t) = jIt J i
  | 0 => rfl
  | t + 1 => by
    show jS (jIt J (i + t)) = _
    rw [jIt_stay h t, jS_none h]
theorem jIt_8 {J : Nat → Nat → Int32} {i : Nat} (hi : i ≤ 8) (h : sFirst (jIt J i) (jn (jIt J i)) 0 = none) : jIt J 8 = jIt J i := by
  have := jIt_stay h (8 - i)
  rwa [show i + (8 - i) = 8 by omega] at this
def O64 (X X' : Nat → Nat → Int32) : Prop := ∀ c, c ≠ 64 → X' c = X c
theorem O64.rf (X : Nat → Nat → Int32) : O64 X X := fun _ _ => rfl
theorem O64.trans {X Y V : Nat → Nat → Int32} (h : O64 X Y) (h2 : O64 Y V) : O64 X V := fun c hc => (h2 c hc).trans (h c hc)
theorem jS_j {J K : Nat → Nat → Int32} {i k : Nat} (hs : sFirst K (jn K) 0 = some k) (hj : K = jIt J i) : jFin K k = jIt J (i + 1) := by
  show _ = jS (jIt J i)
  rw [← hj, jS_some hs]
set_option maxRecDepth 100000 in
set_option maxHeartbeats 4000000 in
theorem l_rAll_loop (d : Nat) {X : Nat → Nat → Int32} {T : Nat} (hI : RK T (X 64)) (w : Int32) (P : ab_R → Prop) : ∀ (m i T1 : Nat) (X1 Z : Nat → Nat → Int32) (x : Int32), i + m = 8 → x = nI 1 → O64 X X1 → jm (X1 64) = jIt (jm (X 64)) i → RK T1 (X1 64) → T1 + 300 * m < 1000000000 → unN (jm (X1 64)) (jn (jm (X1 64))) ≤ m → (∀ X2 Z2 x2, O64 X X2 → jm (X2 64) = jIt (jm (X 64)) 8 → RK (T1 + 300 * m) (X2 64) → ER (d + 8) tb_m175 34 [(0, .ref 63), (1, .int w), (2, .int x2)] [] (Wd X2 Z2) P) → ER (d + 8) tb_m175 22 [(0, .ref 63), (1, .int w), (2, .int x)] [] (Wd X1 Z) P
  | 0, i, T1, X1, Z, x, hi, hx, ho, hj, hI1, hT1, hu, hP => by
    subst hx
    refine er_loc (pc' := 23) rfl rfl rfl ?_
    refine er_if_eqF (pc' := 26) rfl (by decide +kernel) rfl ?_
    refine er_loc (pc' := 27) rfl rfl rfl ?_
    cases hs : sFirst (jm (X1 64)) (jn (jm (X1 64))) 0 with
    | some k =>
      obtain ⟨hk, hd, _⟩ := mayDo_k (sFirst_lt hs)
      rw [unN_0 (show unN (jm (X1 64)) (jn (jm (X1 64))) = 0 by omega) k hk] at hd
      cases hd
    | none =>
      refine er_cIz (pc' := 30) (rest := []) 12 rfl rfl rfl rfl rfl rfl (l_dn0 _ X1 _ hI1 (by omega) hs) ?_
      intro Z2
      refine er_loc (pc' := 31) (L' := [(2, _), (0, _), (1, _)]) rfl rfl rfl ?_
      refine er_goto rfl ?_
      refine er_loc (pc' := 23) rfl rfl rfl ?_
      refine er_if_eqT rfl (by decide +kernel) ?_
      refine ER_loc [(0, _), (1, _), (2, _)] rfl (List.forall_mem_cons.mpr ⟨rfl, List.forall_mem_cons.mpr ⟨rfl, List.forall_mem_cons.mpr ⟨rfl, fun _ h => absurd h List.not_mem_nil⟩⟩⟩) rfl rfl ?_
      refine hP X1 _ _ ho ?_ (hI1.mono (by omega))
      rw [hj]
      exact (jIt_8 (by omega) (by rw [← hj]; exact hs)).symm
  | m + 1, i, T1, X1, Z, x, hi, hx, ho, hj, hI1, hT1, hu, hP => by
    subst hx
    replace hP : ∀ X2 Z2 x2, O64 X X2 → jm (X2 64) = jIt (jm (X 64)) 8 → RK (T1 + 300 + 300 * m) (X2 64) → ER (d + 8) tb_m175 34 [(0, .ref 63), (1, .int w), (2, .int x2)] [] (Wd X2 Z2) P := fun X2 Z2 x2 a b c => hP X2 Z2 x2 a b (c.mono (by omega))
    refine er_loc (pc' := 23) rfl rfl rfl ?_
    refine er_if_eqF (pc' := 26) rfl (by decide +kernel) rfl ?_
    refine er_loc (pc' := 27) rfl rfl rfl ?_
    cases hs : sFirst (jm (X1 64)) (jn (jm (X1 64))) 0 with
    | none =>
      refine er_cIz (pc' := 30) (rest := []) 12 rfl rfl rfl rfl rfl rfl (l_dn0 _ X1 _ hI1 (by omega) hs) ?_
      intro Z2
      refine er_loc (pc' := 31) (L' := [(2, _), (0, _), (1, _)]) rfl rfl rfl ?_
      refine er_goto rfl ?_
      refine er_loc (pc' := 23) rfl rfl rfl ?_
      refine er_if_eqT rfl (by decide +kernel) ?_
      refine ER_loc [(0, _), (1, _), (2, _)] rfl (List.forall_mem_cons.mpr ⟨rfl, List.forall_mem_cons.mpr ⟨rfl, List.forall_mem_cons.mpr ⟨rfl, fun _ h => absurd h List.not_mem_nil⟩⟩⟩) rfl rfl ?_
      refine hP X1 _ _ ho ?_ (hI1.mono (by omega))
      rw [hj]
      exact (jIt_8 (by omega) (by rw [← hj]; exact hs)).symm
    | some k =>
      obtain ⟨hk, hd, _⟩ := mayDo_k (sFirst_lt hs)
      refine er_cIj (pc' := 30) (rest := []) 12 rfl rfl rfl rfl rfl rfl (l_dn1 _ X1 _ hI1 (by omega) hs) ?_
      intro X2 Z2 w2
      refine er_loc (pc' := 31) (L' := [(2, _), (0, _), (1, _)]) rfl rfl rfl ?_
      refine er_goto rfl ?_
      refine ER_loc [(0, _), (1, _), (2, _)] rfl (List.forall_mem_cons.mpr ⟨rfl, List.forall_mem_cons.mpr ⟨rfl, List.forall_mem_cons.mpr ⟨rfl, fun _ h => absurd h List.not_mem_nil⟩⟩⟩) rfl rfl ?_
      have h8 := jn8 hI1.ij
      have hu := unN_fin (J := jm (X1 64)) (show k < 32 by omega) hd (show jn (jm (X1 64)) ≤ 32 by omega)
      rw [if_pos hk] at hu
      refine l_rAll_loop d hI w P m (i + 1) (T1 + 300) X2 Z2 _ (by omega) rfl (ho.trans (fun c hc => w2.off hc)) (by rw [w2.j, jS_j hs hj]) w2.rk (by omega) ?_ hP
      rw [w2.j, jn_fin]; omega
def R6 (v : Int32) (X : Nat → Nat → Int32) : ab_R → Prop := fun r => ∃ X' Z', r = (some (.int v), Wd X' Z') ∧ ∀ c, c ≠ 66 → X' c = X c
theorem R6_of {v x : Int32} {X X' Z : Nat → Nat → Int32} (hx : x = v) (h : ∀ c, c ≠ 66 → X' c = X c) : R6 v X (some (.int x), Wd X' Z) := ⟨X', Z, by rw [hx], h⟩
set_option maxRecDepth 100000 in
set_option maxHeartbeats 4000000 in
theorem l_rAll (d : Nat) (X Z : Nat → Nat → Int32) {T : Nat} (hI : RK T (X 64)) (hT9 : T < 1000000) (w : Int32) : EC (d + 9) 175 [.ref 63, .int w] (Wd X Z) (fun r => if sIn w (nI 0) (nI 2) = true then R6 (sAll (jm (X 64)) w) X r else RI (sErr 1) (yErr X 1) r) := by
  refine er_enter (L := [(0, _), (1, _)]) rfl rfl rfl ?_
  refine er_loc (pc' := 1) rfl rfl rfl ?_
  refine er_k (pc' := 2) (nI 0) rfl rfl rfl ?_
  refine er_k (pc' := 3) (nI 2) rfl rfl rfl ?_
  refine er_cSi (pc' := 6) (rest := []) rfl rfl rfl (l_in _ _ _ _ _) ?_
  refine er_if_neb (pc' := 9) rfl rfl (fun h6 => ?_) (fun h6 => ?_)
  · refine er_loc (pc' := 17) rfl rfl rfl ?_
    refine er_cIv (pc' := 20) (rest := []) 12 rfl rfl rfl rfl rfl rfl (l_rThinks _ _ _) ?_
    intro Z7
    refine er_k (pc' := 21) (nI 1) rfl rfl rfl ?_
    refine er_loc (pc' := 22) (L' := [(2, _), (0, _), (1, _)]) rfl rfl rfl ?_
    refine ER_loc [(0, _), (1, _), (2, _)] rfl (List.forall_mem_cons.mpr ⟨rfl, List.forall_mem_cons.mpr ⟨rfl, List.forall_mem_cons.mpr ⟨rfl, fun _ h => absurd h List.not_mem_nil⟩⟩⟩) rfl rfl ?_
    refine l_rAll_loop d (X := uc X 66 (X 64)) (T := T) hI w _ 8 0 T _ _ _ (by omega) rfl (O64.rf _) rfl hI (by omega) (Nat.le_trans (unN_le _ _) (jn8 hI.ij)) ?_
    intro X2 Z2 x2 ho2 hj2 hI2
    replace hj2 : jm (X2 64) = jIt (jm (X 64)) 8 := hj2
    refine er_loc (pc' := 35) rfl rfl rfl ?_
    refine er_if_ne (pc' := 38) rfl rfl (fun h35 => ?_) (fun h35 => ?_)
    · refine er_loc (pc' := 55) rfl rfl rfl ?_
      refine er_k (pc' := 56) (nI 1) rfl rfl rfl ?_
      refine er_cm_ne (pc' := 59) rfl rfl (fun h56 => ?_) (fun h56 => ?_)
      · refine er_loc rfl rfl rfl ?_
        refine er_cIi (pc' := 80) (rest := []) 12 rfl rfl rfl rfl rfl rfl (l_rWrongsJ _ X2 _ hI2) ?_
        refine er_loc (pc' := 81) (L' := [(3, _), (0, _), (1, _), (2, _)]) rfl rfl rfl ?_
        refine er_loc (pc' := 82) rfl rfl rfl ?_
        refine er_cIv (pc' := 85) (rest := []) 12 rfl rfl rfl rfl rfl rfl (l_rPutsBack _ _ _) ?_
        intro Z7
        refine er_loc (pc' := 86) rfl rfl rfl ?_
        refine er_iret rfl rfl ?_
        rw [if_pos h6]
        have hv : sAll (jm (X 64)) w = sPop (jIt (jm (X 64)) 8 0 7) := by unfold sAll; rw [if_neg h35, if_neg h56]
        refine R6_of ?_ ?_
        · rw [hv, ← hj2]
        · intro c hc
          by_cases h64 : c = 64
          · subst h64
            rw [uc_same, ho2 66 (by omega)]
            rfl
          · rw [uc_ne h64, ho2 c h64]
            exact uc_ne hc
      · refine er_loc rfl rfl rfl ?_
        refine er_gf (pc' := 63) (_) rfl rfl rfl rfl rfl ?_
        refine er_k (pc' := 64) (nI 2) rfl rfl rfl ?_
        refine er_ia (pc' := 65) (2) rfl rfl rfl rfl (by omega) rfl rfl ?_
        refine er_loc (pc' := 66) rfl rfl rfl ?_
        refine er_cIi (pc' := 69) (rest := [_]) 12 rfl rfl rfl rfl rfl rfl (l_rDone _ X2 _ (n := jn (jm (X2 64))) hI2.n hI2.n8) ?_
        rw [show rB (X2 64) 11 (jn (jm (X2 64))) = jm (X2 64) 0 6 from rfl]
        refine er_cSi (pc' := 72) (rest := [_]) rfl rfl rfl (l_rBitsD _ _ hI2.ij) ?_
        refine er_isub (pc' := 73) rfl rfl ?_
        refine er_goto rfl ?_
        refine er_loc (pc' := 81) (L' := [(3, _), (0, _), (1, _), (2, _)]) rfl rfl rfl ?_
        refine er_loc (pc' := 82) rfl rfl rfl ?_
        refine er_cIv (pc' := 85) (rest := []) 12 rfl rfl rfl rfl rfl rfl (l_rPutsBack _ _ _) ?_
        intro Z7
        refine er_loc (pc' := 86) rfl rfl rfl ?_
        refine er_iret rfl rfl ?_
        rw [if_pos h6]
        have hv : sAll (jm (X 64)) w = sOpen (jIt (jm (X 64)) 8) := by unfold sAll; rw [if_neg h35, if_pos h56]
        refine R6_of ?_ ?_
        · rw [hv, ← hj2]; rfl
        · intro c hc
          by_cases h64 : c = 64
          · subst h64
            rw [uc_same, ho2 66 (by omega)]
            rfl
          · rw [uc_ne h64, ho2 c h64]
            exact uc_ne hc
    · refine er_loc rfl rfl rfl ?_
      refine er_gf (pc' := 42) (_) rfl rfl rfl rfl rfl ?_
      refine er_k (pc' := 43) (nI 0) rfl rfl rfl ?_
      refine er_ia (pc' := 44) (0) rfl rfl rfl rfl (by omega) rfl rfl ?_
      refine er_loc (pc' := 45) rfl rfl rfl ?_
      refine er_gf (pc' := 48) (_) rfl rfl rfl rfl rfl ?_
      refine er_k (pc' := 49) (nI 0) rfl rfl rfl ?_
      refine er_ia (pc' := 50) (0) rfl rfl rfl rfl (by omega) rfl rfl ?_
      rw [show X2 66 0 = X 64 0 from by rw [ho2 66 (by omega)]; rfl]
      refine er_isub (pc' := 51) rfl rfl ?_
      refine er_goto rfl ?_
      refine er_loc (pc' := 81) (L' := [(3, _), (0, _), (1, _), (2, _)]) rfl rfl rfl ?_
      refine er_loc (pc' := 82) rfl rfl rfl ?_
      refine er_cIv (pc' := 85) (rest := []) 12 rfl rfl rfl rfl rfl rfl (l_rPutsBack _ _ _) ?_
      intro Z7
      refine er_loc (pc' := 86) rfl rfl rfl ?_
      refine er_iret rfl rfl ?_
      rw [if_pos h6]
      have hv : sAll (jm (X 64)) w = jIt (jm (X 64)) 8 0 10 - jm (X 64) 0 10 := by unfold sAll; rw [if_pos h35]
      refine R6_of ?_ ?_
      · rw [hv, ← hj2]; rfl
      · intro c hc
        by_cases h64 : c = 64
        · subst h64
          rw [uc_same, ho2 66 (by omega)]
          rfl
        · rw [uc_ne h64, ho2 c h64]
          exact uc_ne hc
  · refine er_loc (pc' := 10) rfl rfl rfl ?_
    refine er_ldc (pc' := 12) (-1000000001) rfl rfl rfl rfl rfl ?_
    refine er_cIz (pc' := 15) (rest := []) 12 rfl rfl rfl rfl rfl rfl (l_rError1 _ _ _) ?_
    intro Z9
    refine er_iret rfl rfl ?_
    rw [if_neg (by rw [h6]; decide)]
    exact RI_of rfl rfl
