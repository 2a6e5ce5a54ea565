/-! THE REFERENCE, its face: going back, whose screws -/
theorem goset_bt {J : Nat → Nat → Int32} {k i : Nat} {T : Nat} (hI : IJ T J) (hk : k < jn J) : bt (sGoSet J k) i = true ↔ (i = k ∨ bt (sRest J k (jn J)) i = true) := by
  have h8 := jn8 hI
  unfold sGoSet
  rw [bt_with (by omega)]
  by_cases h : i = k
  · simp [h]
  · simp [h]
theorem goset_ge {J : Nat → Nat → Int32} {k i : Nat} {T : Nat} (hI : IJ T J) (hk : k < jn J) (h : bt (sGoSet J k) i = true) : k ≤ i := by
  rcases (goset_bt hI hk).mp h with h | h
  · omega
  · exact Nat.le_of_lt ((rest_iff hI hk i).mp h).2.1
theorem sAny_from {p : Nat → Bool} {a : Nat} : ∀ {n : Nat}, n ≤ 8 → (∀ i, i < 8 → p i = true → a ≤ i) → sAny p 0 n = sAny p a n
  | 0, _, _ => rfl
  | n + 1, h8, h => by
    show (_ || _) = (_ || _)
    rw [sAny_from (by omega) h, decide_eq_true (Nat.zero_le n), Bool.true_and]
    cases hp : p n with
    | false => rw [Bool.and_false]
    | true => rw [decide_eq_true (h n (by omega) hp)]; rfl
theorem sAny_t {p : Nat → Bool} {i : Nat} (h : sAny p 0 i = true) : sAny p 0 (i + 1) = true := by
  show (_ || _) = true
  rw [h]; rfl
theorem sAny_p {p : Nat → Bool} {i : Nat} (h : p i = true) : sAny p 0 (i + 1) = true := by
  show (_ || _) = true
  rw [h]; simp
theorem sAny_f {p : Nat → Bool} {i : Nat} (h1 : sAny p 0 i = false) (h : p i = false) : sAny p 0 (i + 1) = false := by
  show (_ || _) = false
  rw [h1, h]; simp
set_option maxRecDepth 100000 in
set_option maxHeartbeats 4000000 in
theorem l_rBk_loop (d : Nat) (X Z : Nat → Nat → Int32) {T : Nat} (hI : RK T (X 64)) (s q : Int32) : ∀ (m i : Nat) (x : Int32) (v : Int32), i + m = jn (jm (X 64)) → x = nI i → v = bI (sAny (sBp (jm (X 64)) q) 0 i) → ER (d + 3) tb_m190 15 [(0, .ref 63), (1, .int s), (2, .int q), (3, .int v), (4, .int x)] [] (Wd X Z) (PI (bI (sAny (sBp (jm (X 64)) q) 0 (jn (jm (X 64))))) (Wd X Z))
  | 0, i, x, v, hi, h0, h1 => by
    have hi0 : i = jn (jm (X 64)) := by omega
    subst h0
    subst h1
    have h8 := jn8 hI.ij
    subst hi0
    refine er_loc (pc' := 17) rfl rfl rfl ?_
    refine er_loc (pc' := 18) rfl rfl rfl ?_
    refine er_gf (pc' := 21) (_) rfl rfl rfl rfl rfl ?_
    refine er_k (pc' := 22) (nI 2) rfl rfl rfl ?_
    refine er_ia (pc' := 23) (2) rfl rfl rfl rfl (by omega) rfl rfl ?_
    rw [hI.n]
    refine er_cm_geT rfl (nI_nlt (by omega) (by omega)) ?_
    refine er_loc (pc' := 62) rfl rfl rfl ?_
    refine er_zret rfl rfl ?_
    exact PI_of rfl
  | m + 1, i, x, v, hi, h0, h1 => by
    subst h0
    subst h1
    have h8 := jn8 hI.ij
    refine er_loc (pc' := 17) rfl rfl rfl ?_
    refine er_loc (pc' := 18) rfl rfl rfl ?_
    refine er_gf (pc' := 21) (_) rfl rfl rfl rfl rfl ?_
    refine er_k (pc' := 22) (nI 2) rfl rfl rfl ?_
    refine er_ia (pc' := 23) (2) rfl rfl rfl rfl (by omega) rfl rfl ?_
    rw [hI.n]
    refine er_cm_geF (pc' := 26) rfl (nI_lt (by omega) (by omega)) rfl ?_
    refine er_loc (pc' := 27) rfl rfl rfl ?_
    refine er_if_neb (pc' := 30) rfl rfl (fun h27 => ?_) (fun h27 => ?_)
    · refine er_k (nI 1) rfl rfl rfl ?_
      refine er_goto rfl ?_
      refine er_loc (L' := [(3, _), (0, _), (1, _), (2, _), (4, _)]) rfl rfl rfl ?_
      refine er_loc (L' := [(4, .int (_ + nI 1)), (3, _), (0, _), (1, _), (2, _)]) rfl rfl rfl ?_
      refine er_goto rfl ?_
      refine ER_loc [(0, _), (1, _), (2, _), (3, _), (4, _)] rfl (List.forall_mem_cons.mpr ⟨rfl, List.forall_mem_cons.mpr ⟨rfl, List.forall_mem_cons.mpr ⟨rfl, List.forall_mem_cons.mpr ⟨rfl, List.forall_mem_cons.mpr ⟨rfl, fun _ h => absurd h List.not_mem_nil⟩⟩⟩⟩⟩) rfl rfl ?_
      refine l_rBk_loop d X Z hI s q m (i + 1) _ _ (by omega) (nI_add i 1) ?_
      exact bI_eq1 (sAny_t h27)
    · refine er_loc rfl rfl rfl ?_
      refine er_loc (pc' := 33) rfl rfl rfl ?_
      refine er_ishr (pc' := 34) rfl rfl ?_
      refine er_k (pc' := 35) (nI 1) rfl rfl rfl ?_
      refine er_iand (pc' := 36) rfl rfl ?_
      refine er_k (pc' := 37) (nI 1) rfl rfl rfl ?_
      refine er_cm_ne (pc' := 40) rfl rfl (fun h37 => ?_) (fun h37 => ?_)
      · refine er_k (nI 0) rfl rfl rfl ?_
        refine er_loc (L' := [(3, _), (0, _), (1, _), (2, _), (4, _)]) rfl rfl rfl ?_
        refine er_loc (L' := [(4, .int (_ + nI 1)), (3, _), (0, _), (1, _), (2, _)]) rfl rfl rfl ?_
        refine er_goto rfl ?_
        refine ER_loc [(0, _), (1, _), (2, _), (3, _), (4, _)] rfl (List.forall_mem_cons.mpr ⟨rfl, List.forall_mem_cons.mpr ⟨rfl, List.forall_mem_cons.mpr ⟨rfl, List.forall_mem_cons.mpr ⟨rfl, List.forall_mem_cons.mpr ⟨rfl, fun _ h => absurd h List.not_mem_nil⟩⟩⟩⟩⟩) rfl rfl ?_
        refine l_rBk_loop d X Z hI s q m (i + 1) _ _ (by omega) (nI_add i 1) ?_
        exact bI_eq0 (sAny_f h27 (by unfold sBp; rw [sBit_bt (by omega)]; cases hb : bt q i with | true => exact absurd ((sar_bt (by omega)).mpr hb) h37 | false => rfl))
      · refine er_loc rfl rfl rfl ?_
        refine er_loc (pc' := 43) rfl rfl rfl ?_
        refine er_cIi (pc' := 46) (rest := []) 12 rfl rfl rfl rfl rfl rfl (l_rNeverJ _ X _ hI (by omega)) ?_
        refine er_if_eqb (pc' := 49) rfl rfl (fun h46 => ?_) (fun h46 => ?_)
        · refine er_k (nI 0) rfl rfl rfl ?_
          refine er_loc (L' := [(3, _), (0, _), (1, _), (2, _), (4, _)]) rfl rfl rfl ?_
          refine er_loc (L' := [(4, .int (_ + nI 1)), (3, _), (0, _), (1, _), (2, _)]) rfl rfl rfl ?_
          refine er_goto rfl ?_
          refine ER_loc [(0, _), (1, _), (2, _), (3, _), (4, _)] rfl (List.forall_mem_cons.mpr ⟨rfl, List.forall_mem_cons.mpr ⟨rfl, List.forall_mem_cons.mpr ⟨rfl, List.forall_mem_cons.mpr ⟨rfl, List.forall_mem_cons.mpr ⟨rfl, fun _ h => absurd h List.not_mem_nil⟩⟩⟩⟩⟩) rfl rfl ?_
          refine l_rBk_loop d X Z hI s q m (i + 1) _ _ (by omega) (nI_add i 1) ?_
          exact bI_eq0 (sAny_f h27 (by unfold sBp; rw [h46, Bool.and_false]))
        · refine er_k (nI 1) rfl rfl rfl ?_
          refine er_goto rfl ?_
          refine er_loc (L' := [(3, _), (0, _), (1, _), (2, _), (4, _)]) rfl rfl rfl ?_
          refine er_loc (L' := [(4, .int (_ + nI 1)), (3, _), (0, _), (1, _), (2, _)]) rfl rfl rfl ?_
          refine er_goto rfl ?_
          refine ER_loc [(0, _), (1, _), (2, _), (3, _), (4, _)] rfl (List.forall_mem_cons.mpr ⟨rfl, List.forall_mem_cons.mpr ⟨rfl, List.forall_mem_cons.mpr ⟨rfl, List.forall_mem_cons.mpr ⟨rfl, List.forall_mem_cons.mpr ⟨rfl, fun _ h => absurd h List.not_mem_nil⟩⟩⟩⟩⟩) rfl rfl ?_
          refine l_rBk_loop d X Z hI s q m (i + 1) _ _ (by omega) (nI_add i 1) ?_
          exact bI_eq1 (sAny_p (by unfold sBp; rw [sBit_bt (by omega), (sar_bt (by omega)).mp h37, h46]; rfl))
set_option maxRecDepth 100000 in
set_option maxHeartbeats 4000000 in
theorem l_rBlocked (d : Nat) (X Z : Nat → Nat → Int32) {T : Nat} (hI : RK T (X 64)) {k : Nat} (hk : k < jn (jm (X 64))) : EC (d + 5) 190 [.ref 63, .int (nI k)] (Wd X Z) (PI (bI (sBlocked (jm (X 64)) k)) (Wd X Z)) := by
  refine er_enter (L := [(0, _), (1, _)]) rfl rfl rfl ?_
  refine er_loc (pc' := 1) rfl rfl rfl ?_
  refine er_loc (pc' := 2) rfl rfl rfl ?_
  refine er_cIi (pc' := 5) (rest := []) 12 rfl rfl rfl rfl rfl rfl (l_rUnderOf _ X _ hI hk) ?_
  refine er_k (pc' := 6) (nI 1) rfl rfl rfl ?_
  refine er_loc (pc' := 7) rfl rfl rfl ?_
  refine er_ishl (pc' := 8) rfl rfl ?_
  refine er_ior (pc' := 9) rfl rfl ?_
  refine er_loc (pc' := 10) (L' := [(2, _), (0, _), (1, _)]) rfl rfl rfl ?_
  refine er_k (pc' := 11) (nI 0) rfl rfl rfl ?_
  refine er_loc (pc' := 12) (L' := [(3, _), (2, _), (0, _), (1, _)]) rfl rfl rfl ?_
  refine er_k (pc' := 13) (nI 0) rfl rfl rfl ?_
  refine er_loc (pc' := 15) (L' := [(4, _), (3, _), (2, _), (0, _), (1, _)]) rfl rfl rfl ?_
  refine ER_loc [(0, _), (1, _), (2, _), (3, _), (4, _)] rfl (List.forall_mem_cons.mpr ⟨rfl, List.forall_mem_cons.mpr ⟨rfl, List.forall_mem_cons.mpr ⟨rfl, List.forall_mem_cons.mpr ⟨rfl, List.forall_mem_cons.mpr ⟨rfl, fun _ h => absurd h List.not_mem_nil⟩⟩⟩⟩⟩) rfl rfl ?_
  have h8 := jn8 hI.ij
  have e : sBlocked (jm (X 64)) k = sAny (sBp (jm (X 64)) (sGoSet (jm (X 64)) k)) 0 (jn (jm (X 64))) := by
    unfold sBlocked
    refine (sAny_from h8 (fun i hi hp => ?_)).symm
    unfold sBp at hp
    rw [Bool.and_eq_true, sBit_bt (by omega)] at hp
    exact goset_ge hI.ij hk hp.1
  rw [e]
  exact l_rBk_loop (d + 1) X Z hI _ (sGoSet (jm (X 64)) k) (jn (jm (X 64))) 0 _ _ (by omega) rfl rfl
theorem gD_lo {J : Nat → Nat → Int32} {s : Int32} : ∀ {m : Nat} {t : Int32}, m ≤ 8 → (∀ i, i < m → ¬ bt s i = true) → gD J s 0 m t = t
  | 0, _, _, _ => rfl
  | m + 1, t, h8, h => by
    have hm := h m (by omega)
    show gD J s 0 m (if sBit s (nI (0 + m)) = true then _ else t) = t
    rw [Nat.zero_add, sBit_bt (by omega), if_neg hm]
    exact gD_lo (by omega) (fun i hi => h i (by omega))
theorem gD_split {J : Nat → Nat → Int32} {s : Int32} {k : Nat} : ∀ {m : Nat} {t : Int32}, k + m ≤ 8 → (∀ i, i < k → ¬ bt s i = true) → gD J s 0 (k + m) t = gD J s k m t
  | 0, t, h8, h => gD_lo (by omega) h
  | m + 1, t, h8, h => by
    show gD J s 0 (k + m) (if sBit s (nI (0 + (k + m))) = true then t + sBack (ud J 0 10 t) (0 + (k + m)) else t) = gD J s k m (if sBit s (nI (k + m)) = true then t + sBack (ud J 0 10 t) (k + m) else t)
    rw [Nat.zero_add, gD_split (by omega) h]
theorem gU_skip {J : Nat → Nat → Int32} {s : Int32} {n : Nat} : ∀ {k i : Nat} {t : Int32}, i + k ≤ 8 → (∀ j, i ≤ j → j < i + k → ¬ bt s j = true) → gU J s (k + n) i t = gU J s n (i + k) t
  | 0, i, t, _, _ => by rw [Nat.zero_add, Nat.add_zero]
  | k + 1, i, t, h8, h => by
    rw [show k + 1 + n = (k + n) + 1 by omega]
    show gU J s (k + n) (i + 1) (if sBit s (nI i) = true then _ else t) = _
    rw [sBit_bt (by omega), if_neg (h i (by omega) (by omega)), gU_skip (by omega) (fun j h1 h2 => h j (by omega) (by omega)), show i + 1 + k = i + (k + 1) by omega]
theorem goM_eq {T : Nat} {J : Nat → Nat → Int32} (hI : IJ T J) {k : Nat} (hk : k < jn J) : sGoM J k = gU J (sGoSet J k) (jn J) 0 (gD J (sGoSet J k) 0 (jn J) (J 0 10)) - J 0 10 := by
  have h8 := jn8 hI
  have hb : ∀ i, i < k → ¬ bt (sGoSet J k) i = true := fun i hi hh => by have := goset_ge hI hk hh; omega
  have e1 : gD J (sGoSet J k) 0 (jn J) (J 0 10) = gD J (sGoSet J k) k (jn J - k) (J 0 10) := by
    have := gD_split (J := J) (s := sGoSet J k) (k := k) (m := jn J - k) (t := J 0 10) (by omega) hb
    rwa [show k + (jn J - k) = jn J by omega] at this
  have e2 : ∀ t, gU J (sGoSet J k) (jn J) 0 t = gU J (sGoSet J k) (jn J - k) k t := by
    intro t
    have := gU_skip (J := J) (s := sGoSet J k) (n := jn J - k) (k := k) (i := 0) (t := t) (by omega) (fun j _ h2 => hb j (by omega))
    rwa [show k + (jn J - k) = jn J by omega, Nat.zero_add] at this
  unfold sGoM
  rw [e1, e2]
def GB (X X1 : Nat → Nat → Int32) (t : Int32) (T : Nat) : Prop := (∀ c, c ≠ 64 → X1 c = uc X 66 (X 64) c) ∧ jm (X1 64) = ud (jm (X 64)) 0 10 t ∧ RK T (X1 64) ∧ X1 64 0 = t
theorem GB.min {X X1 : Nat → Nat → Int32} {t t' : Int32} {T : Nat} (h : GB X X1 t T) (hv : isN t' (T + 300)) : GB X (ud X1 64 0 t') t' (T + 300) := by
  have w := wMin (p := 0) h.2.2.1 rfl hv rfl
  refine ⟨fun c hc => by rw [ud_ne hc]; exact h.1 c hc, ?_, w.rk, rfl⟩
  rw [w.j, h.2.1, ud_ud]
theorem GB.n {X X1 : Nat → Nat → Int32} {t : Int32} {T : Nat} (h : GB X X1 t T) : jn (jm (X1 64)) = jn (jm (X 64)) := by
  rw [h.2.1]
  rfl
theorem GB.mono {X X1 : Nat → Nat → Int32} {t : Int32} {T T' : Nat} (h : GB X X1 t T) (hT : T ≤ T') : GB X X1 t T' := ⟨h.1, h.2.1, h.2.2.1.mono hT, h.2.2.2⟩
theorem go_bit {T : Nat} {J : Nat → Nat → Int32} (hI : IJ T J) {k i : Nat} (hk : k < jn J) (hi : i < 32) : sBit (sGoSet J k) (nI i) = true ↔ (i = k ∨ ((sRest J k (jn J) >>> (nI i &&& 31)) &&& nI 1) = nI 1) := by
  rw [sBit_bt hi, goset_bt hI hk, sar_bt hi]
theorem nI_addm1s (m : Nat) : nI m + (-1) = nI m - nI 1 := (Int32.sub_eq_add_neg (a := nI m) (b := nI 1)).symm ▸ rfl
set_option maxRecDepth 100000 in
set_option maxHeartbeats 4000000 in
theorem l_rGd_loop (d : Nat) {X : Nat → Nat → Int32} {T : Nat} (hI : RK T (X 64)) {k : Nat} (hk : k < jn (jm (X 64))) (P : ab_R → Prop) : ∀ (m T1 : Nat) (X1 Z : Nat → Nat → Int32) (t x : Int32), x = nI m - nI 1 → m ≤ jn (jm (X 64)) → GB X X1 t T1 → T1 + 300 * m < 1000000000 → (∀ X2 Z2 x2, GB X X2 (gD (jm (X 64)) (sGoSet (jm (X 64)) k) 0 m t) (T1 + 300 * m) → ER (d + 6) tb_m189 57 [(0, .ref 63), (1, .int (nI k)), (2, .int (sRest (jm (X 64)) k (jn (jm (X 64))))), (3, .int x2)] [] (Wd X2 Z2) P) → ER (d + 6) tb_m189 19 [(0, .ref 63), (1, .int (nI k)), (2, .int (sRest (jm (X 64)) k (jn (jm (X 64))))), (3, .int x)] [] (Wd X1 Z) P
  | 0, T1, X1, Z, t, x, hx, hm, hg, hT1, hP => by
    subst hx
    refine er_loc (pc' := 20) rfl rfl rfl ?_
    refine er_if_ltT rfl (nIs_lt (s := 0)) ?_
    refine ER_loc [(0, _), (1, _), (2, _), (3, _)] rfl (List.forall_mem_cons.mpr ⟨rfl, List.forall_mem_cons.mpr ⟨rfl, List.forall_mem_cons.mpr ⟨rfl, List.forall_mem_cons.mpr ⟨rfl, fun _ h => absurd h List.not_mem_nil⟩⟩⟩⟩) rfl rfl ?_
    exact hP X1 Z _ (hg.mono (by omega))
  | m + 1, T1, X1, Z, t, x, hx, hm, hg, hT1, hP => by
    have h8 := jn8 hI.ij
    rw [nI_s1] at hx
    subst hx
    have hm1 : isN t T1 := by rw [← hg.2.2.2]; exact hg.2.2.1.ij.minute
    replace hP : (∀ X2 Z2 x2, GB X X2 (gD (jm (X 64)) (sGoSet (jm (X 64)) k) 0 (m + 1) t) (T1 + 300 + 300 * m) → ER (d + 6) tb_m189 57 [(0, .ref 63), (1, .int (nI k)), (2, .int (sRest (jm (X 64)) k (jn (jm (X 64))))), (3, .int x2)] [] (Wd X2 Z2) P) := fun X2 Z2 x2 hh => hP X2 Z2 x2 (hh.mono (by omega))
    refine er_loc (pc' := 20) rfl rfl rfl ?_
    refine er_if_ltF (pc' := 23) rfl (nI_pos (by omega)) rfl ?_
    refine er_loc (pc' := 24) rfl rfl rfl ?_
    refine er_loc (pc' := 25) rfl rfl rfl ?_
    refine er_cm_eq (pc' := 28) rfl rfl (fun h25 => ?_) (fun h25 => ?_)
    · refine er_loc rfl rfl rfl ?_
      refine er_gf (pc' := 41) (_) rfl rfl rfl rfl rfl ?_
      refine er_k (pc' := 42) (nI 0) rfl rfl rfl ?_
      refine er_pure (pc' := 43) rfl rfl rfl ?_
      refine er_ia (pc' := 44) (0) rfl rfl rfl rfl (by omega) rfl rfl ?_
      rw [hg.2.2.2]
      refine er_loc (pc' := 45) rfl rfl rfl ?_
      refine er_loc (pc' := 46) rfl rfl rfl ?_
      refine er_cIz (pc' := 49) (rest := [_, _, _]) 12 rfl rfl rfl rfl rfl rfl (l_rBackOf _ X1 _ hg.2.2.1 (by omega) (by rw [hg.n]; omega)) ?_
      intro Z2
      refine er_iadd (pc' := 50) rfl rfl ?_
      refine er_isX (pc' := 51) (0) rfl rfl (fun _ => rfl) rfl (by omega) rfl rfl ?_
      refine er_loc (L' := [(3, .int (_ + (-1))), (0, _), (1, _), (2, _)]) rfl rfl rfl ?_
      refine er_goto rfl ?_
      refine ER_loc [(0, _), (1, _), (2, _), (3, _)] rfl (List.forall_mem_cons.mpr ⟨rfl, List.forall_mem_cons.mpr ⟨rfl, List.forall_mem_cons.mpr ⟨rfl, List.forall_mem_cons.mpr ⟨rfl, fun _ h => absurd h List.not_mem_nil⟩⟩⟩⟩) rfl rfl ?_
      have e2 : gD (jm (X 64)) (sGoSet (jm (X 64)) k) 0 (m + 1) t = gD (jm (X 64)) (sGoSet (jm (X 64)) k) 0 m (t + sBack (jm (X1 64)) m) := by
        show gD (jm (X 64)) (sGoSet (jm (X 64)) k) 0 m (if sBit (sGoSet (jm (X 64)) k) (nI (0 + m)) = true then t + sBack (ud (jm (X 64)) 0 10 t) (0 + m) else t) = _
        rw [Nat.zero_add]
        rw [if_pos ((go_bit hI.ij hk (by omega)).mpr (Or.inl (nIj (by omega) (by omega) h25))), hg.2.1]
      have hg2 := hg.min (hm1.add (back300 hg.2.2.1.ij m) (by omega))
      refine l_rGd_loop d hI hk P m (T1 + 300) _ _ _ _ (nI_addm1s m) (by omega) hg2 (by omega) ?_
      rw [← e2]
      exact hP
    · refine er_loc (pc' := 29) rfl rfl rfl ?_
      refine er_loc (pc' := 30) rfl rfl rfl ?_
      refine er_ishr (pc' := 31) rfl rfl ?_
      refine er_k (pc' := 32) (nI 1) rfl rfl rfl ?_
      refine er_iand (pc' := 33) rfl rfl ?_
      refine er_k (pc' := 34) (nI 1) rfl rfl rfl ?_
      refine er_cm_ne (pc' := 37) rfl rfl (fun h34 => ?_) (fun h34 => ?_)
      · refine er_loc (L' := [(3, .int (_ + (-1))), (0, _), (1, _), (2, _)]) rfl rfl rfl ?_
        refine er_goto rfl ?_
        refine ER_loc [(0, _), (1, _), (2, _), (3, _)] rfl (List.forall_mem_cons.mpr ⟨rfl, List.forall_mem_cons.mpr ⟨rfl, List.forall_mem_cons.mpr ⟨rfl, List.forall_mem_cons.mpr ⟨rfl, fun _ h => absurd h List.not_mem_nil⟩⟩⟩⟩) rfl rfl ?_
        have e2 : gD (jm (X 64)) (sGoSet (jm (X 64)) k) 0 (m + 1) t = gD (jm (X 64)) (sGoSet (jm (X 64)) k) 0 m t := by
          show gD (jm (X 64)) (sGoSet (jm (X 64)) k) 0 m (if sBit (sGoSet (jm (X 64)) k) (nI (0 + m)) = true then t + sBack (ud (jm (X 64)) 0 10 t) (0 + m) else t) = _
          rw [Nat.zero_add]
          rw [if_neg (fun hh => by rcases (go_bit hI.ij hk (by omega)).mp hh with hh | hh; exact h25 (by rw [hh]); exact h34 hh)]
        refine l_rGd_loop d hI hk P m (T1 + 300) _ _ _ _ (nI_addm1s m) (by omega) (hg.mono (show T1 ≤ T1 + 300 by omega)) (by omega) ?_
        rw [← e2]
        exact hP
      · refine er_loc rfl rfl rfl ?_
        refine er_gf (pc' := 41) (_) rfl rfl rfl rfl rfl ?_
        refine er_k (pc' := 42) (nI 0) rfl rfl rfl ?_
        refine er_pure (pc' := 43) rfl rfl rfl ?_
        refine er_ia (pc' := 44) (0) rfl rfl rfl rfl (by omega) rfl rfl ?_
        rw [hg.2.2.2]
        refine er_loc (pc' := 45) rfl rfl rfl ?_
        refine er_loc (pc' := 46) rfl rfl rfl ?_
        refine er_cIz (pc' := 49) (rest := [_, _, _]) 12 rfl rfl rfl rfl rfl rfl (l_rBackOf _ X1 _ hg.2.2.1 (by omega) (by rw [hg.n]; omega)) ?_
        intro Z2
        refine er_iadd (pc' := 50) rfl rfl ?_
        refine er_isX (pc' := 51) (0) rfl rfl (fun _ => rfl) rfl (by omega) rfl rfl ?_
        refine er_loc (L' := [(3, .int (_ + (-1))), (0, _), (1, _), (2, _)]) rfl rfl rfl ?_
        refine er_goto rfl ?_
        refine ER_loc [(0, _), (1, _), (2, _), (3, _)] rfl (List.forall_mem_cons.mpr ⟨rfl, List.forall_mem_cons.mpr ⟨rfl, List.forall_mem_cons.mpr ⟨rfl, List.forall_mem_cons.mpr ⟨rfl, fun _ h => absurd h List.not_mem_nil⟩⟩⟩⟩) rfl rfl ?_
        have e2 : gD (jm (X 64)) (sGoSet (jm (X 64)) k) 0 (m + 1) t = gD (jm (X 64)) (sGoSet (jm (X 64)) k) 0 m (t + sBack (jm (X1 64)) m) := by
          show gD (jm (X 64)) (sGoSet (jm (X 64)) k) 0 m (if sBit (sGoSet (jm (X 64)) k) (nI (0 + m)) = true then t + sBack (ud (jm (X 64)) 0 10 t) (0 + m) else t) = _
          rw [Nat.zero_add]
          rw [if_pos ((go_bit hI.ij hk (by omega)).mpr (Or.inr h34)), hg.2.1]
        have hg2 := hg.min (hm1.add (back300 hg.2.2.1.ij m) (by omega))
        refine l_rGd_loop d hI hk P m (T1 + 300) _ _ _ _ (nI_addm1s m) (by omega) hg2 (by omega) ?_
        rw [← e2]
        exact hP
set_option maxRecDepth 100000 in
set_option maxHeartbeats 4000000 in
theorem l_rGu_loop (d : Nat) {X : Nat → Nat → Int32} {T : Nat} (hI : RK T (X 64)) {k : Nat} (hk : k < jn (jm (X 64))) (P : ab_R → Prop) : ∀ (m i T1 : Nat) (X1 Z : Nat → Nat → Int32) (t x : Int32), i + m = jn (jm (X 64)) → x = nI i → GB X X1 t T1 → T1 + 300 * m < 1000000000 → (∀ X2 Z2 x2, GB X X2 (gU (jm (X 64)) (sGoSet (jm (X 64)) k) m i t) (T1 + 300 * m) → ER (d + 6) tb_m189 103 [(0, .ref 63), (1, .int (nI k)), (2, .int (sRest (jm (X 64)) k (jn (jm (X 64))))), (3, .int x2)] [] (Wd X2 Z2) P) → ER (d + 6) tb_m189 59 [(0, .ref 63), (1, .int (nI k)), (2, .int (sRest (jm (X 64)) k (jn (jm (X 64))))), (3, .int x)] [] (Wd X1 Z) P
  | 0, i, T1, X1, Z, t, x, hi, hx, hg, hT1, hP => by
    have h8 := jn8 hI.ij
    have hn1 : X1 64 2 = nI (jn (jm (X 64))) := by rw [hg.2.2.1.n, hg.n]
    have hi0 : i = jn (jm (X 64)) := by omega
    subst hx
    subst hi0
    refine er_loc (pc' := 60) rfl rfl rfl ?_
    refine er_loc (pc' := 61) rfl rfl rfl ?_
    refine er_gf (pc' := 64) (_) rfl rfl rfl rfl rfl ?_
    refine er_k (pc' := 65) (nI 2) rfl rfl rfl ?_
    refine er_ia (pc' := 66) (2) rfl rfl rfl rfl (by omega) rfl rfl ?_
    rw [hn1]
    refine er_cm_geT rfl (nI_nlt (by omega) (by omega)) ?_
    refine ER_loc [(0, _), (1, _), (2, _), (3, _)] rfl (List.forall_mem_cons.mpr ⟨rfl, List.forall_mem_cons.mpr ⟨rfl, List.forall_mem_cons.mpr ⟨rfl, List.forall_mem_cons.mpr ⟨rfl, fun _ h => absurd h List.not_mem_nil⟩⟩⟩⟩) rfl rfl ?_
    exact hP X1 Z _ (hg.mono (by omega))
  | m + 1, i, T1, X1, Z, t, x, hi, hx, hg, hT1, hP => by
    have h8 := jn8 hI.ij
    have hn1 : X1 64 2 = nI (jn (jm (X 64))) := by rw [hg.2.2.1.n, hg.n]
    subst hx
    have hm1 : isN t T1 := by rw [← hg.2.2.2]; exact hg.2.2.1.ij.minute
    replace hP : (∀ X2 Z2 x2, GB X X2 (gU (jm (X 64)) (sGoSet (jm (X 64)) k) (m + 1) i t) (T1 + 300 + 300 * m) → ER (d + 6) tb_m189 103 [(0, .ref 63), (1, .int (nI k)), (2, .int (sRest (jm (X 64)) k (jn (jm (X 64))))), (3, .int x2)] [] (Wd X2 Z2) P) := fun X2 Z2 x2 hh => hP X2 Z2 x2 (hh.mono (by omega))
    refine er_loc (pc' := 60) rfl rfl rfl ?_
    refine er_loc (pc' := 61) rfl rfl rfl ?_
    refine er_gf (pc' := 64) (_) rfl rfl rfl rfl rfl ?_
    refine er_k (pc' := 65) (nI 2) rfl rfl rfl ?_
    refine er_ia (pc' := 66) (2) rfl rfl rfl rfl (by omega) rfl rfl ?_
    rw [hn1]
    refine er_cm_geF (pc' := 69) rfl (nI_lt (by omega) (by omega)) rfl ?_
    refine er_loc (pc' := 70) rfl rfl rfl ?_
    refine er_loc (pc' := 71) rfl rfl rfl ?_
    refine er_cm_eq (pc' := 74) rfl rfl (fun h70 => ?_) (fun h70 => ?_)
    · refine er_loc rfl rfl rfl ?_
      refine er_gf (pc' := 87) (_) rfl rfl rfl rfl rfl ?_
      refine er_k (pc' := 88) (nI 0) rfl rfl rfl ?_
      refine er_pure (pc' := 89) rfl rfl rfl ?_
      refine er_ia (pc' := 90) (0) rfl rfl rfl rfl (by omega) rfl rfl ?_
      rw [hg.2.2.2]
      refine er_loc (pc' := 91) rfl rfl rfl ?_
      refine er_loc (pc' := 92) rfl rfl rfl ?_
      refine er_cIz (pc' := 95) (rest := [_, _, _]) 12 rfl rfl rfl rfl rfl rfl (l_rLastsOf _ X1 _ hg.2.2.1 (by omega) (by rw [hg.n]; omega)) ?_
      intro Z2
      refine er_iadd (pc' := 96) rfl rfl ?_
      refine er_isX (pc' := 97) (0) rfl rfl (fun _ => rfl) rfl (by omega) rfl rfl ?_
      refine er_loc (L' := [(3, .int (_ + nI 1)), (0, _), (1, _), (2, _)]) rfl rfl rfl ?_
      refine er_goto rfl ?_
      refine ER_loc [(0, _), (1, _), (2, _), (3, _)] rfl (List.forall_mem_cons.mpr ⟨rfl, List.forall_mem_cons.mpr ⟨rfl, List.forall_mem_cons.mpr ⟨rfl, List.forall_mem_cons.mpr ⟨rfl, fun _ h => absurd h List.not_mem_nil⟩⟩⟩⟩) rfl rfl ?_
      have e2 : gU (jm (X 64)) (sGoSet (jm (X 64)) k) (m + 1) i t = gU (jm (X 64)) (sGoSet (jm (X 64)) k) m (i + 1) (t + sLasts (jm (X1 64)) i) := by
        show gU (jm (X 64)) (sGoSet (jm (X 64)) k) m (i + 1) (if sBit (sGoSet (jm (X 64)) k) (nI i) = true then t + sLasts (ud (jm (X 64)) 0 10 t) i else t) = _
        rw [if_pos ((go_bit hI.ij hk (by omega)).mpr (Or.inl (nIj (by omega) (by omega) h70))), hg.2.1]
      have hg2 := hg.min (hm1.add (lasts300 hg.2.2.1.ij i) (by omega))
      refine l_rGu_loop d hI hk P m (i + 1) (T1 + 300) _ _ _ _ (by omega) (nI_add i 1) hg2 (by omega) ?_
      rw [← e2]
      exact hP
    · refine er_loc (pc' := 75) rfl rfl rfl ?_
      refine er_loc (pc' := 76) rfl rfl rfl ?_
      refine er_ishr (pc' := 77) rfl rfl ?_
      refine er_k (pc' := 78) (nI 1) rfl rfl rfl ?_
      refine er_iand (pc' := 79) rfl rfl ?_
      refine er_k (pc' := 80) (nI 1) rfl rfl rfl ?_
      refine er_cm_ne (pc' := 83) rfl rfl (fun h80 => ?_) (fun h80 => ?_)
      · refine er_loc (L' := [(3, .int (_ + nI 1)), (0, _), (1, _), (2, _)]) rfl rfl rfl ?_
        refine er_goto rfl ?_
        refine ER_loc [(0, _), (1, _), (2, _), (3, _)] rfl (List.forall_mem_cons.mpr ⟨rfl, List.forall_mem_cons.mpr ⟨rfl, List.forall_mem_cons.mpr ⟨rfl, List.forall_mem_cons.mpr ⟨rfl, fun _ h => absurd h List.not_mem_nil⟩⟩⟩⟩) rfl rfl ?_
        have e2 : gU (jm (X 64)) (sGoSet (jm (X 64)) k) (m + 1) i t = gU (jm (X 64)) (sGoSet (jm (X 64)) k) m (i + 1) t := by
          show gU (jm (X 64)) (sGoSet (jm (X 64)) k) m (i + 1) (if sBit (sGoSet (jm (X 64)) k) (nI i) = true then t + sLasts (ud (jm (X 64)) 0 10 t) i else t) = _
          rw [if_neg (fun hh => by rcases (go_bit hI.ij hk (by omega)).mp hh with hh | hh; exact h70 (by rw [hh]); exact h80 hh)]
        refine l_rGu_loop d hI hk P m (i + 1) (T1 + 300) _ _ _ _ (by omega) (nI_add i 1) (hg.mono (show T1 ≤ T1 + 300 by omega)) (by omega) ?_
        rw [← e2]
        exact hP
      · refine er_loc rfl rfl rfl ?_
        refine er_gf (pc' := 87) (_) rfl rfl rfl rfl rfl ?_
        refine er_k (pc' := 88) (nI 0) rfl rfl rfl ?_
        refine er_pure (pc' := 89) rfl rfl rfl ?_
        refine er_ia (pc' := 90) (0) rfl rfl rfl rfl (by omega) rfl rfl ?_
        rw [hg.2.2.2]
        refine er_loc (pc' := 91) rfl rfl rfl ?_
        refine er_loc (pc' := 92) rfl rfl rfl ?_
        refine er_cIz (pc' := 95) (rest := [_, _, _]) 12 rfl rfl rfl rfl rfl rfl (l_rLastsOf _ X1 _ hg.2.2.1 (by omega) (by rw [hg.n]; omega)) ?_
        intro Z2
        refine er_iadd (pc' := 96) rfl rfl ?_
        refine er_isX (pc' := 97) (0) rfl rfl (fun _ => rfl) rfl (by omega) rfl rfl ?_
        refine er_loc (L' := [(3, .int (_ + nI 1)), (0, _), (1, _), (2, _)]) rfl rfl rfl ?_
        refine er_goto rfl ?_
        refine ER_loc [(0, _), (1, _), (2, _), (3, _)] rfl (List.forall_mem_cons.mpr ⟨rfl, List.forall_mem_cons.mpr ⟨rfl, List.forall_mem_cons.mpr ⟨rfl, List.forall_mem_cons.mpr ⟨rfl, fun _ h => absurd h List.not_mem_nil⟩⟩⟩⟩) rfl rfl ?_
        have e2 : gU (jm (X 64)) (sGoSet (jm (X 64)) k) (m + 1) i t = gU (jm (X 64)) (sGoSet (jm (X 64)) k) m (i + 1) (t + sLasts (jm (X1 64)) i) := by
          show gU (jm (X 64)) (sGoSet (jm (X 64)) k) m (i + 1) (if sBit (sGoSet (jm (X 64)) k) (nI i) = true then t + sLasts (ud (jm (X 64)) 0 10 t) i else t) = _
          rw [if_pos ((go_bit hI.ij hk (by omega)).mpr (Or.inr h80)), hg.2.1]
        have hg2 := hg.min (hm1.add (lasts300 hg.2.2.1.ij i) (by omega))
        refine l_rGu_loop d hI hk P m (i + 1) (T1 + 300) _ _ _ _ (by omega) (nI_add i 1) hg2 (by omega) ?_
        rw [← e2]
        exact hP
set_option maxRecDepth 100000 in
set_option maxHeartbeats 4000000 in
theorem l_rGoing (d : Nat) (X Z : Nat → Nat → Int32) {T : Nat} (hI : RK T (X 64)) {k : Nat} (hk : k < jn (jm (X 64))) (hT9 : T < 1000000) : EC (d + 7) 189 [.ref 63, .int (nI k)] (Wd X Z) (R6 (sGoM (jm (X 64)) k) X) := by
  refine er_enter (L := [(0, _), (1, _)]) rfl rfl rfl ?_
  have h8 := jn8 hI.ij
  refine er_loc (pc' := 1) rfl rfl rfl ?_
  refine er_loc (pc' := 2) rfl rfl rfl ?_
  refine er_cIi (pc' := 5) (rest := []) 12 rfl rfl rfl rfl rfl rfl (l_rUnderOf _ X _ hI hk) ?_
  refine er_loc (pc' := 6) (L' := [(2, _), (0, _), (1, _)]) rfl rfl rfl ?_
  refine er_loc (pc' := 7) rfl rfl rfl ?_
  refine er_cIv (pc' := 10) (rest := []) 12 rfl rfl rfl rfl rfl rfl (l_rThinks _ _ _) ?_
  intro Z7
  refine er_loc (pc' := 11) rfl rfl rfl ?_
  refine er_gf (pc' := 14) (_) rfl rfl rfl rfl rfl ?_
  refine er_k (pc' := 15) (nI 2) rfl rfl rfl ?_
  refine er_ia (pc' := 16) (2) rfl rfl rfl rfl (by omega) rfl rfl ?_
  rw [show uc X 66 (X 64) 64 2 = nI (jn (jm (X 64))) from hI.n]
  refine er_k (pc' := 17) (nI 1) rfl rfl rfl ?_
  refine er_isub (pc' := 18) rfl rfl ?_
  refine er_loc (pc' := 19) (L' := [(3, _), (2, _), (0, _), (1, _)]) rfl rfl rfl ?_
  refine ER_loc [(0, _), (1, _), (2, _), (3, _)] rfl (List.forall_mem_cons.mpr ⟨rfl, List.forall_mem_cons.mpr ⟨rfl, List.forall_mem_cons.mpr ⟨rfl, List.forall_mem_cons.mpr ⟨rfl, fun _ h => absurd h List.not_mem_nil⟩⟩⟩⟩) rfl rfl ?_
  refine l_rGd_loop d hI hk _ (jn (jm (X 64))) T (uc X 66 (X 64)) _ (jm (X 64) 0 10) _ rfl (Nat.le_refl _) ⟨fun _ _ => rfl, ?_, hI, rfl⟩ (by omega) ?_
  · funext i j
    rw [ud_at]
    by_cases hi : i = 0
    · rw [if_pos hi]
      by_cases hj : j = 10
      · rw [if_pos hj, hi, hj]; rfl
      · rw [if_neg hj]; rfl
    · rw [if_neg hi]; rfl
  intro X2 Z2 x2 hg2
  refine er_k (pc' := 58) (nI 0) rfl rfl rfl ?_
  refine er_loc (pc' := 59) (L' := [(3, _), (0, _), (1, _), (2, _)]) rfl rfl rfl ?_
  refine ER_loc [(0, _), (1, _), (2, _), (3, _)] rfl (List.forall_mem_cons.mpr ⟨rfl, List.forall_mem_cons.mpr ⟨rfl, List.forall_mem_cons.mpr ⟨rfl, List.forall_mem_cons.mpr ⟨rfl, fun _ h => absurd h List.not_mem_nil⟩⟩⟩⟩) rfl rfl ?_
  refine l_rGu_loop d hI hk _ (jn (jm (X 64))) 0 _ X2 Z2 _ _ (by omega) rfl hg2 (by omega) ?_
  intro X3 Z3 x3 hg3
  refine er_loc (pc' := 104) rfl rfl rfl ?_
  refine er_gf (pc' := 107) (_) rfl rfl rfl rfl rfl ?_
  refine er_k (pc' := 108) (nI 0) rfl rfl rfl ?_
  refine er_ia (pc' := 109) (0) rfl rfl rfl rfl (by omega) rfl rfl ?_
  rw [hg3.2.2.2]
  refine er_loc (pc' := 110) rfl rfl rfl ?_
  refine er_gf (pc' := 113) (_) rfl rfl rfl rfl rfl ?_
  refine er_k (pc' := 114) (nI 0) rfl rfl rfl ?_
  refine er_ia (pc' := 115) (0) rfl rfl rfl rfl (by omega) rfl rfl ?_
  rw [show X3 66 0 = jm (X 64) 0 10 from by rw [hg3.1 66 (by omega)]; rfl]
  refine er_isub (pc' := 116) rfl rfl ?_
  refine er_loc (pc' := 117) (L' := [(3, _), (0, _), (1, _), (2, _)]) rfl rfl rfl ?_
  refine er_loc (pc' := 118) rfl rfl rfl ?_
  refine er_cIv (pc' := 121) (rest := []) 12 rfl rfl rfl rfl rfl rfl (l_rPutsBack _ _ _) ?_
  intro Z7
  refine er_loc (pc' := 122) rfl rfl rfl ?_
  refine er_iret rfl rfl ?_
  refine R6_of (goM_eq hI.ij hk).symm ?_
  intro c hc
  by_cases h64 : c = 64
  · subst h64
    rw [uc_same, hg3.1 66 (by omega)]
    rfl
  · rw [uc_ne h64, hg3.1 c h64]
    exact uc_ne hc
