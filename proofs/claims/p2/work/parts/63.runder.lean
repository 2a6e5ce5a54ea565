/-! THE REFERENCE, its face: what rests on a step -/
theorem rest_hi {J : Nat → Nat → Int32} {k i : Nat} : ∀ {m : Nat}, m ≤ 8 → m ≤ i → bt (sRest J k m) i = false
  | 0, _, _ => bt_0 i
  | m + 1, h8, h => by
    show bt (if k < m then _ else _) i = false
    split
    · rw [bt_with (by omega), if_neg (by omega), rest_hi (by omega) (by omega)]
    · exact rest_hi (by omega) (by omega)
theorem rest_at {J : Nat → Nat → Int32} {k i : Nat} : ∀ {m : Nat}, m ≤ 8 → i < m → bt (sRest J k m) i = (decide (k < i) && (!decide ((J 4 i &&& sWith (sRest J k i) (nI k) true) = 0) && sDone J i))
  | 0, _, h => by omega
  | m + 1, h8, h => by
    show bt (if k < m then _ else _) i = _
    by_cases hi : i = m
    · subst hi
      split
      · rename_i h1
        rw [bt_with (by omega), if_pos rfl, decide_eq_true h1, Bool.true_and]
      · rename_i h1
        rw [rest_hi (by omega) (Nat.le_refl _), decide_eq_false h1, Bool.false_and]
    · split
      · rw [bt_with (by omega), if_neg hi, rest_at (by omega) (by omega)]
      · exact rest_at (by omega) (by omega)
theorem rest_iff {T : Nat} {J : Nat → Nat → Int32} (hI : IJ T J) {k : Nat} (hk : k < jn J) (i : Nat) : bt (sRest J k (jn J)) i = true ↔ i < jn J ∧ k < i ∧ sDone J i = true ∧ ∃ j, bt (J 4 i) j = true ∧ (j = k ∨ bt (sRest J k (jn J)) j = true) := by
  have h8 := jn8 hI
  rcases Nat.lt_or_ge i (jn J) with hi | hi
  · rw [rest_at h8 hi]
    simp only [Bool.and_eq_true, decide_eq_true_eq, Bool.not_eq_true', decide_eq_false_iff_not]
    rw [and_ne0]
    have e : ∀ j, bt (J 4 i) j = true → (bt (sWith (sRest J k i) (nI k) true) j = true ↔ (j = k ∨ bt (sRest J k (jn J)) j = true)) := by
      intro j hj
      have hji := hI.needs i j hj
      rw [bt_with (by omega)]
      by_cases hjk : j = k
      · simp [hjk]
      · rw [if_neg hjk, rest_at (by omega) hji, rest_at h8 (show j < jn J by omega)]
        simp [hjk]
    constructor
    · rintro ⟨h1, ⟨j, h2, h3⟩, h4⟩
      exact ⟨hi, h1, h4, j, h2, (e j h2).mp h3⟩
    · rintro ⟨_, h1, h4, j, h2, h3⟩
      exact ⟨h1, ⟨j, h2, (e j h2).mpr h3⟩, h4⟩
  · rw [rest_hi h8 hi]
    constructor
    · intro h; cases h
    · rintro ⟨h, _⟩; omega
def yMore (J : Nat → Nat → Int32) (q : Int32) : Nat → Int32
  | 0 => q
  | i + 1 => yMore J q i ||| (if bt q i = true then yNd J i (jn J) else nI 0)
theorem bt_more {J : Nat → Nat → Int32} {q : Int32} {x : Nat} : ∀ {m : Nat}, bt (yMore J q m) x = true ↔ (bt q x = true ∨ ∃ i, i < m ∧ bt q i = true ∧ bt (yNd J i (jn J)) x = true)
  | 0 => ⟨fun h => Or.inl h, fun h => by rcases h with h | ⟨i, h, _⟩; exact h; omega⟩
  | m + 1 => by
    rw [show yMore J q (m + 1) = yMore J q m ||| (if bt q m = true then yNd J m (jn J) else nI 0) from rfl, bt_or, Bool.or_eq_true, bt_more (m := m)]
    constructor
    · rintro ((h | ⟨i, h1, h2⟩) | h)
      · exact Or.inl h
      · exact Or.inr ⟨i, by omega, h2⟩
      · by_cases hq : bt q m = true
        · rw [if_pos hq] at h
          exact Or.inr ⟨m, by omega, hq, h⟩
        · rw [if_neg hq, bt_0] at h
          cases h
    · rintro (h | ⟨i, h1, h2, h3⟩)
      · exact Or.inl (Or.inl h)
      · by_cases hi : i = m
        · subst hi
          rw [if_pos h2]
          exact Or.inr h3
        · exact Or.inl (Or.inr ⟨i, by omega, h2, h3⟩)
def UO (J : Nat → Nat → Int32) (k : Nat) (q : Int32) : Prop := (∀ i, bt (yNd J k (jn J)) i = true → bt q i = true) ∧ (∀ i, bt q i = true → bt (sRest J k (jn J)) i = true)
theorem nd_iff {T : Nat} {J : Nat → Nat → Int32} (hI : IJ T J) {s i : Nat} : bt (yNd J s (jn J)) i = true ↔ i < jn J ∧ sDone J i = true ∧ bt (J 4 i) s = true := by
  rw [bt_yNd (jn8 hI)]
  simp only [Bool.and_eq_true, decide_eq_true_eq, and_assoc]
theorem UO.start {T : Nat} {J : Nat → Nat → Int32} (hI : IJ T J) {k : Nat} (hk : k < jn J) : UO J k (yNd J k (jn J)) := by
  refine ⟨fun i h => h, fun i h => ?_⟩
  obtain ⟨h1, h2, h3⟩ := (nd_iff hI).mp h
  exact (rest_iff hI hk i).mpr ⟨h1, hI.needs i k h3, h2, k, h3, Or.inl rfl⟩
theorem UO.more {T : Nat} {J : Nat → Nat → Int32} (hI : IJ T J) {k : Nat} (hk : k < jn J) {q : Int32} (h : UO J k q) : UO J k (yMore J q (jn J)) := by
  refine ⟨fun i hi => bt_more.mpr (Or.inl (h.1 i hi)), fun i hi => ?_⟩
  rcases bt_more.mp hi with h1 | ⟨j, h1, h2, h3⟩
  · exact h.2 i h1
  · obtain ⟨g1, g2, g3⟩ := (nd_iff hI).mp h3
    have g4 := h.2 j h2
    have g5 := (rest_iff hI hk j).mp g4
    exact (rest_iff hI hk i).mpr ⟨g1, Nat.lt_trans g5.2.1 (hI.needs i j g3), g2, j, g3, Or.inr g4⟩
theorem UO.fix {T : Nat} {J : Nat → Nat → Int32} (hI : IJ T J) {k : Nat} (hk : k < jn J) {q : Int32} (h : UO J k q) (hf : yMore J q (jn J) = q) : q = sRest J k (jn J) := by
  have hs : ∀ m i, i < m → bt (sRest J k (jn J)) i = true → bt q i = true := by
    intro m
    induction m with
    | zero => intro i hi; omega
    | succ m ih =>
      intro i hi hb
      obtain ⟨g1, g2, g3, j, g4, g5⟩ := (rest_iff hI hk i).mp hb
      rcases g5 with g5 | g5
      · subst g5
        exact h.1 i ((nd_iff hI).mpr ⟨g1, g3, g4⟩)
      · have hji := hI.needs i j g4
        have hq := ih j (by omega) g5
        rw [← hf]
        exact bt_more.mpr (Or.inr ⟨j, by omega, hq, (nd_iff hI).mpr ⟨g1, g3, g4⟩⟩)
  apply bt_ext
  intro i _
  cases hb : bt q i with
  | true => exact (h.2 i hb).symm
  | false =>
    cases hr : bt (sRest J k (jn J)) i with
    | false => rfl
    | true => rw [hs (i + 1) i (by omega) hr] at hb; cases hb
def cN (x : Int32) : Nat → Nat
  | 0 => 0
  | i + 1 => cN x i + (if bt x i = true then 1 else 0)
theorem cN_le (x : Int32) : ∀ n, cN x n ≤ n
  | 0 => Nat.le_refl _
  | n + 1 => by
    have := cN_le x n
    unfold cN
    split <;> omega
theorem cN_mono {x y : Int32} (h : ∀ i, bt x i = true → bt y i = true) : ∀ n, cN x n ≤ cN y n
  | 0 => Nat.le_refl _
  | n + 1 => by
    have := cN_mono h n
    unfold cN
    by_cases hx : bt x n = true
    · rw [if_pos hx, if_pos (h n hx)]; omega
    · rw [if_neg hx]; omega
theorem cN_lt {x y : Int32} (h : ∀ i, bt x i = true → bt y i = true) {j : Nat} (hx : ¬ bt x j = true) (hy : bt y j = true) : ∀ n, j < n → cN x n < cN y n
  | 0, hj => by omega
  | n + 1, hj => by
    unfold cN
    by_cases he : j = n
    · subst he
      have := cN_mono h j
      rw [if_neg hx, if_pos hy]; omega
    · have := cN_lt h hx hy n (by omega)
      by_cases hxn : bt x n = true
      · rw [if_pos hxn, if_pos (h n hxn)]; omega
      · rw [if_neg hxn]; omega
theorem more_lt {T : Nat} {J : Nat → Nat → Int32} (hI : IJ T J) {q : Int32} (hne : ¬ yMore J q (jn J) = q) : cN q (jn J) < cN (yMore J q (jn J)) (jn J) := by
  have hsub : ∀ i, bt q i = true → bt (yMore J q (jn J)) i = true := fun i h => bt_more.mpr (Or.inl h)
  have hex : ∃ j, bt (yMore J q (jn J)) j = true ∧ ¬ bt q j = true := by
    apply Classical.byContradiction
    intro hn
    apply hne
    apply bt_ext
    intro i _
    cases hb : bt (yMore J q (jn J)) i with
    | true =>
      cases hq : bt q i with
      | true => rfl
      | false => exact absurd ⟨i, hb, by rw [hq]; decide⟩ hn
    | false =>
      cases hq : bt q i with
      | false => rfl
      | true => rw [hsub i hq] at hb; cases hb
  obtain ⟨j, h1, h2⟩ := hex
  rcases bt_more.mp h1 with h3 | ⟨i, _, _, h3⟩
  · exact absurd h3 h2
  · exact cN_lt hsub h2 h1 _ ((nd_iff hI).mp h3).1
set_option maxRecDepth 100000 in
set_option maxHeartbeats 4000000 in
theorem l_rUi_loop (d : Nat) (X Z : Nat → Nat → Int32) {T : Nat} (hI : RK T (X 64)) (s q g : Int32) (P : ab_R → Prop) : ∀ (m i : Nat) (x : Int32) (v : Int32), i + m = jn (jm (X 64)) → x = nI i → v = yMore (jm (X 64)) q i → (∀ x2, ER (d + 2) tb_m187 60 [(0, .ref 63), (1, .int s), (2, .int q), (3, .int g), (4, .int (yMore (jm (X 64)) q (jn (jm (X 64))))), (5, .int x2)] [] (Wd X Z) P) → ER (d + 2) tb_m187 18 [(0, .ref 63), (1, .int s), (2, .int q), (3, .int g), (4, .int v), (5, .int x)] [] (Wd X Z) (P)
  | 0, i, x, v, hi, h0, h1, h2 => by
    have hi0 : i = jn (jm (X 64)) := by omega
    subst h0
    subst h1
    have h8 := jn8 hI.ij
    subst hi0
    refine er_loc (pc' := 20) rfl rfl rfl ?_
    refine er_loc (pc' := 21) rfl rfl rfl ?_
    refine er_gf (pc' := 24) (_) rfl rfl rfl rfl rfl ?_
    refine er_k (pc' := 25) (nI 2) rfl rfl rfl ?_
    refine er_ia (pc' := 26) (2) rfl rfl rfl rfl (by omega) rfl rfl ?_
    rw [hI.n]
    refine er_cm_geT rfl (nI_nlt (by omega) (by omega)) ?_
    exact h2 _
  | m + 1, i, x, v, hi, h0, h1, h2 => by
    subst h0
    subst h1
    have h8 := jn8 hI.ij
    refine er_loc (pc' := 20) rfl rfl rfl ?_
    refine er_loc (pc' := 21) rfl rfl rfl ?_
    refine er_gf (pc' := 24) (_) rfl rfl rfl rfl rfl ?_
    refine er_k (pc' := 25) (nI 2) rfl rfl rfl ?_
    refine er_ia (pc' := 26) (2) rfl rfl rfl rfl (by omega) rfl rfl ?_
    rw [hI.n]
    refine er_cm_geF (pc' := 29) rfl (nI_lt (by omega) (by omega)) rfl ?_
    refine er_loc (pc' := 31) rfl rfl rfl ?_
    refine er_loc (pc' := 32) rfl rfl rfl ?_
    refine er_loc (pc' := 34) rfl rfl rfl ?_
    refine er_ishr (pc' := 35) rfl rfl ?_
    refine er_k (pc' := 36) (nI 1) rfl rfl rfl ?_
    refine er_iand (pc' := 37) rfl rfl ?_
    refine er_k (pc' := 38) (nI 1) rfl rfl rfl ?_
    refine er_cm_ne (pc' := 41) rfl rfl (fun h38 => ?_) (fun h38 => ?_)
    · refine er_k (nI 0) rfl rfl rfl ?_
      refine er_ior rfl rfl ?_
      refine er_loc (L' := [(4, _), (0, _), (1, _), (2, _), (3, _), (5, _)]) rfl rfl rfl ?_
      refine er_loc (L' := [(5, .int (_ + nI 1)), (4, _), (0, _), (1, _), (2, _), (3, _)]) rfl rfl rfl ?_
      refine er_goto rfl ?_
      refine ER_loc [(0, _), (1, _), (2, _), (3, _), (4, _), (5, _)] rfl (List.forall_mem_cons.mpr ⟨rfl, List.forall_mem_cons.mpr ⟨rfl, List.forall_mem_cons.mpr ⟨rfl, List.forall_mem_cons.mpr ⟨rfl, List.forall_mem_cons.mpr ⟨rfl, List.forall_mem_cons.mpr ⟨rfl, fun _ h => absurd h List.not_mem_nil⟩⟩⟩⟩⟩⟩) rfl rfl ?_
      refine l_rUi_loop d X Z hI s q g P m (i + 1) _ _ (by omega) (nI_add i 1) ?_ h2
      show _ = _ ||| (if _ then _ else _)
      rw [if_neg (fun hh => h38 ((sar_bt (by omega)).mpr hh))]
    · refine er_loc rfl rfl rfl ?_
      refine er_loc (pc' := 44) rfl rfl rfl ?_
      refine er_cIi (pc' := 47) (rest := [_]) 12 rfl rfl rfl rfl rfl rfl (l_rNeeding _ X _ hI (by omega)) ?_
      refine er_goto rfl ?_
      refine er_ior rfl rfl ?_
      refine er_loc (L' := [(4, _), (0, _), (1, _), (2, _), (3, _), (5, _)]) rfl rfl rfl ?_
      refine er_loc (L' := [(5, .int (_ + nI 1)), (4, _), (0, _), (1, _), (2, _), (3, _)]) rfl rfl rfl ?_
      refine er_goto rfl ?_
      refine ER_loc [(0, _), (1, _), (2, _), (3, _), (4, _), (5, _)] rfl (List.forall_mem_cons.mpr ⟨rfl, List.forall_mem_cons.mpr ⟨rfl, List.forall_mem_cons.mpr ⟨rfl, List.forall_mem_cons.mpr ⟨rfl, List.forall_mem_cons.mpr ⟨rfl, List.forall_mem_cons.mpr ⟨rfl, fun _ h => absurd h List.not_mem_nil⟩⟩⟩⟩⟩⟩) rfl rfl ?_
      refine l_rUi_loop d X Z hI s q g P m (i + 1) _ _ (by omega) (nI_add i 1) ?_ h2
      show _ = _ ||| (if _ then _ else _)
      rw [if_pos ((sar_bt (by omega)).mp h38)]
set_option maxRecDepth 100000 in
set_option maxHeartbeats 4000000 in
theorem l_rUo_loop (d : Nat) (X Z : Nat → Nat → Int32) {T : Nat} (hI : RK T (X 64)) {k : Nat} (hk : k < jn (jm (X 64))) : ∀ (m : Nat) (q : Int32), UO (jm (X 64)) k q → jn (jm (X 64)) ≤ cN q (jn (jm (X 64))) + m → ER (d + 3) tb_m187 8 [(0, .ref 63), (1, .int (nI k)), (2, .int q), (3, .int (nI 1))] [] (Wd X Z) (PI (sRest (jm (X 64)) k (jn (jm (X 64)))) (Wd X Z))
  | 0, q, huo, hm => by
    refine er_loc (pc' := 9) rfl rfl rfl ?_
    refine er_if_eqF (pc' := 12) rfl (by decide +kernel) rfl ?_
    refine er_loc (pc' := 13) rfl rfl rfl ?_
    refine er_loc (pc' := 15) (L' := [(4, _), (0, _), (1, _), (2, _), (3, _)]) rfl rfl rfl ?_
    refine er_k (pc' := 16) (nI 0) rfl rfl rfl ?_
    refine er_loc (pc' := 18) (L' := [(5, _), (4, _), (0, _), (1, _), (2, _), (3, _)]) rfl rfl rfl ?_
    refine ER_loc [(0, _), (1, _), (2, _), (3, _), (4, _), (5, _)] rfl (List.forall_mem_cons.mpr ⟨rfl, List.forall_mem_cons.mpr ⟨rfl, List.forall_mem_cons.mpr ⟨rfl, List.forall_mem_cons.mpr ⟨rfl, List.forall_mem_cons.mpr ⟨rfl, List.forall_mem_cons.mpr ⟨rfl, fun _ h => absurd h List.not_mem_nil⟩⟩⟩⟩⟩⟩) rfl rfl ?_
    refine l_rUi_loop (d + 1) X Z hI (nI k) q (nI 1) _ (jn (jm (X 64))) 0 _ _ (by omega) rfl rfl ?_
    intro x2
    refine er_loc (pc' := 62) rfl rfl rfl ?_
    refine er_loc (pc' := 63) rfl rfl rfl ?_
    refine er_cm_eq (pc' := 66) rfl rfl (fun h63 => ?_) (fun h63 => ?_)
    · refine er_k (nI 0) rfl rfl rfl ?_
      refine er_loc (pc' := 72) (L' := [(3, _), (0, _), (1, _), (2, _), (4, _), (5, _)]) rfl rfl rfl ?_
      refine er_loc (pc' := 74) rfl rfl rfl ?_
      refine er_loc (pc' := 75) (L' := [(2, _), (3, _), (0, _), (1, _), (4, _), (5, _)]) rfl rfl rfl ?_
      refine er_goto rfl ?_
      refine er_loc (pc' := 9) rfl rfl rfl ?_
      refine er_if_eqT rfl (rfl) ?_
      refine er_loc (pc' := 79) rfl rfl rfl ?_
      refine er_iret rfl rfl ?_
      exact PI_of (by rw [h63]; exact huo.fix hI.ij hk h63)
    · have hlt := more_lt hI.ij (q := q) h63
      have hle := cN_le (yMore (jm (X 64)) q (jn (jm (X 64)))) (jn (jm (X 64)))
      omega
  | m + 1, q, huo, hm => by
    refine er_loc (pc' := 9) rfl rfl rfl ?_
    refine er_if_eqF (pc' := 12) rfl (by decide +kernel) rfl ?_
    refine er_loc (pc' := 13) rfl rfl rfl ?_
    refine er_loc (pc' := 15) (L' := [(4, _), (0, _), (1, _), (2, _), (3, _)]) rfl rfl rfl ?_
    refine er_k (pc' := 16) (nI 0) rfl rfl rfl ?_
    refine er_loc (pc' := 18) (L' := [(5, _), (4, _), (0, _), (1, _), (2, _), (3, _)]) rfl rfl rfl ?_
    refine ER_loc [(0, _), (1, _), (2, _), (3, _), (4, _), (5, _)] rfl (List.forall_mem_cons.mpr ⟨rfl, List.forall_mem_cons.mpr ⟨rfl, List.forall_mem_cons.mpr ⟨rfl, List.forall_mem_cons.mpr ⟨rfl, List.forall_mem_cons.mpr ⟨rfl, List.forall_mem_cons.mpr ⟨rfl, fun _ h => absurd h List.not_mem_nil⟩⟩⟩⟩⟩⟩) rfl rfl ?_
    refine l_rUi_loop (d + 1) X Z hI (nI k) q (nI 1) _ (jn (jm (X 64))) 0 _ _ (by omega) rfl rfl ?_
    intro x2
    refine er_loc (pc' := 62) rfl rfl rfl ?_
    refine er_loc (pc' := 63) rfl rfl rfl ?_
    refine er_cm_eq (pc' := 66) rfl rfl (fun h63 => ?_) (fun h63 => ?_)
    · refine er_k (nI 0) rfl rfl rfl ?_
      refine er_loc (pc' := 72) (L' := [(3, _), (0, _), (1, _), (2, _), (4, _), (5, _)]) rfl rfl rfl ?_
      refine er_loc (pc' := 74) rfl rfl rfl ?_
      refine er_loc (pc' := 75) (L' := [(2, _), (3, _), (0, _), (1, _), (4, _), (5, _)]) rfl rfl rfl ?_
      refine er_goto rfl ?_
      refine er_loc (pc' := 9) rfl rfl rfl ?_
      refine er_if_eqT rfl (rfl) ?_
      refine er_loc (pc' := 79) rfl rfl rfl ?_
      refine er_iret rfl rfl ?_
      exact PI_of (by rw [h63]; exact huo.fix hI.ij hk h63)
    · refine er_k (nI 1) rfl rfl rfl ?_
      refine er_goto rfl ?_
      refine er_loc (pc' := 72) (L' := [(3, _), (0, _), (1, _), (2, _), (4, _), (5, _)]) rfl rfl rfl ?_
      refine er_loc (pc' := 74) rfl rfl rfl ?_
      refine er_loc (pc' := 75) (L' := [(2, _), (3, _), (0, _), (1, _), (4, _), (5, _)]) rfl rfl rfl ?_
      refine er_goto rfl ?_
      refine ER_loc [(0, _), (1, _), (2, _), (3, _)] rfl (List.forall_mem_cons.mpr ⟨rfl, List.forall_mem_cons.mpr ⟨rfl, List.forall_mem_cons.mpr ⟨rfl, List.forall_mem_cons.mpr ⟨rfl, fun _ h => absurd h List.not_mem_nil⟩⟩⟩⟩) rfl rfl ?_
      have hlt := more_lt hI.ij (q := q) h63
      exact l_rUo_loop d X Z hI hk m _ (huo.more hI.ij hk) (by omega)
set_option maxRecDepth 100000 in
set_option maxHeartbeats 4000000 in
theorem l_rUnderOf (d : Nat) (X Z : Nat → Nat → Int32) {T : Nat} (hI : RK T (X 64)) {k : Nat} (hk : k < jn (jm (X 64))) : EC (d + 4) 187 [.ref 63, .int (nI k)] (Wd X Z) (PI (sRest (jm (X 64)) k (jn (jm (X 64)))) (Wd X Z)) := by
  refine er_enter (L := [(0, _), (1, _)]) rfl rfl rfl ?_
  have h8 := jn8 hI.ij
  refine er_loc (pc' := 1) rfl rfl rfl ?_
  refine er_loc (pc' := 2) rfl rfl rfl ?_
  refine er_cIi (pc' := 5) (rest := []) 12 rfl rfl rfl rfl rfl rfl (l_rNeeding _ X _ hI (by omega)) ?_
  refine er_loc (pc' := 6) (L' := [(2, _), (0, _), (1, _)]) rfl rfl rfl ?_
  refine er_k (pc' := 7) (nI 1) rfl rfl rfl ?_
  refine er_loc (pc' := 8) (L' := [(3, _), (2, _), (0, _), (1, _)]) rfl rfl rfl ?_
  refine ER_loc [(0, _), (1, _), (2, _), (3, _)] rfl (List.forall_mem_cons.mpr ⟨rfl, List.forall_mem_cons.mpr ⟨rfl, List.forall_mem_cons.mpr ⟨rfl, List.forall_mem_cons.mpr ⟨rfl, fun _ h => absurd h List.not_mem_nil⟩⟩⟩⟩) rfl rfl ?_
  exact l_rUo_loop d X Z hI hk (jn (jm (X 64))) _ (UO.start hI.ij hk) (by omega)
set_option maxRecDepth 100000 in
set_option maxHeartbeats 4000000 in
theorem l_rUnder_no (d : Nat) (X Z : Nat → Nat → Int32) {T : Nat} (hI : RK T (X 64)) (s : Int32) (hs : jHas (jm (X 64)) s = false) : EC (d + 3) 186 [.ref 63, .int s] (Wd X Z) (RI (sErr 1) (yErr X 1)) := by
  refine er_enter (L := [(0, _), (1, _)]) rfl rfl rfl ?_
  refine er_loc (pc' := 1) rfl rfl rfl ?_
  refine er_loc (pc' := 2) rfl rfl rfl ?_
  refine er_cIi (pc' := 5) (rest := []) 12 rfl rfl rfl rfl rfl rfl (l_rHas_f _ X _ hI hs) ?_
  refine er_if_neF (pc' := 8) rfl (by decide +kernel) rfl ?_
  refine er_loc (pc' := 9) rfl rfl rfl ?_
  refine er_ldc (pc' := 11) (-1000000001) rfl rfl rfl rfl rfl ?_
  refine er_cIz (pc' := 14) (rest := []) 12 rfl rfl rfl rfl rfl rfl (l_rError1 _ _ _) ?_
  intro Z9
  refine er_iret rfl rfl ?_
  exact RI_of rfl rfl
set_option maxRecDepth 100000 in
set_option maxHeartbeats 4000000 in
theorem l_rUnder (d : Nat) (X Z : Nat → Nat → Int32) {T : Nat} (hI : RK T (X 64)) {k : Nat} (hk : k < jn (jm (X 64))) : EC (d + 5) 186 [.ref 63, .int (nI k)] (Wd X Z) (fun r => if sDone (jm (X 64)) k = true then RI (sRest (jm (X 64)) k (jn (jm (X 64)))) X r else RI (sErr 3) (yErr X 3) r) := by
  cases hdn : sDone (jm (X 64)) k with
  | false =>
    refine er_enter (L := [(0, _), (1, _)]) rfl rfl rfl ?_
    refine er_loc (pc' := 1) rfl rfl rfl ?_
    refine er_loc (pc' := 2) rfl rfl rfl ?_
    refine er_cIi (pc' := 5) (rest := []) 12 rfl rfl rfl rfl rfl rfl (l_rHas_t _ X _ hI hk) ?_
    refine er_if_neT rfl (by decide +kernel) ?_
    refine er_loc (pc' := 16) rfl rfl rfl ?_
    refine er_loc (pc' := 17) rfl rfl rfl ?_
    refine er_k (pc' := 18) (nI 4) rfl rfl rfl ?_
    refine er_cIi (pc' := 21) (rest := []) 12 rfl rfl rfl rfl rfl rfl (l_of4 _ X _ hI hk) ?_
    rw [hdn]
    refine er_k (pc' := 22) (nI 1) rfl rfl rfl ?_
    refine er_cm_neT rfl (by decide +kernel) ?_
    refine er_loc (pc' := 34) rfl rfl rfl ?_
    refine er_ldc (pc' := 36) (-1000000003) rfl rfl rfl rfl rfl ?_
    refine er_cIz (pc' := 39) (rest := []) 12 rfl rfl rfl rfl rfl rfl (l_rError3 _ _ _) ?_
    intro Z9
    refine er_iret rfl rfl ?_
    rw [if_neg (by decide)]
    exact RI_of rfl rfl
  | true =>
    refine er_enter (L := [(0, _), (1, _)]) rfl rfl rfl ?_
    refine er_loc (pc' := 1) rfl rfl rfl ?_
    refine er_loc (pc' := 2) rfl rfl rfl ?_
    refine er_cIi (pc' := 5) (rest := []) 12 rfl rfl rfl rfl rfl rfl (l_rHas_t _ X _ hI hk) ?_
    refine er_if_neT rfl (by decide +kernel) ?_
    refine er_loc (pc' := 16) rfl rfl rfl ?_
    refine er_loc (pc' := 17) rfl rfl rfl ?_
    refine er_k (pc' := 18) (nI 4) rfl rfl rfl ?_
    refine er_cIi (pc' := 21) (rest := []) 12 rfl rfl rfl rfl rfl rfl (l_of4 _ X _ hI hk) ?_
    rw [hdn]
    refine er_k (pc' := 22) (nI 1) rfl rfl rfl ?_
    refine er_cm_neF (pc' := 25) rfl (by decide +kernel) rfl ?_
    refine er_loc (pc' := 26) rfl rfl rfl ?_
    refine er_loc (pc' := 27) rfl rfl rfl ?_
    refine er_cIi (pc' := 30) (rest := []) 12 rfl rfl rfl rfl rfl rfl (l_rUnderOf _ X _ hI hk) ?_
    refine er_goto rfl ?_
    refine er_iret rfl rfl ?_
    rw [if_pos rfl]
    exact RI_of rfl rfl
