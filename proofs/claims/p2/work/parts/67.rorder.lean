/-! THE REFERENCE, its face: order; both searches find alike -/
theorem sSet_bt {x : Int32} {n : Nat} (hn : n ≤ 8) (h : ∀ i, bt x i = true → i < n) : sSetOf (bt x) n = x := by
  apply bt_ext
  intro i _
  rw [bt_sSetOf hn]
  cases hb : bt x i with
  | false => rw [Bool.and_false]
  | true => rw [decide_eq_true (h i hb)]; rfl
theorem pop_set {x : Int32} : ∀ {n : Nat}, n ≤ 8 → sPop (sSetOf (bt x) n) = nI (cN x n)
  | 0, _ => (by decide +kernel : sPop (nI 0) = nI 0)
  | n + 1, hn => by
    rw [← or_set (by omega)]
    obtain ⟨j, hj, e⟩ := set_n (x := sSetOf (bt x) n) (show n ≤ 8 by omega) (fun i hi => by rw [bt_sSetOf (by omega), Bool.and_eq_true, decide_eq_true_eq] at hi; exact hi.1)
    have ih := pop_set (x := x) (n := n) (by omega)
    show _ = nI (cN x n + (if bt x n = true then 1 else 0))
    by_cases hb : bt x n = true
    · rw [if_pos hb, if_pos hb, ← nI_add, ← ih, e, pop_or (by omega) hj]
    · rw [if_neg hb, if_neg hb, or_0, ih, Nat.add_zero]
theorem cN_un {J : Nat → Nat → Int32} : ∀ {n : Nat}, n ≤ 8 → cN (J 0 6) n + unN J n = n
  | 0, _ => rfl
  | n + 1, h => by
    have ih := cN_un (J := J) (n := n) (by omega)
    show cN (J 0 6) n + (if bt (J 0 6) n = true then 1 else 0) + (unN J n + (if sDone J n = true then 0 else 1)) = n + 1
    unfold sDone
    rw [sBit_bt (by omega)]
    by_cases hb : bt (J 0 6) n = true
    · rw [if_pos hb, if_pos hb]; omega
    · rw [if_neg hb, if_neg hb]; omega
theorem sOpen_un {T : Nat} {J : Nat → Nat → Int32} (hI : IJ T J) : sOpen J = nI (unN J (jn J)) := by
  have h8 := jn8 hI
  unfold sOpen
  have e := pop_set (x := J 0 6) h8
  rw [sSet_bt h8 hI.done] at e
  have := cN_un (J := J) h8
  rw [e, show J 0 1 = nI (jn J) from hI.n.1, nI_sub (by omega)]
  congr 1
  omega
def TR (many p b : Nat) (s t : skT) : Prop := ((s.1 < 0 ∧ t.1 < 0) ∨ ∃ a c, a = c + b ∧ a < 1000000000 ∧ s.1 = nI a ∧ t.1 = nI c ∧ ∀ k, k < many → s.2.1 k = t.2.1 k) ∧ ∀ k, k < p → s.2.2 k = t.2.2 k
theorem TR.down {many p b : Nat} {s t : skT} (h : TR many (p + 1) b s t) : TR many p b s t := ⟨h.1, fun k hk => h.2 k (by omega)⟩
theorem TR.set {many p b : Nat} {s t : skT} {v : Int32} (h : TR many p b s t) : TR many (p + 1) b (s.1, s.2.1, u1 s.2.2 p v) (t.1, t.2.1, u1 t.2.2 p v) := by
  refine ⟨h.1, fun k hk => ?_⟩
  show u1 s.2.2 p v k = u1 t.2.2 p v k
  rw [u1_at, u1_at]
  split
  · rfl
  · exact h.2 k (by omega)
theorem unN_sim {K K' : Nat → Nat → Int32} (h : Sim K K') : ∀ n, unN K n = unN K' n
  | 0 => rfl
  | n + 1 => by
    unfold unN sDone
    rw [unN_sim h n, h.fld (show 6 ≠ 7 by omega) (by omega)]
theorem TR_loop {K K' : Nat → Nat → Int32} (hsim : Sim K K') {many p b : Nat} {f g : Nat → skT → skT} (hfg : ∀ i s t, sMayDo K i = true → TR many (p + 1) b s t → TR many (p + 1) b (f i s) (g i t)) : ∀ (m i : Nat) (s t : skT), TR many p b s t → TR many p b (skLoop K p f m i s) (skLoop K' p g m i t)
  | 0, _, _, _, h => h
  | m + 1, i, s, t, h => by
    rw [skLoop_succ, skLoop_succ, hsim.may]
    by_cases hm : sMayDo K i = true
    · rw [if_pos hm, if_pos hm]
      exact TR_loop hsim hfg m (i + 1) _ _ (hfg i _ _ hm h.set).down
    · rw [if_neg hm, if_neg hm]
      exact TR_loop hsim hfg m (i + 1) _ _ h
theorem TR_leaf {many b m : Nat} {s t : skT} (hm : m < 1000000000) (hb : b ≤ m) (h5 : many ≤ 5) (h : TR many many b s t) : TR many many b (if s.1 < 0 ∨ nI m < s.1 then (nI m, cpf s.2.2 s.2.1 0 0 5, s.2.2) else s) (if t.1 < 0 ∨ nI m - nI b < t.1 then (nI m - nI b, cpf t.2.2 t.2.1 0 0 many, t.2.2) else t) := by
  have e : nI m - nI b = nI (m - b) := nI_sub hb
  have hnew : TR many many b (nI m, cpf s.2.2 s.2.1 0 0 5, s.2.2) (nI m - nI b, cpf t.2.2 t.2.1 0 0 many, t.2.2) := by
    refine ⟨Or.inr ⟨m, m - b, by omega, hm, rfl, e, fun k hk => ?_⟩, h.2⟩
    show cpf s.2.2 s.2.1 0 0 5 k = cpf t.2.2 t.2.1 0 0 many k
    rw [cpf_all (by omega), cpf_all hk]
    exact h.2 k hk
  rcases h.1 with ⟨h1, h2⟩ | ⟨a, c, h1, h2, h3, h4, h5'⟩
  · rw [if_pos (Or.inl h1), if_pos (Or.inl h2)]
    exact hnew
  · have e1 : (s.1 < 0 ∨ nI m < s.1) ↔ m < a := by
      rw [h3, nI_ltI (by omega) (by omega)]
      exact ⟨fun hh => hh.elim (fun h9 => absurd h9 (nI_pos (by omega))) id, Or.inr⟩
    have e2 : (t.1 < 0 ∨ nI m - nI b < t.1) ↔ m - b < c := by
      rw [h4, e, nI_ltI (by omega) (by omega)]
      exact ⟨fun hh => hh.elim (fun h9 => absurd h9 (nI_pos (by omega))) id, Or.inr⟩
    by_cases hc : m < a
    · rw [if_pos (e1.mpr hc), if_pos (e2.mpr (by omega))]
      exact hnew
    · rw [if_neg (fun hh => hc (e1.mp hh)), if_neg (fun hh => hc (by have := e2.mp hh; omega))]
      exact h
theorem sk_zero {F dep : Nat} {J : Nat → Nat → Int32} {s : skT} (h : sOpen J = 0) : sk (F + 1) dep J s = if s.1 < 0 ∨ J 0 10 < s.1 then (J 0 10, cpf s.2.2 s.2.1 0 0 5, s.2.2) else s := if_pos h
theorem sk_succ {F dep : Nat} {J : Nat → Nat → Int32} {s : skT} (h : ¬ sOpen J = 0) (h5 : ¬ 5 ≤ dep) : sk (F + 1) dep J s = skLoop J dep (fun i t => sk F (dep + 1) (jPass J i) t) (jn J) 0 s := (if_neg h).trans (if_neg h5)
theorem TR_sk (many b : Nat) (h5 : many ≤ 5) : ∀ (G p F : Nat) (K K' : Nat → Nat → Int32) (T : Nat) (s t : skT), p + G = many → p + F = 5 → IJ T K → T + 300 * G < 1000000000 → b ≤ nN (K 0 10) → Sim K K' → unN K' (jn K') = G → TR many p b s t → TR many p b (sk (F + 1) p K s) (ty many (nI b) G p K' t)
  | 0, p, F, K, K', T, s, t, hp, hF, hI, hT, hb, hsim, hu, h => by
    have hpm : p = many := by omega
    subst hpm
    have hop : sOpen K = 0 := by
      rw [sOpen_un hI]
      have e : unN K (jn K) = unN K' (jn K') := by
        rw [hsim.jn]
        exact unN_sim hsim _
      rw [e, hu]
      rfl
    rw [sk_zero hop]
    obtain ⟨m1, m2⟩ := hI.minute
    have e10 : K' 0 10 = K 0 10 := hsim.fld (by omega) (by omega)
    show TR p p b _ (if t.1 < 0 ∨ K' 0 10 - nI b < t.1 then (K' 0 10 - nI b, cpf t.2.2 t.2.1 0 0 p, t.2.2) else t)
    rw [e10, m1]
    exact TR_leaf (by omega) hb h5 h
  | G + 1, p, F, K, K', T, s, t, hp, hF, hI, hT, hb, hsim, hu, h => by
    have hop : ¬ sOpen K = 0 := by
      rw [sOpen_un hI]
      have e : unN K (jn K) = unN K' (jn K') := by
        rw [hsim.jn]
        exact unN_sim hsim _
      rw [e, hu]
      exact fun hh => absurd (nIj (by omega) (by omega) (show nI (G + 1) = nI 0 from hh)) (by omega)
    obtain ⟨F, rfl⟩ : ∃ F', F = F' + 1 := ⟨F - 1, by omega⟩
    rw [sk_succ hop (by omega)]
    show TR many p b _ (skLoop K' p (fun i t => ty many (nI b) G (p + 1) (jFin K' i) t) (jn K') 0 t)
    rw [hsim.jn]
    refine TR_loop hsim (fun i s t hm h1 => ?_) _ _ _ _ h
    obtain ⟨hk, hd, _⟩ := mayDo_k hm
    have h8 := jn8 hI
    have hd' : sDone K' i = false := (mayDo_k (by rw [hsim.may]; exact hm)).2.1
    have hu2 := unN_fin (J := K') (show i < 32 by omega) hd' (show jn K' ≤ 32 by rw [hsim.jn]; omega)
    rw [if_pos (by rw [hsim.jn]; exact hk), hu] at hu2
    refine TR_sk many b h5 G (p + 1) F (jPass K i) (jFin K' i) (T + 300) s t (by omega) (by omega) (hI.pass (by omega) hm) (by omega) ?_ hsim.pass (by rw [jn_fin]; omega) h1
    show b ≤ nN (K 0 10 + sLasts K i)
    obtain ⟨m1, m2⟩ := hI.minute
    obtain ⟨l1, l2⟩ := lasts300 hI i
    rw [m1, l1, nI_add, nN_nI (by omega)]
    omega
def rO (X : Nat → Nat → Int32) : skT := ty (unN (jm (X 64)) (jn (jm (X 64)))) (X 64 0) (unN (jm (X 64)) (jn (jm (X 64)))) 0 (jm (X 64)) (-1, X 73, X 72)
def OQ (X X' : Nat → Nat → Int32) : Prop := (∀ c, c ≠ 63 → c ≠ 64 → c ≠ 66 → c ≠ 67 → c ≠ 72 → c ≠ 73 → c ≠ 74 → X' c = X c) ∧ X' 64 = X 64 ∧ ∀ j, j ≠ 16 → X' 63 j = X 63 j
def ROQ (v : Int32) (X : Nat → Nat → Int32) : ab_R → Prop := fun r => ∃ X' Z', r = (some (.int v), Wd X' Z') ∧ OQ X X'
theorem ROQ_of {v x : Int32} {X X' Z : Nat → Nat → Int32} (hx : x = v) (h : OQ X X') : ROQ v X (some (.int x), Wd X' Z) := ⟨X', Z, by rw [hx], h⟩
def OrM (X : Nat → Nat → Int32) (w : Int32) : ab_R → Prop := fun r => if nI 5 < sOpen (jm (X 64)) then RI (sErr 3) (yErr X 3) r else if (rO X).1 < 0 ∨ ¬ w < sOpen (jm (X 64)) then ROQ (sErr 2) X r else ROQ (if w < 0 then (rO X).1 else (rO X).2.1 (nN w)) X r
theorem OQ_t {X X4 : Nat → Nat → Int32} {s : skT} (t4 : TS 0 (ud (uc X 66 (X 64)) 63 16 (-1)) X4 s) : OQ X (uc X4 64 (X4 66)) := by
  refine ⟨fun c a1 a2 a3 a4 a5 a6 a7 => ?_, ?_, fun j hj => ?_⟩
  · rw [uc_ne a2, t4.1 c a1 a2 a5 a6 a7, ud_ne a1, uc_ne a3]
  · rw [uc_same, t4.1 66 (by omega) (by omega) (by omega) (by omega) (by omega), ud_ne (by omega), uc_same]
  · rw [uc_ne (by omega), t4.2.2.2.2.1 j hj, ud_same, u1_ne hj, uc_ne (by omega)]
theorem OQ.err {X X' : Nat → Nat → Int32} {k : Nat} (h : OQ X X') : OQ X (yErr X' k) := ⟨fun c a1 a2 a3 a4 a5 a6 a7 => by unfold yErr; rw [ud_ne a4]; exact h.1 c a1 a2 a3 a4 a5 a6 a7, by unfold yErr; rw [ud_ne (by omega)]; exact h.2.1, fun j hj => by unfold yErr; rw [ud_ne (by omega)]; exact h.2.2 j hj⟩
theorem wIn {w : Int32} (h : sIn w (-1) (nI 4) = true) (h0 : ¬ w < 0) : ∃ j, 0 ≤ j ∧ j ≤ 4 ∧ w = nI j := by
  refine sIn_ex (by omega) (by omega) ?_
  unfold sIn at h ⊢
  simp only [Bool.and_eq_true, Bool.not_eq_true', decide_eq_false_iff_not] at h ⊢
  exact ⟨h0, h.2⟩
set_option maxRecDepth 100000 in
set_option maxHeartbeats 4000000 in
theorem l_rOrder (d : Nat) (X Z : Nat → Nat → Int32) {T : Nat} (hI : RK T (X 64)) (hT9 : T < 1000000) (w : Int32) : EC (d + 13) 182 [.ref 63, .int w] (Wd X Z) (fun r => if sIn w (-1) (nI 4) = true then OrM X w r else RI (sErr 1) (yErr X 1) r) := by
  refine er_enter (L := [(0, _), (1, _)]) rfl rfl rfl ?_
  refine er_loc (pc' := 1) rfl rfl rfl ?_
  refine er_k (pc' := 2) (-1) rfl rfl rfl ?_
  refine er_k (pc' := 3) (nI 4) rfl rfl rfl ?_
  refine er_cSi (pc' := 6) (rest := []) rfl rfl rfl (l_in _ _ _ _ _) ?_
  refine er_if_neb (pc' := 9) rfl rfl (fun h6 => ?_) (fun h6 => ?_)
  · refine er_loc (pc' := 17) rfl rfl rfl ?_
    refine er_gf (pc' := 20) (_) rfl rfl rfl rfl rfl ?_
    refine er_k (pc' := 21) (nI 2) rfl rfl rfl ?_
    refine er_ia (pc' := 22) (2) rfl rfl rfl rfl (by omega) rfl rfl ?_
    refine er_loc (pc' := 23) rfl rfl rfl ?_
    refine er_cIi (pc' := 26) (rest := [_]) 12 rfl rfl rfl rfl rfl rfl (l_rDone _ X _ (n := jn (jm (X 64))) hI.n hI.n8) ?_
    rw [show rB (X 64) 11 (jn (jm (X 64))) = jm (X 64) 0 6 from rfl]
    refine er_cSi (pc' := 29) (rest := [_]) rfl rfl rfl (l_rBitsD _ _ hI.ij) ?_
    refine er_isub rfl rfl ?_
    rw [show X 64 2 - sPop (jm (X 64) 0 6) = nI (unN (jm (X 64)) (jn (jm (X 64)))) from sOpen_un hI.ij]
    refine er_loc (pc' := 31) (L' := [(2, _), (0, _), (1, _)]) rfl rfl rfl ?_
    refine er_loc (pc' := 32) rfl rfl rfl ?_
    refine er_k (pc' := 33) (nI 5) rfl rfl rfl ?_
    refine er_cm_le (pc' := 36) rfl rfl (fun h33 => ?_) (fun h33 => ?_)
    · have h5 : unN (jm (X 64)) (jn (jm (X 64))) ≤ 5 := by
        have hle := Nat.le_trans (unN_le (jm (X 64)) (jn (jm (X 64)))) (jn8 hI.ij)
        rcases Nat.lt_or_ge 5 (unN (jm (X 64)) (jn (jm (X 64)))) with h | h
        · exact absurd (nI_lt h (by omega)) h33
        · exact h
      refine er_loc (pc' := 44) rfl rfl rfl ?_
      refine er_cIv (pc' := 47) (rest := []) 12 rfl rfl rfl rfl rfl rfl (l_rThinks _ _ _) ?_
      intro Z7
      refine er_loc (pc' := 48) rfl rfl rfl ?_
      refine er_k (pc' := 49) (-1) rfl rfl rfl ?_
      refine er_pfIX (pc' := 52) 16 rfl rfl rfl rfl rfl rfl ?_
      refine er_loc (pc' := 53) rfl rfl rfl ?_
      refine er_k (pc' := 54) (nI 0) rfl rfl rfl ?_
      refine er_loc (pc' := 55) rfl rfl rfl ?_
      refine er_cIy (pc' := 58) (rest := []) 12 rfl rfl rfl rfl rfl rfl (EC.up (l_rTries d _ (X 64 0) h5 (unN (jm (X 64)) (jn (jm (X 64)))) 0 (ud (uc X 66 (X 64)) 63 16 (-1)) _ T (-1, X 73, X 72) (by omega) hI (by omega) rfl rfl rfl rfl) (by omega)) ?_
      intro X4 Z4 t4
      replace t4 : TS 0 (ud (uc X 66 (X 64)) 63 16 (-1)) X4 (rO X) := t4
      have hl : uc X4 64 (X4 66) 63 16 = (rO X).1 := by rw [uc_ne (by omega)]; exact t4.2.2.2.1
      refine er_loc (pc' := 59) rfl rfl rfl ?_
      refine er_cIv (pc' := 62) (rest := []) 12 rfl rfl rfl rfl rfl rfl (l_rPutsBack _ _ _) ?_
      intro Z7
      refine er_loc (pc' := 63) rfl rfl rfl ?_
      refine er_gf (pc' := 66) (.int (uc X4 64 (X4 66) 63 16)) rfl rfl rfl rfl rfl ?_
      rw [hl]
      refine er_if_lt (pc' := 69) rfl rfl (fun h66 => ?_) (fun h66 => ?_)
      · refine er_loc (pc' := 75) rfl rfl rfl ?_
        refine er_ldc (pc' := 77) (-1000000002) rfl rfl rfl rfl rfl ?_
        refine er_cIz (pc' := 80) (rest := []) 12 rfl rfl rfl rfl rfl rfl (l_rError2 _ _ _) ?_
        intro Z9
        refine er_goto rfl ?_
        refine er_iret rfl rfl ?_
        rw [if_pos h6]
        show OrM X w _
        unfold OrM
        rw [if_neg (by rw [sOpen_un hI.ij]; exact h33)]
        rw [if_pos (Or.inl h66)]
        exact ROQ_of rfl (OQ_t t4).err
      · refine er_loc (pc' := 70) rfl rfl rfl ?_
        refine er_loc (pc' := 71) rfl rfl rfl ?_
        refine er_cm_lt (pc' := 74) rfl rfl (fun h71 => ?_) (fun h71 => ?_)
        · refine er_loc (pc' := 84) rfl rfl rfl ?_
          refine er_if_ge (pc' := 87) rfl rfl (fun h84 => ?_) (fun h84 => ?_)
          · obtain ⟨v0, _, v2, hv⟩ := wIn h6 h84
            have hwn : nN w = v0 := by rw [hv]; exact nN_nI (by omega)
            have hwk : w = nI (nN w) := by rw [hwn, hv]
            refine er_loc (pc' := 95) rfl rfl rfl ?_
            refine er_gf (pc' := 98) (_) rfl rfl rfl rfl rfl ?_
            refine er_loc (pc' := 99) rfl rfl rfl ?_
            refine er_ia (pc' := 100) (nN w) rfl rfl rfl hwk (by omega) rfl rfl ?_
            refine er_iret rfl rfl ?_
            rw [if_pos h6]
            show OrM X w _
            unfold OrM
            rw [if_neg (by rw [sOpen_un hI.ij]; exact h33)]
            rw [if_neg (fun hh => by rcases hh with hh | hh; exact h66 hh; exact hh (by rw [sOpen_un hI.ij]; exact h71))]
            rw [if_neg h84]
            exact ROQ_of (by rw [uc_ne (by omega), t4.2.2.2.2.2.1]) (OQ_t t4)
          · refine er_loc (pc' := 88) rfl rfl rfl ?_
            refine er_gf (pc' := 91) (.int (uc X4 64 (X4 66) 63 16)) rfl rfl rfl rfl rfl ?_
            rw [hl]
            refine er_goto rfl ?_
            refine er_iret rfl rfl ?_
            rw [if_pos h6]
            show OrM X w _
            unfold OrM
            rw [if_neg (by rw [sOpen_un hI.ij]; exact h33)]
            rw [if_neg (fun hh => by rcases hh with hh | hh; exact h66 hh; exact hh (by rw [sOpen_un hI.ij]; exact h71))]
            rw [if_pos h84]
            exact ROQ_of rfl (OQ_t t4)
        · refine er_loc (pc' := 75) rfl rfl rfl ?_
          refine er_ldc (pc' := 77) (-1000000002) rfl rfl rfl rfl rfl ?_
          refine er_cIz (pc' := 80) (rest := []) 12 rfl rfl rfl rfl rfl rfl (l_rError2 _ _ _) ?_
          intro Z9
          refine er_goto rfl ?_
          refine er_iret rfl rfl ?_
          rw [if_pos h6]
          show OrM X w _
          unfold OrM
          rw [if_neg (by rw [sOpen_un hI.ij]; exact h33)]
          rw [if_pos (Or.inr (by rw [sOpen_un hI.ij]; exact h71))]
          exact ROQ_of rfl (OQ_t t4).err
    · refine er_loc (pc' := 37) rfl rfl rfl ?_
      refine er_ldc (pc' := 39) (-1000000003) rfl rfl rfl rfl rfl ?_
      refine er_cIz (pc' := 42) (rest := []) 12 rfl rfl rfl rfl rfl rfl (l_rError3 _ _ _) ?_
      intro Z9
      refine er_iret rfl rfl ?_
      rw [if_pos h6]
      show OrM X w _
      unfold OrM
      rw [if_pos (by rw [sOpen_un hI.ij]; exact h33)]
      exact RI_of rfl rfl
  · refine er_loc (pc' := 10) rfl rfl rfl ?_
    refine er_ldc (pc' := 12) (-1000000001) rfl rfl rfl rfl rfl ?_
    refine er_cIz (pc' := 15) (rest := []) 12 rfl rfl rfl rfl rfl rfl (l_rError1 _ _ _) ?_
    intro Z9
    refine er_iret rfl rfl ?_
    rw [if_neg (by rw [h6]; decide)]
    exact RI_of rfl rfl
