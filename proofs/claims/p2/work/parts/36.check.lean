/-! THE FACE: check, draws, the tape -/
def ck (J : Nat → Nat → Int32) : Nat → Nat → (Nat → Nat → Int32) → Int32
  | 0, _, _ => nI 0
  | m + 1, i, K => match sFirst K (jn K) 0 with
    | none => nI 1 + nI i
    | some k => if jPass K k 0 10 = J 10 i then ck J m (i + 1) (jPass K k) else nI 1 + nI i
def sCheck (J : Nat → Nat → Int32) : Int32 := ck J (nN (J 0 16)) 0 J
def RC (v : Int32) (X : Nat → Nat → Int32) : ab_R → Prop := fun r => ∃ X1 Z', r = (some (.int v), Wd (ud X1 9 16 (nI 0)) Z') ∧ OT X X1
theorem ck_none {J K : Nat → Nat → Int32} {m i : Nat} (h : sFirst K (jn K) 0 = none) : ck J (m + 1) i K = nI 1 + nI i := by
  show (match sFirst K (jn K) 0 with
    | none => _
    | some k => _) = _
  rw [h]
theorem ck_some {J K : Nat → Nat → Int32} {m i k : Nat} (h : sFirst K (jn K) 0 = some k) : ck J (m + 1) i K = if jPass K k 0 10 = J 10 i then ck J m (i + 1) (jPass K k) else nI 1 + nI i := by
  show (match sFirst K (jn K) 0 with
    | none => _
    | some k => _) = _
  rw [h]
set_option maxRecDepth 100000 in
set_option maxHeartbeats 4000000 in
theorem l_check_end (d : Nat) {X : Nat → Nat → Int32} (v : Int32) (P : ab_R → Prop) (X1 Z : Nat → Nat → Int32) (x : Int32) (ho : OT X X1) (hP : ∀ r, RC v X r → P r) : ER (d + 5) tb_m122 83 [(0, .ref 0), (1, .int v), (2, .int x)] [] (Wd X1 Z) P := by
  refine er_loc (pc' := 84) rfl rfl rfl ?_
  refine er_gf (pc' := 87) (_) rfl rfl rfl rfl rfl ?_
  refine er_k (pc' := 88) (nI 0) rfl rfl rfl ?_
  refine er_pfIX (pc' := 91) 16 rfl rfl rfl rfl rfl rfl ?_
  refine er_loc (pc' := 92) rfl rfl rfl ?_
  refine er_iret rfl rfl ?_
  exact hP _ ⟨_, _, rfl, ho⟩
set_option maxRecDepth 100000 in
set_option maxHeartbeats 4000000 in
theorem l_check_out (d : Nat) {X : Nat → Nat → Int32} (i : Nat) (hi : i < 30) (n : Nat) (hn : n ≤ 30) (P : ab_R → Prop) (X1 Z : Nat → Nat → Int32) (x v : Int32) (hx : x = nI (i + 1)) (hv : v = nI 1 + nI i) (ho : OT X X1) (hw : X1 35 16 = nI n) (hP : ∀ r, RC v X r → P r) : ER (d + 5) tb_m122 15 [(0, .ref 0), (1, .int v), (2, .int x)] [] (Wd X1 Z) P := by
  subst hx
  refine er_loc (pc' := 16) rfl rfl rfl ?_
  refine er_loc (pc' := 17) rfl rfl rfl ?_
  refine er_gf (pc' := 20) (_) rfl rfl rfl rfl rfl ?_
  refine er_gf (pc' := 23) (.int (X1 35 16)) rfl rfl rfl rfl rfl ?_
  refine er_cm_ge (pc' := 26) rfl rfl (fun h23 => ?_) (fun h23 => ?_)
  · exact l_check_end d v P X1 Z _ ho hP
  · refine er_loc (pc' := 27) rfl rfl rfl ?_
    refine er_if_neT rfl ?_ ?_
    · rw [hv, nI_add]
      exact nI_ne0 (by omega) (by omega)
    · exact l_check_end d v P X1 Z _ ho hP
set_option maxRecDepth 100000 in
set_option maxHeartbeats 4000000 in
theorem l_check_loop (d : Nat) {X : Nat → Nat → Int32} {T0 : Nat} (hI : IJ T0 (jx X 9)) (n : Nat) (hn : n ≤ 20) (P : ab_R → Prop) : ∀ (m i T : Nat) (X1 Z : Nat → Nat → Int32) (x : Int32), i + m = n → x = nI i → OT X X1 → IJ T (jx X1 35) → X1 35 16 = nI n → (∀ j, jx X1 35 10 j = jx X 9 10 j) → T + 300 * m < 1000000000 → (∀ r, RC (ck (jx X 9) m i (jx X1 35)) X r → P r) → ER (d + 5) tb_m122 15 [(0, .ref 0), (1, .int (nI 0)), (2, .int x)] [] (Wd X1 Z) P
  | 0, i, T, X1, Z, x, hi, hx, ho, hI1, hw, hwt, hb, hP => by
    have hi0 : i = n := by omega
    subst hx
    subst hi0
    refine er_loc (pc' := 16) rfl rfl rfl ?_
    refine er_loc (pc' := 17) rfl rfl rfl ?_
    refine er_gf (pc' := 20) (_) rfl rfl rfl rfl rfl ?_
    refine er_gf (pc' := 23) (.int (X1 35 16)) rfl rfl rfl rfl rfl ?_
    rw [hw]
    refine er_cm_geT rfl (nI_nlt (by omega) (by omega)) ?_
    exact l_check_end d (nI 0) P X1 Z _ ho hP
  | m + 1, i, T, X1, Z, x, hi, hx, ho, hI1, hw, hwt, hb, hP => by
    subst hx
    have h8 := jn8 hI1
    refine er_loc (pc' := 16) rfl rfl rfl ?_
    refine er_loc (pc' := 17) rfl rfl rfl ?_
    refine er_gf (pc' := 20) (_) rfl rfl rfl rfl rfl ?_
    refine er_gf (pc' := 23) (.int (X1 35 16)) rfl rfl rfl rfl rfl ?_
    rw [hw]
    refine er_cm_geF (pc' := 26) rfl (nI_lt (by omega) (by omega)) rfl ?_
    refine er_loc (pc' := 27) rfl rfl rfl ?_
    refine er_if_neF (pc' := 30) rfl (by decide +kernel) rfl ?_
    refine er_loc (pc' := 31) rfl rfl rfl ?_
    refine er_gf (pc' := 34) (_) rfl rfl rfl rfl rfl ?_
    refine er_cIi (pc' := 37) (rest := []) 7 rfl rfl rfl rfl rfl rfl (l_leastThatMay _ j35 _ _ hI1) ?_
    rcases hq : sFirst (jx X1 35) (jn (jx X1 35)) 0 with _ | k
    · refine er_loc (L' := [(3, _), (0, _), (1, _), (2, _)]) (pc' := 38) rfl rfl rfl ?_
      refine er_loc (pc' := 39) rfl rfl rfl ?_
      refine er_if_ltT rfl fI_neg ?_
      refine er_loc (pc' := 51) rfl rfl rfl ?_
      refine er_if_ltT rfl fI_neg ?_
      refine er_k (pc' := 74) (nI 1) rfl rfl rfl ?_
      refine er_loc (pc' := 75) rfl rfl rfl ?_
      refine er_iadd (pc' := 76) rfl rfl ?_
      refine er_loc (L' := [(1, _), (3, _), (0, _), (2, _)]) (pc' := 77) rfl rfl rfl ?_
      refine er_loc (L' := [(2, .int (_ + nI 1)), (1, _), (3, _), (0, _)]) (pc' := 80) rfl rfl rfl ?_
      refine er_goto rfl ?_
      refine ER_loc [(0, _), (1, _), (2, _)] rfl (List.forall_mem_cons.mpr ⟨rfl, List.forall_mem_cons.mpr ⟨rfl, List.forall_mem_cons.mpr ⟨rfl, fun _ h => absurd h List.not_mem_nil⟩⟩⟩) rfl rfl ?_
      refine l_check_out d i (by omega) n (by omega) P X1 _ _ _ (nI_add i 1) rfl ho hw ?_
      rw [ck_none hq] at hP
      exact hP
    · have hm := sFirst_some hq
      have hk := (mayDo_k hm).1
      refine er_loc (L' := [(3, _), (0, _), (1, _), (2, _)]) (pc' := 38) rfl rfl rfl ?_
      refine er_loc (pc' := 39) rfl rfl rfl ?_
      refine er_if_ltF (pc' := 42) rfl (fI_pos (by omega)) rfl ?_
      refine er_loc (pc' := 43) rfl rfl rfl ?_
      refine er_gf (pc' := 46) (_) rfl rfl rfl rfl rfl ?_
      refine er_loc (pc' := 47) rfl rfl rfl ?_
      refine er_cIv (pc' := 50) (rest := []) 7 rfl rfl rfl rfl rfl rfl (l_pass _ j35 _ _ hI1 (k := k) hk) ?_
      intro Z7
      have hj2 : jx (xPass X1 35 k) 35 = jPass (jx X1 35) k := jx_xPass (by omega)
      have ho2 : OT X (xPass X1 35 k) := ho.pass
      have hw2 : xPass X1 35 k 35 16 = nI n := by
        have e : jx (xPass X1 35 k) 35 0 16 = nI n := by rw [hj2]; exact (show jPass (jx X1 35) k 0 16 = nI n from by rw [← hw]; exact jx016)
        rw [jx016] at e
        exact e
      have hwt2 : ∀ j, jx (xPass X1 35 k) 35 10 j = jx X 9 10 j := fun j => by rw [hj2]; exact hwt j
      have hI2 : IJ (T + 300) (jx (xPass X1 35 k) 35) := by rw [hj2]; exact hI1.pass (by omega) hm
      have hmin : xPass X1 35 k 35 10 = jPass (jx X1 35) k 0 10 := by rw [← hj2, jx010]
      have hwi : xPass X1 35 k 47 i = jx X 9 10 i := by
        rw [← hwt2 i]
        exact (jx10 (b := 35) (by omega)).symm
      refine er_loc (pc' := 51) rfl rfl rfl ?_
      refine er_if_ltF (pc' := 54) rfl (fI_pos (by omega)) rfl ?_
      refine er_loc (pc' := 55) rfl rfl rfl ?_
      refine er_gf (pc' := 58) (_) rfl rfl rfl rfl rfl ?_
      refine er_gf (pc' := 61) (.int (xPass X1 35 k 35 10)) rfl rfl rfl rfl rfl ?_
      refine er_loc (pc' := 62) rfl rfl rfl ?_
      refine er_gf (pc' := 65) (_) rfl rfl rfl rfl rfl ?_
      refine er_gf (pc' := 68) (_) rfl rfl rfl rfl rfl ?_
      refine er_loc (pc' := 69) rfl rfl rfl ?_
      refine er_ia (pc' := 70) (i) rfl rfl rfl rfl (by omega) rfl rfl ?_
      rw [hmin, hwi]
      refine er_cm_eq (pc' := 73) rfl rfl (fun h70 => ?_) (fun h70 => ?_)
      · refine er_loc (L' := [(2, .int (_ + nI 1)), (3, _), (0, _), (1, _)]) (pc' := 80) rfl rfl rfl ?_
        refine er_goto rfl ?_
        refine ER_loc [(0, _), (1, _), (2, _)] rfl (List.forall_mem_cons.mpr ⟨rfl, List.forall_mem_cons.mpr ⟨rfl, List.forall_mem_cons.mpr ⟨rfl, fun _ h => absurd h List.not_mem_nil⟩⟩⟩) rfl rfl ?_
        refine l_check_loop d hI n hn P m (i + 1) (T + 300) _ _ _ (by omega) (nI_add i 1) ho2 hI2 hw2 hwt2 (by omega) ?_
        rw [ck_some hq, if_pos h70, ← hj2] at hP
        exact hP
      · refine er_k (pc' := 74) (nI 1) rfl rfl rfl ?_
        refine er_loc (pc' := 75) rfl rfl rfl ?_
        refine er_iadd (pc' := 76) rfl rfl ?_
        refine er_loc (L' := [(1, _), (3, _), (0, _), (2, _)]) (pc' := 77) rfl rfl rfl ?_
        refine er_loc (L' := [(2, .int (_ + nI 1)), (1, _), (3, _), (0, _)]) (pc' := 80) rfl rfl rfl ?_
        refine er_goto rfl ?_
        refine ER_loc [(0, _), (1, _), (2, _)] rfl (List.forall_mem_cons.mpr ⟨rfl, List.forall_mem_cons.mpr ⟨rfl, List.forall_mem_cons.mpr ⟨rfl, fun _ h => absurd h List.not_mem_nil⟩⟩⟩) rfl rfl ?_
        refine l_check_out d i (by omega) n (by omega) P _ _ _ _ (nI_add i 1) rfl ho2 hw2 ?_
        rw [ck_some hq, if_neg h70] at hP
        exact hP
set_option maxRecDepth 100000 in
set_option maxHeartbeats 4000000 in
theorem l_check (d : Nat) (X Z : Nat → Nat → Int32) {T : Nat} (hI : IJ T (jx X 9)) (hT9 : T < 1000000) : EC (d + 6) 122 [.ref 0] (Wd X Z) (RC (sCheck (jx X 9)) X) := by
  refine er_enter (L := [(0, _)]) rfl rfl rfl ?_
  refine er_k (pc' := 1) (nI 0) rfl rfl rfl ?_
  refine er_loc (pc' := 2) (L' := [(1, _), (0, _)]) rfl rfl rfl ?_
  refine er_loc (pc' := 3) rfl rfl rfl ?_
  refine er_gf (pc' := 6) (_) rfl rfl rfl rfl rfl ?_
  refine er_loc (pc' := 7) rfl rfl rfl ?_
  refine er_gf (pc' := 10) (_) rfl rfl rfl rfl rfl ?_
  refine er_cIt (pc' := 13) (rest := []) 7 rfl rfl rfl rfl rfl rfl (l_take_35_9 _ _ _ hI) ?_
  intro X1 Z1 hj1 ho1
  refine er_k (pc' := 14) (nI 0) rfl rfl rfl ?_
  refine er_loc (pc' := 15) (L' := [(2, _), (1, _), (0, _)]) rfl rfl rfl ?_
  obtain ⟨n, hn, hw⟩ := (isN_iff (by omega)).mp hI.waits
  have hnn : nN (jx X 9 0 16) = n := by rw [hw]; exact nN_nI (by omega)
  have hw1 : X1 35 16 = nI n := by
    have e : jx X1 35 0 16 = nI n := by rw [hj1]; exact hw
    rw [jx016] at e
    exact e
  refine ER_loc [(0, _), (1, _), (2, _)] rfl (List.forall_mem_cons.mpr ⟨rfl, List.forall_mem_cons.mpr ⟨rfl, List.forall_mem_cons.mpr ⟨rfl, fun _ h => absurd h List.not_mem_nil⟩⟩⟩) rfl rfl ?_
  refine l_check_loop d hI n hn _ n 0 T X1 Z1 _ (by omega) rfl ho1 (by rw [hj1]; exact hI) hw1 (fun j => by rw [hj1]) (by omega) (fun r hr => ?_)
  unfold sCheck
  rw [hj1] at hr
  rw [hnn]
  exact hr
def sPick (z : Int32) : Int32 := sDraw z - sDraw z / nI 8 * nI 8
def loS (J : Nat → Nat → Int32) (k : Nat) (c : Int32) : (Nat → Nat → Int32) × Int32 := if sMayDo J k = true then (jFin J k, c + nI 1) else if sMayUn J k = true then (jApart J k, c) else (ud J 0 10 (J 0 10 + nI 1), c)
def jZ (J : Nat → Nat → Int32) : Nat → Nat → Int32 := ud J 0 17 (sZ (J 0 17))
def loT (q : (Nat → Nat → Int32) × Int32) : (Nat → Nat → Int32) × Int32 := loS (jZ q.1) (nN (sPick (sZ (q.1 0 17)))) q.2
def itN {α : Type} (f : α → α) : Nat → α → α
  | 0, a => a
  | n + 1, a => itN f n (f a)
theorem itN_succ {α : Type} (f : α → α) (n : Nat) (a : α) : itN f (n + 1) a = itN f n (f a) := rfl
def RJ (v : Int32) (J : Nat → Nat → Int32) (X : Nat → Nat → Int32) : ab_R → Prop := fun r => ∃ X' Z', r = (some (.int v), Wd X' Z') ∧ jx X' 9 = J ∧ ∀ c, (c < 9 ∨ 9 + 12 < c) → X' c = X c
theorem pick8 (z : Int32) : ∃ k, k < 8 ∧ sPick z = nI k := by
  unfold sPick sDraw
  have h1 : (z.toUInt32 >>> ((nI 8).toUInt32 &&& Int32.toUInt32 31)).toInt32.toBitVec = z.toBitVec >>> 8 := by
    show (z.toUInt32 >>> ((nI 8).toUInt32 &&& Int32.toUInt32 31)).toBitVec = _
    rw [UInt32.toBitVec_shiftRight, shn_bv (by omega)]
    rfl
  obtain ⟨x, hx⟩ : ∃ x, x = (z.toUInt32 >>> ((nI 8).toUInt32 &&& Int32.toUInt32 31)).toInt32 := ⟨_, rfl⟩
  rw [← hx] at h1 ⊢
  have h2 : (x.toBitVec).toNat < 2 ^ 24 := by
    rw [h1, BitVec.toNat_ushiftRight, Nat.shiftRight_eq_div_pow]
    have := z.toBitVec.isLt
    omega
  have h3 : x = nI x.toBitVec.toNat := by
    apply Int32.toBitVec_inj.mp
    show _ = (Int32.ofNat _).toBitVec
    rw [Int32.toBitVec_ofNat']
    simp
  generalize x.toBitVec.toNat = n at h2 h3
  subst h3
  have h4 : nI n / nI 8 = nI (n / 8) := by
    apply Int32.toInt_inj.mp
    rw [Int32.toInt_div_of_ne_right, nI_toInt (by omega), nI_toInt (by omega), nI_toInt (by omega)]
    · exact (Int.ofNat_tdiv n 8).symm
    · decide +kernel
  refine ⟨n % 8, by omega, ?_⟩
  rw [h4, nI_mul, nI_sub (by omega)]
  congr 1
  omega
