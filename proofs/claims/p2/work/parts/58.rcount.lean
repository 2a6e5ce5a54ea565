/-! THE REFERENCE, its face: counts, next, left, odds, loose, the tape -/
theorem set_n {x : Int32} {n : Nat} (hn : n ≤ 8) (h : ∀ i, bt x i = true → i < n) : ∃ j, j < 2 ^ n ∧ x = nI j := by
  refine ⟨x.toBitVec.toNat, ?_, ?_⟩
  · apply Nat.lt_pow_two_of_testBit
    intro i hi
    cases hb : x.toBitVec.toNat.testBit i with
    | false => rfl
    | true =>
      have := h i (by unfold bt; exact hb)
      omega
  · apply Int32.toBitVec_inj.mp
    show _ = (Int32.ofNat _).toBitVec
    rw [Int32.toBitVec_ofNat']
    simp
theorem fin256 {k : Nat} (h : k < 256) {p : Nat → Prop} (hp : ∀ i : Fin 256, p i.val) : p k := hp ⟨k, h⟩
theorem bits_step {j : Nat} (h : j < 256) : j ≠ 0 → (nI j &&& (nI j - nI 1)) = nI (nN (nI j &&& (nI j - nI 1))) ∧ nN (nI j &&& (nI j - nI 1)) < j ∧ sPop (nI j) = nI 1 + sPop (nI (nN (nI j &&& (nI j - nI 1)))) :=
  fin256 (p := fun j => j ≠ 0 → (nI j &&& (nI j - nI 1)) = nI (nN (nI j &&& (nI j - nI 1))) ∧ nN (nI j &&& (nI j - nI 1)) < j ∧ sPop (nI j) = nI 1 + sPop (nI (nN (nI j &&& (nI j - nI 1))))) h (by decide +kernel)
theorem pop_or {n : Nat} (hn : n < 8) {j : Nat} (hj : j < 2 ^ n) : sPop (nI j ||| (nI 1 <<< (nI n &&& 31))) = sPop (nI j) + nI 1 := by
  have h : ∀ n : Fin 8, ∀ j : Fin 256, j.val < 2 ^ n.val → sPop (nI j.val ||| (nI 1 <<< (nI n.val &&& 31))) = sPop (nI j.val) + nI 1 := by decide +kernel
  have hp := Nat.pow_le_pow_right (show 0 < 2 by omega) (show n ≤ 8 by omega)
  exact h ⟨n, hn⟩ ⟨j, by omega⟩ hj
theorem or_0 (x : Int32) : x ||| nI 0 = x := by
  apply bt_ext
  intro i _
  rw [bt_or, bt_0, Bool.or_false]
theorem rB_lt {R : Nat → Int32} {p n : Nat} (hn : n ≤ 8) (hf : ∀ i, i < n → fl (R (p + 6 * i))) : ∀ i, bt (rB R p n) i = true → i < n := by
  intro i hi
  rw [bt_rB hn hf, Bool.and_eq_true, decide_eq_true_eq] at hi
  exact hi.1
theorem rS_pop {R : Nat → Int32} {p : Nat} : ∀ {n : Nat}, n ≤ 8 → (∀ i, i < n → fl (R (p + 6 * i))) → rS R p n = sPop (rB R p n)
  | 0, _, _ => (by decide +kernel : nI 0 = sPop (nI 0))
  | n + 1, hn, hf => by
    have hf2 : ∀ i, i < n → fl (R (p + 6 * i)) := fun i hi => hf i (by omega)
    show rS R p n + R (p + 6 * n) = sPop (rB R p n ||| (R (p + 6 * n) <<< (nI n &&& 31)))
    rw [rS_pop (by omega) hf2]
    obtain ⟨j, hj, e⟩ := set_n (by omega) (rB_lt (show n ≤ 8 by omega) hf2)
    rcases hf n (by omega) with h | h
    · rw [h, sh0 (by omega), or_0, show ∀ x : Int32, x + nI 0 = x from fun x => Int32.add_zero x]
    · rw [h, e, pop_or (by omega) hj]
set_option maxRecDepth 100000 in
set_option maxHeartbeats 4000000 in
theorem l_bits_loop (d : Nat) (w : ab_W) (s : Int32) : ∀ (m j : Nat), j ≤ m → j < 256 → ∀ (a : Int32), ER (d + 1) tb_m179 4 [(0, .int s), (1, .int a), (2, .int (nI j))] [] w (PI (a + sPop (nI j)) w)
  | 0, j, hm, h, a => by
    have hj : j = 0 := by omega
    subst hj
    refine er_loc (pc' := 5) rfl rfl rfl ?_
    refine er_if_eqT rfl (rfl) ?_
    refine er_loc (pc' := 21) rfl rfl rfl ?_
    refine er_iret rfl rfl ?_
    exact PI_of (by rw [show sPop (nI 0) = nI 0 from by decide +kernel]; exact (Int32.add_zero _).symm)
  | m + 1, j, hm, h, a => by
    by_cases h0 : j = 0
    · subst h0
      refine er_loc (pc' := 5) rfl rfl rfl ?_
      refine er_if_eqT rfl (rfl) ?_
      refine er_loc (pc' := 21) rfl rfl rfl ?_
      refine er_iret rfl rfl ?_
      exact PI_of (by rw [show sPop (nI 0) = nI 0 from by decide +kernel]; exact (Int32.add_zero _).symm)
    · obtain ⟨b1, b2, b3⟩ := bits_step h h0
      have h0j : ¬ nI j = 0 := fun hh => h0 (nIj (by omega) (by omega) (show nI j = nI 0 from hh))
      refine er_loc (pc' := 5) rfl rfl rfl ?_
      refine er_if_eqF (pc' := 8) rfl (h0j) rfl ?_
      refine er_loc (L' := [(1, .int (_ + nI 1)), (0, _), (2, _)]) rfl rfl rfl ?_
      refine er_loc (pc' := 12) rfl rfl rfl ?_
      refine er_loc (pc' := 13) rfl rfl rfl ?_
      refine er_k (pc' := 14) (nI 1) rfl rfl rfl ?_
      refine er_isub (pc' := 15) rfl rfl ?_
      refine er_iand (pc' := 16) rfl rfl ?_
      refine er_loc (pc' := 17) (L' := [(2, _), (1, _), (0, _)]) rfl rfl rfl ?_
      refine er_goto rfl ?_
      refine ER_loc [(0, _), (1, _), (2, _)] rfl (List.forall_mem_cons.mpr ⟨rfl, List.forall_mem_cons.mpr ⟨rfl, List.forall_mem_cons.mpr ⟨rfl, fun _ h => absurd h List.not_mem_nil⟩⟩⟩) rfl rfl ?_
      rw [b1, b3, ← Int32.add_assoc]
      exact l_bits_loop d w s m _ (by omega) (by omega) _
set_option maxRecDepth 100000 in
set_option maxHeartbeats 4000000 in
theorem l_rBits (d : Nat) (w : ab_W) {j : Nat} (h : j < 256) : EC (d + 2) 179 [.int (nI j)] w (PI (sPop (nI j)) w) := by
  have e : sPop (nI j) = nI 0 + sPop (nI j) := (Int32.zero_add _).symm
  rw [e]
  refine er_enter (L := [(0, _)]) rfl rfl rfl ?_
  refine er_k (pc' := 1) (nI 0) rfl rfl rfl ?_
  refine er_loc (pc' := 2) (L' := [(1, _), (0, _)]) rfl rfl rfl ?_
  refine er_loc (pc' := 3) rfl rfl rfl ?_
  refine er_loc (pc' := 4) (L' := [(2, _), (1, _), (0, _)]) rfl rfl rfl ?_
  refine ER_loc [(0, _), (1, _), (2, _)] rfl (List.forall_mem_cons.mpr ⟨rfl, List.forall_mem_cons.mpr ⟨rfl, List.forall_mem_cons.mpr ⟨rfl, fun _ h => absurd h List.not_mem_nil⟩⟩⟩) rfl rfl ?_
  exact l_bits_loop d w _ j j (Nat.le_refl _) h _
theorem l_rBitsD (d : Nat) (w : ab_W) {T : Nat} {J : Nat → Nat → Int32} (hI : IJ T J) : EC (d + 2) 179 [.int (J 0 6)] w (PI (sPop (J 0 6)) w) := by
  have h8 := jn8 hI
  obtain ⟨j, hj, e⟩ := set_n (Nat.le_refl 8) (fun i hi => Nat.lt_of_lt_of_le (hI.done i hi) h8)
  rw [e]
  exact l_rBits d w hj
theorem l_rWrongsJ (d : Nat) (X Z : Nat → Nat → Int32) {T : Nat} (hI : RK T (X 64)) : EC (d + 2) 180 [.ref 63] (Wd X Z) (PI (sPop (jm (X 64) 0 7)) (Wd X Z)) := by
  have h := l_rWrongs d X Z hI.n hI.n8
  rw [rS_pop (n := jn (jm (X 64))) hI.n8 (fun i hi => hI.fW (by have := jn8 hI.ij; omega))] at h
  exact h
set_option maxRecDepth 100000 in
set_option maxHeartbeats 4000000 in
theorem l_rCount0 (d : Nat) (X Z : Nat → Nat → Int32) {T : Nat} (hI : RK T (X 64)) (hT : T < 2000000000) : EC (d + 3) 224 [.ref 63, .int (nI 0)] (Wd X Z) (RI (jm (X 64) 0 1) X) := by
  refine er_enter (L := [(0, _), (1, _)]) rfl rfl rfl ?_
  refine er_loc (pc' := 1) rfl rfl rfl ?_
  refine er_swT (0) rfl (by decide +kernel) rfl ?_
  refine er_loc (pc' := 61) rfl rfl rfl ?_
  refine er_gf (pc' := 64) (_) rfl rfl rfl rfl rfl ?_
  refine er_k (pc' := 65) (nI 2) rfl rfl rfl ?_
  refine er_ia (pc' := 66) (2) rfl rfl rfl rfl (by omega) rfl rfl ?_
  refine er_iret rfl rfl ?_
  exact RI_of rfl rfl
set_option maxRecDepth 100000 in
set_option maxHeartbeats 4000000 in
theorem l_rCount1 (d : Nat) (X Z : Nat → Nat → Int32) {T : Nat} (hI : RK T (X 64)) (hT : T < 2000000000) : EC (d + 3) 224 [.ref 63, .int (nI 1)] (Wd X Z) (RI (sPop (jm (X 64) 0 6)) X) := by
  refine er_enter (L := [(0, _), (1, _)]) rfl rfl rfl ?_
  refine er_loc (pc' := 1) rfl rfl rfl ?_
  refine er_swT (1) rfl (by decide +kernel) rfl ?_
  refine er_loc (pc' := 68) rfl rfl rfl ?_
  refine er_cIi (pc' := 71) (rest := []) 12 rfl rfl rfl rfl rfl rfl (l_rDone _ X _ (n := jn (jm (X 64))) hI.n hI.n8) ?_
  rw [show rB (X 64) 11 (jn (jm (X 64))) = jm (X 64) 0 6 from rfl]
  refine er_cSi (pc' := 74) (rest := []) rfl rfl rfl (l_rBitsD _ _ hI.ij) ?_
  refine er_iret rfl rfl ?_
  exact RI_of rfl rfl
set_option maxRecDepth 100000 in
set_option maxHeartbeats 4000000 in
theorem l_rCount2 (d : Nat) (X Z : Nat → Nat → Int32) {T : Nat} (hI : RK T (X 64)) (hT : T < 2000000000) : EC (d + 3) 224 [.ref 63, .int (nI 2)] (Wd X Z) (RI (sPop (jm (X 64) 0 7)) X) := by
  refine er_enter (L := [(0, _), (1, _)]) rfl rfl rfl ?_
  refine er_loc (pc' := 1) rfl rfl rfl ?_
  refine er_swT (2) rfl (by decide +kernel) rfl ?_
  refine er_loc (pc' := 76) rfl rfl rfl ?_
  refine er_cIi (pc' := 79) (rest := []) 12 rfl rfl rfl rfl rfl rfl (l_rWrongsJ _ X _ hI) ?_
  refine er_iret rfl rfl ?_
  exact RI_of rfl rfl
set_option maxRecDepth 100000 in
set_option maxHeartbeats 4000000 in
theorem l_rCount3 (d : Nat) (X Z : Nat → Nat → Int32) {T : Nat} (hI : RK T (X 64)) (hT : T < 2000000000) : EC (d + 3) 224 [.ref 63, .int (nI 3)] (Wd X Z) (RI (jm (X 64) 0 9) X) := by
  refine er_enter (L := [(0, _), (1, _)]) rfl rfl rfl ?_
  refine er_loc (pc' := 1) rfl rfl rfl ?_
  refine er_swT (3) rfl (by decide +kernel) rfl ?_
  refine er_loc (pc' := 81) rfl rfl rfl ?_
  refine er_gf (pc' := 84) (_) rfl rfl rfl rfl rfl ?_
  refine er_k (pc' := 85) (nI 4) rfl rfl rfl ?_
  refine er_ia (pc' := 86) (4) rfl rfl rfl rfl (by omega) rfl rfl ?_
  refine er_iret rfl rfl ?_
  exact RI_of rfl rfl
set_option maxRecDepth 100000 in
set_option maxHeartbeats 4000000 in
theorem l_rCount4 (d : Nat) (X Z : Nat → Nat → Int32) {T : Nat} (hI : RK T (X 64)) (hT : T < 2000000000) : EC (d + 3) 224 [.ref 63, .int (nI 4)] (Wd X Z) (RI (jm (X 64) 0 8) X) := by
  refine er_enter (L := [(0, _), (1, _)]) rfl rfl rfl ?_
  refine er_loc (pc' := 1) rfl rfl rfl ?_
  refine er_swT (4) rfl (by decide +kernel) rfl ?_
  refine er_loc (pc' := 88) rfl rfl rfl ?_
  refine er_gf (pc' := 91) (_) rfl rfl rfl rfl rfl ?_
  refine er_k (pc' := 92) (nI 3) rfl rfl rfl ?_
  refine er_ia (pc' := 93) (3) rfl rfl rfl rfl (by omega) rfl rfl ?_
  refine er_iret rfl rfl ?_
  exact RI_of rfl rfl
set_option maxRecDepth 100000 in
set_option maxHeartbeats 4000000 in
theorem l_rCount5 (d : Nat) (X Z : Nat → Nat → Int32) {T : Nat} (hI : RK T (X 64)) (hT : T < 2000000000) : EC (d + 3) 224 [.ref 63, .int (nI 5)] (Wd X Z) (RI (jm (X 64) 0 10) X) := by
  refine er_enter (L := [(0, _), (1, _)]) rfl rfl rfl ?_
  refine er_loc (pc' := 1) rfl rfl rfl ?_
  refine er_swT (5) rfl (by decide +kernel) rfl ?_
  refine er_loc (pc' := 95) rfl rfl rfl ?_
  refine er_gf (pc' := 98) (_) rfl rfl rfl rfl rfl ?_
  refine er_k (pc' := 99) (nI 0) rfl rfl rfl ?_
  refine er_ia (pc' := 100) (0) rfl rfl rfl rfl (by omega) rfl rfl ?_
  refine er_iret rfl rfl ?_
  exact RI_of rfl rfl
set_option maxRecDepth 100000 in
set_option maxHeartbeats 4000000 in
theorem l_rCount6 (d : Nat) (X Z : Nat → Nat → Int32) {T : Nat} (hI : RK T (X 64)) (hT : T < 2000000000) : EC (d + 3) 224 [.ref 63, .int (nI 6)] (Wd X Z) (RI (sTired (jm (X 64))) X) := by
  refine er_enter (L := [(0, _), (1, _)]) rfl rfl rfl ?_
  refine er_loc (pc' := 1) rfl rfl rfl ?_
  refine er_swT (6) rfl (by decide +kernel) rfl ?_
  refine er_loc (pc' := 102) rfl rfl rfl ?_
  refine er_cIi (pc' := 105) (rest := []) 12 rfl rfl rfl rfl rfl rfl (l_rTiredJ _ X _ hI (by omega)) ?_
  refine er_iret rfl rfl ?_
  exact RI_of rfl rfl
set_option maxRecDepth 100000 in
set_option maxHeartbeats 4000000 in
theorem l_rCount7 (d : Nat) (X Z : Nat → Nat → Int32) {T : Nat} (hI : RK T (X 64)) (hT : T < 2000000000) : EC (d + 3) 224 [.ref 63, .int (nI 7)] (Wd X Z) (RI (jm (X 64) 0 14) X) := by
  refine er_enter (L := [(0, _), (1, _)]) rfl rfl rfl ?_
  refine er_loc (pc' := 1) rfl rfl rfl ?_
  refine er_swT (7) rfl (by decide +kernel) rfl ?_
  refine er_loc (pc' := 107) rfl rfl rfl ?_
  refine er_gf (pc' := 110) (_) rfl rfl rfl rfl rfl ?_
  refine er_k (pc' := 111) (nI 5) rfl rfl rfl ?_
  refine er_ia (pc' := 112) (5) rfl rfl rfl rfl (by omega) rfl rfl ?_
  refine er_iret rfl rfl ?_
  exact RI_of rfl rfl
set_option maxRecDepth 100000 in
set_option maxHeartbeats 4000000 in
theorem l_rCount8 (d : Nat) (X Z : Nat → Nat → Int32) {T : Nat} (hI : RK T (X 64)) (hT : T < 2000000000) : EC (d + 3) 224 [.ref 63, .int (nI 8)] (Wd X Z) (RI (jm (X 64) 0 16) X) := by
  refine er_enter (L := [(0, _), (1, _)]) rfl rfl rfl ?_
  refine er_loc (pc' := 1) rfl rfl rfl ?_
  refine er_swT (8) rfl (by decide +kernel) rfl ?_
  refine er_loc (pc' := 114) rfl rfl rfl ?_
  refine er_gf (pc' := 117) (_) rfl rfl rfl rfl rfl ?_
  refine er_k (pc' := 119) (nI 6) rfl rfl rfl ?_
  refine er_ia (pc' := 120) (6) rfl rfl rfl rfl (by omega) rfl rfl ?_
  refine er_iret rfl rfl ?_
  exact RI_of rfl rfl
set_option maxRecDepth 100000 in
set_option maxHeartbeats 4000000 in
theorem l_rCount9 (d : Nat) (X Z : Nat → Nat → Int32) {T : Nat} (hI : RK T (X 64)) (hT : T < 2000000000) : EC (d + 3) 224 [.ref 63, .int (nI 9)] (Wd X Z) (RI (X 63 21) X) := by
  refine er_enter (L := [(0, _), (1, _)]) rfl rfl rfl ?_
  refine er_loc (pc' := 1) rfl rfl rfl ?_
  refine er_swT (9) rfl (by decide +kernel) rfl ?_
  refine er_loc (pc' := 122) rfl rfl rfl ?_
  refine er_gf (pc' := 125) (.int (X 63 21)) rfl rfl rfl rfl rfl ?_
  refine er_iret rfl rfl ?_
  exact RI_of rfl rfl
set_option maxRecDepth 100000 in
set_option maxHeartbeats 4000000 in
theorem l_rCount10 (d : Nat) (X Z : Nat → Nat → Int32) {T : Nat} (hI : RK T (X 64)) (hT : T < 2000000000) : EC (d + 3) 224 [.ref 63, .int (nI 10)] (Wd X Z) (RI (jm (X 64) 0 17) X) := by
  refine er_enter (L := [(0, _), (1, _)]) rfl rfl rfl ?_
  refine er_loc (pc' := 1) rfl rfl rfl ?_
  refine er_swT (10) rfl (by decide +kernel) rfl ?_
  refine er_loc (pc' := 127) rfl rfl rfl ?_
  refine er_gf (pc' := 130) (_) rfl rfl rfl rfl rfl ?_
  refine er_k (pc' := 131) (nI 1) rfl rfl rfl ?_
  refine er_ia (pc' := 132) (1) rfl rfl rfl rfl (by omega) rfl rfl ?_
  refine er_iret rfl rfl ?_
  exact RI_of rfl rfl
theorem l_rCount (d : Nat) (X Z : Nat → Nat → Int32) {T : Nat} (hI : RK T (X 64)) (hT : T < 2000000000) (w : Int32) : EC (d + 3) 224 [.ref 63, .int w] (Wd X Z) (fun r => if sIn w (nI 0) (nI 10) = true then RI (sCnt (jm (X 64)) (X 63 21) w) X r else RI (sErr 1) (yErr X 1) r) := by
  by_cases hw : sIn w (nI 0) (nI 10) = true
  · refine EC.mono (P := RI (sCnt (jm (X 64)) (X 63 21) w) X) ?_ (fun r hr => by rw [if_pos hw]; exact hr)
    obtain ⟨j, _, h2, rfl⟩ := sIn_ex (by omega) (by omega) hw
    have : j = 0 ∨ j = 1 ∨ j = 2 ∨ j = 3 ∨ j = 4 ∨ j = 5 ∨ j = 6 ∨ j = 7 ∨ j = 8 ∨ j = 9 ∨ j = 10 := by omega
    rcases this with rfl | rfl | rfl | rfl | rfl | rfl | rfl | rfl | rfl | rfl | rfl
    · exact l_rCount0 d X Z hI hT
    · exact l_rCount1 d X Z hI hT
    · exact l_rCount2 d X Z hI hT
    · exact l_rCount3 d X Z hI hT
    · exact l_rCount4 d X Z hI hT
    · exact l_rCount5 d X Z hI hT
    · exact l_rCount6 d X Z hI hT
    · exact l_rCount7 d X Z hI hT
    · exact l_rCount8 d X Z hI hT
    · exact l_rCount9 d X Z hI hT
    · exact l_rCount10 d X Z hI hT
  · refine EC.mono (P := RI (sErr 1) (yErr X 1)) ?_ (fun r hr => by rw [if_neg hw]; exact hr)
    have hw2 : sIn w (nI 0) (nI 10) = false := by simpa using hw
    refine er_enter (L := [(0, _), (1, _)]) rfl rfl rfl ?_
    refine er_loc (pc' := 1) rfl rfl rfl ?_
    refine er_sw (0) rfl rfl (fun s1_0 => ?_) (fun s1_0 => ?_)
    · exfalso; subst s1_0; exact absurd hw2 (by decide +kernel)
    refine er_sw (1) rfl rfl (fun s1_1 => ?_) (fun s1_1 => ?_)
    · exfalso; subst s1_1; exact absurd hw2 (by decide +kernel)
    refine er_sw (2) rfl rfl (fun s1_2 => ?_) (fun s1_2 => ?_)
    · exfalso; subst s1_2; exact absurd hw2 (by decide +kernel)
    refine er_sw (3) rfl rfl (fun s1_3 => ?_) (fun s1_3 => ?_)
    · exfalso; subst s1_3; exact absurd hw2 (by decide +kernel)
    refine er_sw (4) rfl rfl (fun s1_4 => ?_) (fun s1_4 => ?_)
    · exfalso; subst s1_4; exact absurd hw2 (by decide +kernel)
    refine er_sw (5) rfl rfl (fun s1_5 => ?_) (fun s1_5 => ?_)
    · exfalso; subst s1_5; exact absurd hw2 (by decide +kernel)
    refine er_sw (6) rfl rfl (fun s1_6 => ?_) (fun s1_6 => ?_)
    · exfalso; subst s1_6; exact absurd hw2 (by decide +kernel)
    refine er_sw (7) rfl rfl (fun s1_7 => ?_) (fun s1_7 => ?_)
    · exfalso; subst s1_7; exact absurd hw2 (by decide +kernel)
    refine er_sw (8) rfl rfl (fun s1_8 => ?_) (fun s1_8 => ?_)
    · exfalso; subst s1_8; exact absurd hw2 (by decide +kernel)
    refine er_sw (9) rfl rfl (fun s1_9 => ?_) (fun s1_9 => ?_)
    · exfalso; subst s1_9; exact absurd hw2 (by decide +kernel)
    refine er_sw (10) rfl rfl (fun s1_10 => ?_) (fun s1_10 => ?_)
    · exfalso; subst s1_10; exact absurd hw2 (by decide +kernel)
    refine er_tsD [0, 1, 2, 3, 4, 5, 6, 7, 8, 9, 10] rfl rfl rfl rfl (List.forall_mem_cons.mpr ⟨ne_toInt s1_0 rfl, List.forall_mem_cons.mpr ⟨ne_toInt s1_1 rfl, List.forall_mem_cons.mpr ⟨ne_toInt s1_2 rfl, List.forall_mem_cons.mpr ⟨ne_toInt s1_3 rfl, List.forall_mem_cons.mpr ⟨ne_toInt s1_4 rfl, List.forall_mem_cons.mpr ⟨ne_toInt s1_5 rfl, List.forall_mem_cons.mpr ⟨ne_toInt s1_6 rfl, List.forall_mem_cons.mpr ⟨ne_toInt s1_7 rfl, List.forall_mem_cons.mpr ⟨ne_toInt s1_8 rfl, List.forall_mem_cons.mpr ⟨ne_toInt s1_9 rfl, List.forall_mem_cons.mpr ⟨ne_toInt s1_10 rfl, fun _ h => absurd h List.not_mem_nil⟩⟩⟩⟩⟩⟩⟩⟩⟩⟩⟩) ?_
    refine er_loc (pc' := 134) rfl rfl rfl ?_
    refine er_ldc (pc' := 136) (-1000000001) rfl rfl rfl rfl rfl ?_
    refine er_cIz (pc' := 139) (rest := []) 12 rfl rfl rfl rfl rfl rfl (l_rError1 _ _ _) ?_
    intro Z9
    refine er_iret rfl rfl ?_
    exact RI_of rfl rfl
theorem bt_sSetOf {p : Nat → Bool} : ∀ {n : Nat}, n ≤ 8 → ∀ i, bt (sSetOf p n) i = (decide (i < n) && p i)
  | 0, _, i => by
    rw [show sSetOf p 0 = nI 0 from rfl, bt_0, decide_eq_false (by omega)]
    rfl
  | n + 1, hn, i => by
    rw [show sSetOf p (n + 1) = sWith (sSetOf p n) (nI n) (p n) from rfl, bt_with (by omega), bt_sSetOf (by omega) i]
    by_cases h : i = n
    · subst h
      rw [if_pos rfl, decide_eq_true (Nat.lt_succ_self i)]
      rfl
    · rw [if_neg h, decide_eq_decide.mpr (show i < n + 1 ↔ i < n by omega)]
theorem or_set {p : Nat → Bool} {i : Nat} (h : i < 8) : sSetOf p i ||| (if p i = true then nI 1 <<< (nI i &&& 31) else nI 0) = sSetOf p (i + 1) := by
  apply bt_ext
  intro j _
  rw [bt_or, bt_sSetOf (by omega), bt_sSetOf (by omega)]
  cases hp : p i with
  | true =>
    rw [if_pos rfl, bt_one (by omega)]
    by_cases hj : j = i
    · subst hj
      rw [hp, decide_eq_true rfl, decide_eq_true (Nat.lt_succ_self j)]
      simp
    · rw [decide_eq_decide.mpr (show j < i + 1 ↔ j < i by omega), decide_eq_false hj, Bool.or_false]
  | false =>
    rw [if_neg (by decide), bt_0, Bool.or_false]
    by_cases hj : j = i
    · subst hj
      rw [hp, Bool.and_false, Bool.and_false]
    · rw [decide_eq_decide.mpr (show j < i + 1 ↔ j < i by omega)]
set_option maxRecDepth 100000 in
set_option maxHeartbeats 4000000 in
theorem l_rMays_loop (d : Nat) (X Z : Nat → Nat → Int32) {T : Nat} (hI : RK T (X 64)) : ∀ (m i : Nat) (x : Int32) (v : Int32), i + m = jn (jm (X 64)) → x = nI i → v = sSetOf (sMayDo (jm (X 64))) i → ER (d + 3) tb_m174 4 [(0, .ref 63), (1, .int v), (2, .int x)] [] (Wd X Z) (PI (sSetOf (sMayDo (jm (X 64))) (jn (jm (X 64)))) (Wd X Z))
  | 0, i, x, v, hi, h0, h1 => by
    have hi0 : i = jn (jm (X 64)) := by omega
    subst h0
    subst h1
    have h8 := jn8 hI.ij
    subst hi0
    refine er_loc (pc' := 5) rfl rfl rfl ?_
    refine er_loc (pc' := 6) rfl rfl rfl ?_
    refine er_gf (pc' := 9) (_) rfl rfl rfl rfl rfl ?_
    refine er_k (pc' := 10) (nI 2) rfl rfl rfl ?_
    refine er_ia (pc' := 11) (2) rfl rfl rfl rfl (by omega) rfl rfl ?_
    rw [hI.n]
    refine er_cm_geT rfl (nI_nlt (by omega) (by omega)) ?_
    refine er_loc (pc' := 39) rfl rfl rfl ?_
    refine er_iret rfl rfl ?_
    exact PI_of rfl
  | m + 1, i, x, v, hi, h0, h1 => by
    subst h0
    subst h1
    have h8 := jn8 hI.ij
    refine er_loc (pc' := 5) rfl rfl rfl ?_
    refine er_loc (pc' := 6) rfl rfl rfl ?_
    refine er_gf (pc' := 9) (_) rfl rfl rfl rfl rfl ?_
    refine er_k (pc' := 10) (nI 2) rfl rfl rfl ?_
    refine er_ia (pc' := 11) (2) rfl rfl rfl rfl (by omega) rfl rfl ?_
    rw [hI.n]
    refine er_cm_geF (pc' := 14) rfl (nI_lt (by omega) (by omega)) rfl ?_
    refine er_loc (pc' := 15) rfl rfl rfl ?_
    refine er_loc (pc' := 16) rfl rfl rfl ?_
    refine er_loc (pc' := 17) rfl rfl rfl ?_
    refine er_cIi (pc' := 20) (rest := [_]) 12 rfl rfl rfl rfl rfl rfl (l_rMayDo _ X _ hI (by omega)) ?_
    refine er_if_eqb (pc' := 23) rfl rfl (fun h20 => ?_) (fun h20 => ?_)
    · refine er_k (nI 0) rfl rfl rfl ?_
      refine er_ior rfl rfl ?_
      refine er_loc (L' := [(1, _), (0, _), (2, _)]) rfl rfl rfl ?_
      refine er_loc (L' := [(2, .int (_ + nI 1)), (1, _), (0, _)]) rfl rfl rfl ?_
      refine er_goto rfl ?_
      refine ER_loc [(0, _), (1, _), (2, _)] rfl (List.forall_mem_cons.mpr ⟨rfl, List.forall_mem_cons.mpr ⟨rfl, List.forall_mem_cons.mpr ⟨rfl, fun _ h => absurd h List.not_mem_nil⟩⟩⟩) rfl rfl ?_
      refine l_rMays_loop d X Z hI m (i + 1) _ _ (by omega) (nI_add i 1) ?_
      rw [← or_set (by omega), if_neg (by rw [h20]; decide)]
    · refine er_k (nI 1) rfl rfl rfl ?_
      refine er_loc (pc' := 25) rfl rfl rfl ?_
      refine er_ishl (pc' := 26) rfl rfl ?_
      refine er_goto rfl ?_
      refine er_ior rfl rfl ?_
      refine er_loc (L' := [(1, _), (0, _), (2, _)]) rfl rfl rfl ?_
      refine er_loc (L' := [(2, .int (_ + nI 1)), (1, _), (0, _)]) rfl rfl rfl ?_
      refine er_goto rfl ?_
      refine ER_loc [(0, _), (1, _), (2, _)] rfl (List.forall_mem_cons.mpr ⟨rfl, List.forall_mem_cons.mpr ⟨rfl, List.forall_mem_cons.mpr ⟨rfl, fun _ h => absurd h List.not_mem_nil⟩⟩⟩) rfl rfl ?_
      refine l_rMays_loop d X Z hI m (i + 1) _ _ (by omega) (nI_add i 1) ?_
      rw [← or_set (by omega), if_pos h20]
set_option maxRecDepth 100000 in
set_option maxHeartbeats 4000000 in
theorem l_rMays (d : Nat) (X Z : Nat → Nat → Int32) {T : Nat} (hI : RK T (X 64)) : EC (d + 4) 174 [.ref 63] (Wd X Z) (PI (sSetOf (sMayDo (jm (X 64))) (jn (jm (X 64)))) (Wd X Z)) := by
  refine er_enter (L := [(0, _)]) rfl rfl rfl ?_
  refine er_k (pc' := 1) (nI 0) rfl rfl rfl ?_
  refine er_loc (pc' := 2) (L' := [(1, _), (0, _)]) rfl rfl rfl ?_
  refine er_k (pc' := 3) (nI 0) rfl rfl rfl ?_
  refine er_loc (pc' := 4) (L' := [(2, _), (1, _), (0, _)]) rfl rfl rfl ?_
  refine ER_loc [(0, _), (1, _), (2, _)] rfl (List.forall_mem_cons.mpr ⟨rfl, List.forall_mem_cons.mpr ⟨rfl, List.forall_mem_cons.mpr ⟨rfl, fun _ h => absurd h List.not_mem_nil⟩⟩⟩) rfl rfl ?_
  exact l_rMays_loop d X Z hI (jn (jm (X 64))) 0 _ _ (by omega) rfl rfl
theorem sSetOf_cong {p q : Nat → Bool} (h : ∀ i, p i = q i) : ∀ n, sSetOf p n = sSetOf q n
  | 0 => rfl
  | n + 1 => by
    show sWith _ _ _ = sWith _ _ _
    rw [sSetOf_cong h n, h n]
set_option maxRecDepth 100000 in
set_option maxHeartbeats 4000000 in
theorem l_rNext_loop (d : Nat) (X Z : Nat → Nat → Int32) {T : Nat} (hI : RK T (X 64)) (w : Int32) : ∀ (m i : Nat) (x : Int32) (v : Int32), i + m = jn (jm (X 64)) → x = nI i → v = sSetOf (sMayUn (jm (X 64))) i → ER (d + 5) tb_m173 20 [(0, .ref 63), (1, .int w), (2, .int v), (3, .int x)] [] (Wd X Z) (RI (sSetOf (sPn (jm (X 64)) w) (jn (jm (X 64)))) X)
  | 0, i, x, v, hi, h0, h1 => by
    have hi0 : i = jn (jm (X 64)) := by omega
    subst h0
    subst h1
    have h8 := jn8 hI.ij
    subst hi0
    refine er_loc (pc' := 21) rfl rfl rfl ?_
    refine er_loc (pc' := 22) rfl rfl rfl ?_
    refine er_gf (pc' := 25) (_) rfl rfl rfl rfl rfl ?_
    refine er_k (pc' := 26) (nI 2) rfl rfl rfl ?_
    refine er_ia (pc' := 27) (2) rfl rfl rfl rfl (by omega) rfl rfl ?_
    rw [hI.n]
    refine er_cm_geT rfl (nI_nlt (by omega) (by omega)) ?_
    refine er_loc (pc' := 55) rfl rfl rfl ?_
    refine er_if_ne (pc' := 58) rfl rfl (fun h55 => ?_) (fun h55 => ?_)
    · refine er_loc (pc' := 66) rfl rfl rfl ?_
      refine er_iret rfl rfl ?_
      exact RI_of (sSetOf_cong (fun i => (if_neg h55).symm) _) rfl
    · refine er_loc (pc' := 59) rfl rfl rfl ?_
      refine er_cIi (pc' := 62) (rest := []) 12 rfl rfl rfl rfl rfl rfl (l_rMays _ X _ hI) ?_
      refine er_goto rfl ?_
      refine er_iret rfl rfl ?_
      exact RI_of (sSetOf_cong (fun i => (if_pos h55).symm) _) rfl
  | m + 1, i, x, v, hi, h0, h1 => by
    subst h0
    subst h1
    have h8 := jn8 hI.ij
    refine er_loc (pc' := 21) rfl rfl rfl ?_
    refine er_loc (pc' := 22) rfl rfl rfl ?_
    refine er_gf (pc' := 25) (_) rfl rfl rfl rfl rfl ?_
    refine er_k (pc' := 26) (nI 2) rfl rfl rfl ?_
    refine er_ia (pc' := 27) (2) rfl rfl rfl rfl (by omega) rfl rfl ?_
    rw [hI.n]
    refine er_cm_geF (pc' := 30) rfl (nI_lt (by omega) (by omega)) rfl ?_
    refine er_loc (pc' := 31) rfl rfl rfl ?_
    refine er_loc (pc' := 32) rfl rfl rfl ?_
    refine er_loc (pc' := 33) rfl rfl rfl ?_
    refine er_cIi (pc' := 36) (rest := [_]) 12 rfl rfl rfl rfl rfl rfl (l_rMayUn _ X _ hI (by omega)) ?_
    refine er_if_eqb (pc' := 39) rfl rfl (fun h36 => ?_) (fun h36 => ?_)
    · refine er_k (nI 0) rfl rfl rfl ?_
      refine er_ior rfl rfl ?_
      refine er_loc (L' := [(2, _), (0, _), (1, _), (3, _)]) rfl rfl rfl ?_
      refine er_loc (L' := [(3, .int (_ + nI 1)), (2, _), (0, _), (1, _)]) rfl rfl rfl ?_
      refine er_goto rfl ?_
      refine ER_loc [(0, _), (1, _), (2, _), (3, _)] rfl (List.forall_mem_cons.mpr ⟨rfl, List.forall_mem_cons.mpr ⟨rfl, List.forall_mem_cons.mpr ⟨rfl, List.forall_mem_cons.mpr ⟨rfl, fun _ h => absurd h List.not_mem_nil⟩⟩⟩⟩) rfl rfl ?_
      refine l_rNext_loop d X Z hI w m (i + 1) _ _ (by omega) (nI_add i 1) ?_
      rw [← or_set (by omega), if_neg (by rw [h36]; decide)]
    · refine er_k (nI 1) rfl rfl rfl ?_
      refine er_loc (pc' := 41) rfl rfl rfl ?_
      refine er_ishl (pc' := 42) rfl rfl ?_
      refine er_goto rfl ?_
      refine er_ior rfl rfl ?_
      refine er_loc (L' := [(2, _), (0, _), (1, _), (3, _)]) rfl rfl rfl ?_
      refine er_loc (L' := [(3, .int (_ + nI 1)), (2, _), (0, _), (1, _)]) rfl rfl rfl ?_
      refine er_goto rfl ?_
      refine ER_loc [(0, _), (1, _), (2, _), (3, _)] rfl (List.forall_mem_cons.mpr ⟨rfl, List.forall_mem_cons.mpr ⟨rfl, List.forall_mem_cons.mpr ⟨rfl, List.forall_mem_cons.mpr ⟨rfl, fun _ h => absurd h List.not_mem_nil⟩⟩⟩⟩) rfl rfl ?_
      refine l_rNext_loop d X Z hI w m (i + 1) _ _ (by omega) (nI_add i 1) ?_
      rw [← or_set (by omega), if_pos h36]
set_option maxRecDepth 100000 in
set_option maxHeartbeats 4000000 in
theorem l_rNext (d : Nat) (X Z : Nat → Nat → Int32) {T : Nat} (hI : RK T (X 64)) (w : Int32) : EC (d + 6) 173 [.ref 63, .int w] (Wd X Z) (fun r => if sIn w (nI 0) (nI 1) = true then RI (sSetOf (sPn (jm (X 64)) w) (jn (jm (X 64)))) X r else RI (sErr 1) (yErr X 1) r) := by
  refine er_enter (L := [(0, _), (1, _)]) rfl rfl rfl ?_
  refine er_loc (pc' := 1) rfl rfl rfl ?_
  refine er_k (pc' := 2) (nI 0) rfl rfl rfl ?_
  refine er_k (pc' := 3) (nI 1) rfl rfl rfl ?_
  refine er_cSi (pc' := 6) (rest := []) rfl rfl rfl (l_in _ _ _ _ _) ?_
  refine er_if_neb (pc' := 9) rfl rfl (fun h6 => ?_) (fun h6 => ?_)
  · refine er_k (pc' := 17) (nI 0) rfl rfl rfl ?_
    refine er_loc (pc' := 18) (L' := [(2, _), (0, _), (1, _)]) rfl rfl rfl ?_
    refine er_k (pc' := 19) (nI 0) rfl rfl rfl ?_
    refine er_loc (pc' := 20) (L' := [(3, _), (2, _), (0, _), (1, _)]) rfl rfl rfl ?_
    refine ER_loc [(0, _), (1, _), (2, _), (3, _)] rfl (List.forall_mem_cons.mpr ⟨rfl, List.forall_mem_cons.mpr ⟨rfl, List.forall_mem_cons.mpr ⟨rfl, List.forall_mem_cons.mpr ⟨rfl, fun _ h => absurd h List.not_mem_nil⟩⟩⟩⟩) rfl rfl ?_
    refine ER.mono (l_rNext_loop d X Z hI w (jn (jm (X 64))) 0 _ _ (by omega) rfl rfl) ?_
    intro r hr
    rw [if_pos h6]
    exact hr
  · refine er_loc (pc' := 10) rfl rfl rfl ?_
    refine er_ldc (pc' := 12) (-1000000001) rfl rfl rfl rfl rfl ?_
    refine er_cIz (pc' := 15) (rest := []) 12 rfl rfl rfl rfl rfl rfl (l_rError1 _ _ _) ?_
    intro Z9
    refine er_iret rfl rfl ?_
    rw [if_neg (by rw [h6]; decide)]
    exact RI_of rfl rfl
set_option maxRecDepth 100000 in
set_option maxHeartbeats 4000000 in
theorem l_rLeft_loop (d : Nat) (X Z : Nat → Nat → Int32) {T : Nat} (hI : RK T (X 64)) : ∀ (m i : Nat) (x : Int32) (v : Int32), i + m = jn (jm (X 64)) → x = nI i → v = sLeft (jm (X 64)) i → ER (d + 2) tb_m191 9 [(0, .ref 63), (1, .int v), (2, .int x)] [] (Wd X Z) (RI (sLeft (jm (X 64)) (jn (jm (X 64)))) X)
  | 0, i, x, v, hi, h0, h1 => by
    have hi0 : i = jn (jm (X 64)) := by omega
    subst h0
    subst h1
    have h8 := jn8 hI.ij
    subst hi0
    refine er_loc (pc' := 10) rfl rfl rfl ?_
    refine er_loc (pc' := 11) rfl rfl rfl ?_
    refine er_gf (pc' := 14) (_) rfl rfl rfl rfl rfl ?_
    refine er_k (pc' := 15) (nI 2) rfl rfl rfl ?_
    refine er_ia (pc' := 16) (2) rfl rfl rfl rfl (by omega) rfl rfl ?_
    rw [hI.n]
    refine er_cm_geT rfl (nI_nlt (by omega) (by omega)) ?_
    refine er_loc (pc' := 48) rfl rfl rfl ?_
    refine er_iret rfl rfl ?_
    exact RI_of rfl rfl
  | m + 1, i, x, v, hi, h0, h1 => by
    subst h0
    subst h1
    have h8 := jn8 hI.ij
    refine er_loc (pc' := 10) rfl rfl rfl ?_
    refine er_loc (pc' := 11) rfl rfl rfl ?_
    refine er_gf (pc' := 14) (_) rfl rfl rfl rfl rfl ?_
    refine er_k (pc' := 15) (nI 2) rfl rfl rfl ?_
    refine er_ia (pc' := 16) (2) rfl rfl rfl rfl (by omega) rfl rfl ?_
    rw [hI.n]
    refine er_cm_geF (pc' := 19) rfl (nI_lt (by omega) (by omega)) rfl ?_
    refine er_loc (pc' := 20) rfl rfl rfl ?_
    refine er_loc (pc' := 21) rfl rfl rfl ?_
    refine er_loc (pc' := 22) rfl rfl rfl ?_
    refine er_k (pc' := 23) (nI 4) rfl rfl rfl ?_
    refine er_cIi (pc' := 26) (rest := [_]) 12 rfl rfl rfl rfl rfl rfl (l_of4 _ X _ hI (by omega)) ?_
    refine er_if_neb (pc' := 29) rfl rfl (fun h26 => ?_) (fun h26 => ?_)
    · refine er_k (nI 0) rfl rfl rfl ?_
      refine er_isub rfl rfl ?_
      refine er_loc (L' := [(1, _), (0, _), (2, _)]) rfl rfl rfl ?_
      refine er_loc (L' := [(2, .int (_ + nI 1)), (1, _), (0, _)]) rfl rfl rfl ?_
      refine er_goto rfl ?_
      refine ER_loc [(0, _), (1, _), (2, _)] rfl (List.forall_mem_cons.mpr ⟨rfl, List.forall_mem_cons.mpr ⟨rfl, List.forall_mem_cons.mpr ⟨rfl, fun _ h => absurd h List.not_mem_nil⟩⟩⟩) rfl rfl ?_
      refine l_rLeft_loop d X Z hI m (i + 1) _ _ (by omega) (nI_add i 1) ?_
      show _ = _ - (if _ then _ else _)
      rw [if_pos h26]
    · refine er_loc rfl rfl rfl ?_
      refine er_loc (pc' := 31) rfl rfl rfl ?_
      refine er_k (pc' := 32) (nI 2) rfl rfl rfl ?_
      refine er_cIi (pc' := 35) (rest := [_]) 12 rfl rfl rfl rfl rfl rfl (l_of2 _ X _ (by omega)) ?_
      refine er_goto rfl ?_
      refine er_isub rfl rfl ?_
      refine er_loc (L' := [(1, _), (0, _), (2, _)]) rfl rfl rfl ?_
      refine er_loc (L' := [(2, .int (_ + nI 1)), (1, _), (0, _)]) rfl rfl rfl ?_
      refine er_goto rfl ?_
      refine ER_loc [(0, _), (1, _), (2, _)] rfl (List.forall_mem_cons.mpr ⟨rfl, List.forall_mem_cons.mpr ⟨rfl, List.forall_mem_cons.mpr ⟨rfl, fun _ h => absurd h List.not_mem_nil⟩⟩⟩) rfl rfl ?_
      refine l_rLeft_loop d X Z hI m (i + 1) _ _ (by omega) (nI_add i 1) ?_
      show _ = _ - (if _ then _ else _)
      rw [if_neg (by rw [h26]; decide)]
set_option maxRecDepth 100000 in
set_option maxHeartbeats 4000000 in
theorem l_rLeft (d : Nat) (X Z : Nat → Nat → Int32) {T : Nat} (hI : RK T (X 64)) : EC (d + 3) 191 [.ref 63] (Wd X Z) (RI (sLeft (jm (X 64)) (jn (jm (X 64)))) X) := by
  refine er_enter (L := [(0, _)]) rfl rfl rfl ?_
  refine er_loc (pc' := 1) rfl rfl rfl ?_
  refine er_gf (pc' := 4) (_) rfl rfl rfl rfl rfl ?_
  refine er_k (pc' := 5) (nI 4) rfl rfl rfl ?_
  refine er_ia (pc' := 6) (4) rfl rfl rfl rfl (by omega) rfl rfl ?_
  refine er_loc (pc' := 7) (L' := [(1, _), (0, _)]) rfl rfl rfl ?_
  refine er_k (pc' := 8) (nI 0) rfl rfl rfl ?_
  refine er_loc (pc' := 9) (L' := [(2, _), (1, _), (0, _)]) rfl rfl rfl ?_
  refine ER_loc [(0, _), (1, _), (2, _)] rfl (List.forall_mem_cons.mpr ⟨rfl, List.forall_mem_cons.mpr ⟨rfl, List.forall_mem_cons.mpr ⟨rfl, fun _ h => absurd h List.not_mem_nil⟩⟩⟩) rfl rfl ?_
  exact l_rLeft_loop d X Z hI (jn (jm (X 64))) 0 _ _ (by omega) rfl rfl
set_option maxRecDepth 100000 in
set_option maxHeartbeats 4000000 in
theorem l_rOdds_no (d : Nat) (X Z : Nat → Nat → Int32) {T : Nat} (hI : RK T (X 64)) (s w : Int32) (hs : jHas (jm (X 64)) s = false) : EC (d + 3) 198 [.ref 63, .int s, .int w] (Wd X Z) (RI (sErr 1) (yErr X 1)) := by
  refine er_enter (L := [(0, _), (1, _), (2, _)]) rfl rfl rfl ?_
  refine er_loc (pc' := 1) rfl rfl rfl ?_
  refine er_loc (pc' := 2) rfl rfl rfl ?_
  refine er_cIi (pc' := 5) (rest := []) 12 rfl rfl rfl rfl rfl rfl (l_rHas_f _ X _ hI hs) ?_
  refine er_if_eqT rfl (by decide +kernel) ?_
  refine er_loc (pc' := 18) rfl rfl rfl ?_
  refine er_ldc (pc' := 20) (-1000000001) rfl rfl rfl rfl rfl ?_
  refine er_cIz (pc' := 23) (rest := []) 12 rfl rfl rfl rfl rfl rfl (l_rError1 _ _ _) ?_
  intro Z9
  refine er_iret rfl rfl ?_
  exact RI_of rfl rfl
theorem odd_f {v : Int32} (h : isN v 1) : (v = 0 → nI 1 - v = nI 1) ∧ (¬ v = 0 → nI 1 - v = nI 0) := by
  obtain ⟨n, hn, rfl⟩ := (isN_iff (by omega)).mp h
  have : n = 0 ∨ n = 1 := by omega
  rcases this with rfl | rfl <;> decide +kernel
set_option maxRecDepth 100000 in
set_option maxHeartbeats 4000000 in
theorem l_rOdd_loop (d : Nat) (X : Nat → Nat → Int32) {T : Nat} (hI : RK T (X 64)) {k : Nat} (hk : k < jn (jm (X 64))) (w : Int32) (P : ab_R → Prop) : ∀ (m i : Nat) (Z : Nat → Nat → Int32) (v : Int32) (x : Int32), i + m = 10 → x = nI i → v = sRight (jm (X 64)) k i → (∀ Z2 x2, ER (d + 5) tb_m198 60 [(0, .ref 63), (1, .int (nI k)), (2, .int w), (3, .int (sRight (jm (X 64)) k 10)), (4, .int x2)] [] (Wd X Z2) P) → ER (d + 5) tb_m198 29 [(0, .ref 63), (1, .int (nI k)), (2, .int w), (3, .int v), (4, .int x)] [] (Wd X Z) (P)
  | 0, i, Z, v, x, hi, h0, h1, h2 => by
    have hi0 : i = 10 := by omega
    subst h0
    subst h1
    subst hi0
    refine er_loc (pc' := 31) rfl rfl rfl ?_
    refine er_k (pc' := 33) (nI 10) rfl rfl rfl ?_
    refine er_cm_geT rfl (nI_nlt (by omega) (by omega)) ?_
    exact h2 Z _
  | m + 1, i, Z, v, x, hi, h0, h1, h2 => by
    subst h0
    subst h1
    have h8 := jn8 hI.ij
    have hk8 : k < 8 := by omega
    refine er_loc (pc' := 31) rfl rfl rfl ?_
    refine er_k (pc' := 33) (nI 10) rfl rfl rfl ?_
    refine er_cm_geF (pc' := 36) rfl (nI_lt (by omega) (by omega)) rfl ?_
    refine er_loc (pc' := 37) rfl rfl rfl ?_
    refine er_loc (pc' := 38) rfl rfl rfl ?_
    refine er_loc (pc' := 39) rfl rfl rfl ?_
    refine er_loc (pc' := 41) rfl rfl rfl ?_
    refine er_cIz (pc' := 44) (rest := [_]) 12 rfl rfl rfl rfl rfl rfl (l_rErrsOf _ X _ hI hk8 _) ?_
    intro Z2
    refine er_if_ne (pc' := 47) rfl rfl (fun h44 => ?_) (fun h44 => ?_)
    · refine er_k (nI 0) rfl rfl rfl ?_
      refine er_iadd rfl rfl ?_
      refine er_loc (L' := [(3, _), (0, _), (1, _), (2, _), (4, _)]) rfl rfl rfl ?_
      refine er_loc (L' := [(4, .int (_ + nI 1)), (3, _), (0, _), (1, _), (2, _)]) rfl rfl rfl ?_
      refine er_goto rfl ?_
      refine ER_loc [(0, _), (1, _), (2, _), (3, _), (4, _)] rfl (List.forall_mem_cons.mpr ⟨rfl, List.forall_mem_cons.mpr ⟨rfl, List.forall_mem_cons.mpr ⟨rfl, List.forall_mem_cons.mpr ⟨rfl, List.forall_mem_cons.mpr ⟨rfl, fun _ h => absurd h List.not_mem_nil⟩⟩⟩⟩⟩) rfl rfl ?_
      refine l_rOdd_loop d X hI hk w P m (i + 1) _ _ _ (by omega) (nI_add i 1) ?_ h2
      show _ = _ + (nI 1 - _)
      rw [(odd_f errsBy1).2 h44]
    · refine er_k (nI 1) rfl rfl rfl ?_
      refine er_goto rfl ?_
      refine er_iadd rfl rfl ?_
      refine er_loc (L' := [(3, _), (0, _), (1, _), (2, _), (4, _)]) rfl rfl rfl ?_
      refine er_loc (L' := [(4, .int (_ + nI 1)), (3, _), (0, _), (1, _), (2, _)]) rfl rfl rfl ?_
      refine er_goto rfl ?_
      refine ER_loc [(0, _), (1, _), (2, _), (3, _), (4, _)] rfl (List.forall_mem_cons.mpr ⟨rfl, List.forall_mem_cons.mpr ⟨rfl, List.forall_mem_cons.mpr ⟨rfl, List.forall_mem_cons.mpr ⟨rfl, List.forall_mem_cons.mpr ⟨rfl, fun _ h => absurd h List.not_mem_nil⟩⟩⟩⟩⟩) rfl rfl ?_
      refine l_rOdd_loop d X hI hk w P m (i + 1) _ _ _ (by omega) (nI_add i 1) ?_ h2
      show _ = _ + (nI 1 - _)
      rw [(odd_f errsBy1).1 h44]
set_option maxRecDepth 100000 in
set_option maxHeartbeats 4000000 in
theorem l_rRed_loop (d : Nat) {X : Nat → Nat → Int32} (w : Int32) (P : ab_R → Prop) : ∀ (m : Nat) (p q x : Int32) (Z : Nat → Nat → Int32), x = nI (m + 1) → (∀ r, RI (if w = 0 then (sRed m p q).1 else (sRed m p q).2) X r → P r) ∧ m ≤ 9 → ER (d + 3) tb_m198 68 [(0, .ref 63), (2, .int w), (3, .int p), (4, .int q), (5, .int x)] [] (Wd X Z) P
  | 0, p, q, x, Z, hx, hP => by
    subst hx
    refine er_loc (pc' := 70) rfl rfl rfl ?_
    refine er_k (pc' := 71) (nI 1) rfl rfl rfl ?_
    refine er_cm_leT rfl (nI_nlt (by omega) (by omega)) ?_
    refine er_loc (pc' := 108) rfl rfl rfl ?_
    refine er_if_ne (pc' := 111) rfl rfl (fun h108 => ?_) (fun h108 => ?_)
    · refine er_loc (pc' := 117) rfl rfl rfl ?_
      refine er_iret rfl rfl ?_
      apply hP.1
      rw [if_neg h108]
      exact RI_of rfl rfl
    · refine er_loc (pc' := 112) rfl rfl rfl ?_
      refine er_goto rfl ?_
      refine er_iret rfl rfl ?_
      apply hP.1
      rw [if_pos h108]
      exact RI_of rfl rfl
  | m + 1, p, q, x, Z, hx, hP => by
    have hm9 := hP.2
    subst hx
    refine er_loc (pc' := 70) rfl rfl rfl ?_
    refine er_k (pc' := 71) (nI 1) rfl rfl rfl ?_
    refine er_cm_leF (pc' := 74) rfl (nI_lt (by omega) (by omega)) rfl ?_
    refine er_loc (pc' := 75) rfl rfl rfl ?_
    refine er_loc (pc' := 77) rfl rfl rfl ?_
    refine er_irem (pc' := 78) rfl rfl (by have := nI_ne0 (n := m + 2) (by omega) (by omega); exact this) ?_
    refine er_if_ne (pc' := 81) rfl rfl (fun h78 => ?_) (fun h78 => ?_)
    · refine er_loc (L' := [(5, .int (_ + (-1))), (0, _), (2, _), (3, _), (4, _)]) rfl rfl rfl ?_
      refine er_goto rfl ?_
      refine ER_loc [(0, _), (2, _), (3, _), (4, _), (5, _)] rfl (List.forall_mem_cons.mpr ⟨rfl, List.forall_mem_cons.mpr ⟨rfl, List.forall_mem_cons.mpr ⟨rfl, List.forall_mem_cons.mpr ⟨rfl, List.forall_mem_cons.mpr ⟨rfl, fun _ h => absurd h List.not_mem_nil⟩⟩⟩⟩⟩) rfl rfl ?_
      refine l_rRed_loop d w P m _ _ _ Z (by rw [nI_addm1 (by omega)]; rfl) ?_
      have e2 : sRed (m + 1) p q = sRed m p q := by
        show (if _ then _ else _) = _
        rw [if_neg (fun c => h78 c.1)]
      rw [← e2]
      exact ⟨hP.1, by omega⟩
    · refine er_loc (pc' := 83) rfl rfl rfl ?_
      refine er_loc (pc' := 85) rfl rfl rfl ?_
      refine er_irem (pc' := 86) rfl rfl (by have := nI_ne0 (n := m + 2) (by omega) (by omega); exact this) ?_
      refine er_if_ne (pc' := 89) rfl rfl (fun h86 => ?_) (fun h86 => ?_)
      · refine er_loc (L' := [(5, .int (_ + (-1))), (0, _), (2, _), (3, _), (4, _)]) rfl rfl rfl ?_
        refine er_goto rfl ?_
        refine ER_loc [(0, _), (2, _), (3, _), (4, _), (5, _)] rfl (List.forall_mem_cons.mpr ⟨rfl, List.forall_mem_cons.mpr ⟨rfl, List.forall_mem_cons.mpr ⟨rfl, List.forall_mem_cons.mpr ⟨rfl, List.forall_mem_cons.mpr ⟨rfl, fun _ h => absurd h List.not_mem_nil⟩⟩⟩⟩⟩) rfl rfl ?_
        refine l_rRed_loop d w P m _ _ _ Z (by rw [nI_addm1 (by omega)]; rfl) ?_
        have e2 : sRed (m + 1) p q = sRed m p q := by
          show (if _ then _ else _) = _
          rw [if_neg (fun c => h86 c.2)]
        rw [← e2]
        exact ⟨hP.1, by omega⟩
      · refine er_loc (pc' := 90) rfl rfl rfl ?_
        refine er_loc (pc' := 92) rfl rfl rfl ?_
        refine er_idiv (pc' := 93) rfl rfl (by have := nI_ne0 (n := m + 2) (by omega) (by omega); exact this) ?_
        refine er_loc (pc' := 94) (L' := [(3, _), (0, _), (2, _), (4, _), (5, _)]) rfl rfl rfl ?_
        refine er_loc (pc' := 96) rfl rfl rfl ?_
        refine er_loc (pc' := 98) rfl rfl rfl ?_
        refine er_idiv (pc' := 99) rfl rfl (by have := nI_ne0 (n := m + 2) (by omega) (by omega); exact this) ?_
        refine er_loc (pc' := 101) (L' := [(4, _), (3, _), (0, _), (2, _), (5, _)]) rfl rfl rfl ?_
        refine er_loc (L' := [(5, .int (_ + (-1))), (4, _), (3, _), (0, _), (2, _)]) rfl rfl rfl ?_
        refine er_goto rfl ?_
        refine ER_loc [(0, _), (2, _), (3, _), (4, _), (5, _)] rfl (List.forall_mem_cons.mpr ⟨rfl, List.forall_mem_cons.mpr ⟨rfl, List.forall_mem_cons.mpr ⟨rfl, List.forall_mem_cons.mpr ⟨rfl, List.forall_mem_cons.mpr ⟨rfl, fun _ h => absurd h List.not_mem_nil⟩⟩⟩⟩⟩) rfl rfl ?_
        refine l_rRed_loop d w P m _ _ _ Z (by rw [nI_addm1 (by omega)]; rfl) ?_
        have e2 : sRed (m + 1) p q = sRed m (p / nI (m + 2)) (q / nI (m + 2)) := by
          show (if _ then _ else _) = _
          rw [if_pos ⟨h78, h86⟩]
        rw [← e2]
        exact ⟨hP.1, by omega⟩
set_option maxRecDepth 100000 in
set_option maxHeartbeats 4000000 in
theorem l_rOdds (d : Nat) (X Z : Nat → Nat → Int32) {T : Nat} (hI : RK T (X 64)) {k : Nat} (hk : k < jn (jm (X 64))) (w : Int32) : EC (d + 6) 198 [.ref 63, .int (nI k), .int w] (Wd X Z) (fun r => if sIn w (nI 0) (nI 1) = true then RI (if w = 0 then (sOdds (jm (X 64)) k).1 else (sOdds (jm (X 64)) k).2) X r else RI (sErr 1) (yErr X 1) r) := by
  refine er_enter (L := [(0, _), (1, _), (2, _)]) rfl rfl rfl ?_
  refine er_loc (pc' := 1) rfl rfl rfl ?_
  refine er_loc (pc' := 2) rfl rfl rfl ?_
  refine er_cIi (pc' := 5) (rest := []) 12 rfl rfl rfl rfl rfl rfl (l_rHas_t _ X _ hI hk) ?_
  refine er_if_eqF (pc' := 8) rfl (by decide +kernel) rfl ?_
  refine er_loc (pc' := 9) rfl rfl rfl ?_
  refine er_k (pc' := 10) (nI 0) rfl rfl rfl ?_
  refine er_k (pc' := 11) (nI 1) rfl rfl rfl ?_
  refine er_cSi (pc' := 14) (rest := []) rfl rfl rfl (l_in _ _ _ _ _) ?_
  refine er_if_neb (pc' := 17) rfl rfl (fun h14 => ?_) (fun h14 => ?_)
  · refine er_k (pc' := 25) (nI 0) rfl rfl rfl ?_
    refine er_loc (pc' := 26) (L' := [(3, _), (0, _), (1, _), (2, _)]) rfl rfl rfl ?_
    refine er_k (pc' := 27) (nI 0) rfl rfl rfl ?_
    refine er_loc (pc' := 29) (L' := [(4, _), (3, _), (0, _), (1, _), (2, _)]) rfl rfl rfl ?_
    refine ER_loc [(0, _), (1, _), (2, _), (3, _), (4, _)] rfl (List.forall_mem_cons.mpr ⟨rfl, List.forall_mem_cons.mpr ⟨rfl, List.forall_mem_cons.mpr ⟨rfl, List.forall_mem_cons.mpr ⟨rfl, List.forall_mem_cons.mpr ⟨rfl, fun _ h => absurd h List.not_mem_nil⟩⟩⟩⟩⟩) rfl rfl ?_
    refine l_rOdd_loop d X hI hk w _ 10 0 Z _ _ (by omega) rfl rfl ?_
    intro Z2 x2
    refine er_k (pc' := 62) (nI 10) rfl rfl rfl ?_
    refine er_loc (pc' := 64) (L' := [(4, _), (0, _), (1, _), (2, _), (3, _)]) rfl rfl rfl ?_
    refine er_k (pc' := 66) (nI 10) rfl rfl rfl ?_
    refine er_loc (pc' := 68) (L' := [(5, _), (4, _), (0, _), (1, _), (2, _), (3, _)]) rfl rfl rfl ?_
    refine ER_loc [(0, _), (2, _), (3, _), (4, _), (5, _)] rfl (List.forall_mem_cons.mpr ⟨rfl, List.forall_mem_cons.mpr ⟨rfl, List.forall_mem_cons.mpr ⟨rfl, List.forall_mem_cons.mpr ⟨rfl, List.forall_mem_cons.mpr ⟨rfl, fun _ h => absurd h List.not_mem_nil⟩⟩⟩⟩⟩) rfl rfl ?_
    refine l_rRed_loop (d + 2) w _ 9 _ _ _ Z2 rfl ⟨fun r hr => ?_, by omega⟩
    rw [if_pos h14]
    exact hr
  · refine er_loc (pc' := 18) rfl rfl rfl ?_
    refine er_ldc (pc' := 20) (-1000000001) rfl rfl rfl rfl rfl ?_
    refine er_cIz (pc' := 23) (rest := []) 12 rfl rfl rfl rfl rfl rfl (l_rError1 _ _ _) ?_
    intro Z9
    refine er_iret rfl rfl ?_
    rw [if_neg (by rw [h14]; decide)]
    exact RI_of rfl rfl
