/-! THE FACE: the tape, SHEETS -/
theorem jx_ud9 {X : Nat → Nat → Int32} {b k : Nat} {v : Int32} (h : k < 50) : jx (ud X (b + 11) k v) b = ud (jx X b) 9 k v := by
  funext i j
  unfold jx
  simp only [ud_at]
  match i with
  | 9 =>
    by_cases hj : j = k
    · subst hj; simp [h]
    · simp [hj]
  | 0 => simp
  | 1 => simp
  | 2 => simp
  | 3 => simp
  | 4 => simp
  | 5 => simp
  | 6 => simp
  | 7 => simp
  | 8 => simp
  | 10 => simp
  | i + 11 => simp; try omega
theorem jx_ud10 {X : Nat → Nat → Int32} {b k : Nat} {v : Int32} (h : k < 20) : jx (ud X (b + 12) k v) b = ud (jx X b) 10 k v := by
  funext i j
  unfold jx
  simp only [ud_at]
  match i with
  | 10 =>
    by_cases hj : j = k
    · subst hj; simp [h]
    · simp [hj]
  | 0 => simp
  | 1 => simp
  | 2 => simp
  | 3 => simp
  | 4 => simp
  | 5 => simp
  | 6 => simp
  | 7 => simp
  | 8 => simp
  | 9 => simp
  | i + 11 => simp; try omega
def sByte (w : Int64) (i : Nat) : Int32 := ((w.toUInt64 >>> ((nI 8 * nI i).toInt64.toUInt64 &&& Int64.toUInt64 63)).toInt64).toInt32 &&& nI 255
def xFeed (X : Nat → Nat → Int32) (w : Int64) (f : Nat) : Nat → Nat → Nat → Int32
  | 0 => X
  | i + 1 => ud (ud (xFeed X w f i) (9 + 11) (f + i) (sByte w i)) 9 14 (nI (f + i + 1))
def jFeed (J : Nat → Nat → Int32) (w : Int64) (f : Nat) : Nat → Nat → Nat → Int32
  | 0 => J
  | i + 1 => ud (ud (jFeed J w f i) 9 (f + i) (sByte w i)) 0 14 (nI (f + i + 1))
theorem jx_xFeed {X : Nat → Nat → Int32} {w : Int64} {f : Nat} : ∀ {i : Nat}, f + i ≤ 50 → jx (xFeed X w f i) 9 = jFeed (jx X 9) w f i
  | 0, _ => rfl
  | i + 1, h => by
    unfold xFeed jFeed
    rw [jx_ud0 rfl, jx_ud9 (by omega), jx_xFeed (by omega)]
theorem xFeed_off {X : Nat → Nat → Int32} {w : Int64} {f : Nat} : ∀ {i : Nat}, O9 X (xFeed X w f i)
  | 0 => O9.rf X
  | i + 1 => (xFeed_off.ud (by omega)).ud (by omega)
theorem IJ.uTape {T : Nat} {J : Nat → Nat → Int32} {v : Int32} (h : IJ T J) {k : Nat} (hv : isN v 255) : IJ T (ud J 9 k v) := ⟨h.n, h.kind, h.m, h.sc, h.needs, h.done, h.wrong, h.hands, h.bag, h.minute, h.tl, h.te, h.fed, h.waits, u1_all (p := fun x => isN x 255) h.tape hv⟩
theorem byte255 (x : Int32) : isN (x &&& nI 255) 255 := by
  have h1 : (x &&& nI 255).toBitVec.toNat ≤ 255 := by
    rw [Int32.toBitVec_and, BitVec.toNat_and, show (nI 255).toBitVec.toNat = 255 from by decide +kernel]
    exact Nat.and_le_right
  have h3 : (x &&& nI 255) = nI (x &&& nI 255).toBitVec.toNat := by
    apply Int32.toBitVec_inj.mp
    show _ = (Int32.ofNat _).toBitVec
    rw [Int32.toBitVec_ofNat']
    simp
  rw [h3]
  exact isN.of h1 (by omega)
theorem IJ.feed {T : Nat} {J : Nat → Nat → Int32} {w : Int64} {f : Nat} (h : IJ T J) : ∀ {i : Nat}, f + i ≤ 50 → IJ T (jFeed J w f i)
  | 0, _ => h
  | i + 1, hf => by
    unfold jFeed
    exact ((IJ.feed h (by omega)).uTape (byte255 _)).uFed (isN.of (by omega) (by omega))
theorem sIn_lt {i : Int32} {g : Nat} (hg : g < 2 ^ 31) (h : sIn i (nI 0) (nI g - nI 1) = true) : ∃ j, j < g ∧ i = nI j := by
  rcases Nat.eq_zero_or_pos g with h0 | h0
  · subst h0
    rw [show nI 0 - nI 1 = (-1) from by decide +kernel] at h
    unfold sIn at h
    simp only [Bool.and_eq_true, Bool.not_eq_true', decide_eq_false_iff_not, Int32.lt_iff_toInt_lt] at h
    have e0 : (nI 0).toInt = 0 := by decide +kernel
    have e1 : (-1 : Int32).toInt = -1 := by decide +kernel
    omega
  · rw [nI_sub h0] at h
    obtain ⟨j, _, h2, h3⟩ := sIn_ex (by omega) (by omega) h
    exact ⟨j, by omega, h3⟩
theorem lt4 {a : Nat} (h : a < 4) : a = 0 ∨ a = 1 ∨ a = 2 ∨ a = 3 := by omega
theorem cO_R {a : Nat} (h : a < 4) (x z : Nat → Int32) : cO (55 + a) x z = .inr (.inl (qa 40 x)) := by
  rcases lt4 h with rfl | rfl | rfl | rfl <;> rfl
theorem blt_R {a : Nat} (h : a < 4) : Nat.blt (55 + a) 79 = true := Nat.ble_eq_true_of_le (by omega)
set_option maxRecDepth 100000 in
set_option maxHeartbeats 4000000 in
theorem xFeed_14 {X : Nat → Nat → Int32} {w : Int64} {f : Nat} (hf : X 9 14 = nI f) : ∀ i, xFeed X w f i 9 14 = nI (f + i)
  | 0 => hf
  | i + 1 => rfl
theorem l_feed_loop (d : Nat) {X Z : Nat → Nat → Int32} {f : Nat} (hf : X 9 14 = nI f) (k : Nat) (h50 : f + k ≤ 50 ∧ k ≤ 8) (w : Int64) : ∀ (m i : Nat) (x : Int32), i + m = k → x = nI i → ER (d + 2) tb_m87 39 [(0, .ref 0), (1, .long w), (3, .int (nI k)), (4, .int x)] [] (Wd (xFeed X w f i) Z) (RI (nI (f + k)) (xFeed X w f k))
  | 0, i, x, hi, hx => by
    have hi0 : i = k := by omega
    have hfi := xFeed_14 (w := w) hf i
    subst hx
    subst hi0
    refine er_loc (pc' := 41) rfl rfl rfl ?_
    refine er_loc (pc' := 42) rfl rfl rfl ?_
    refine er_cm_geT rfl (nI_nlt (by omega) (by omega)) ?_
    refine er_loc (pc' := 92) rfl rfl rfl ?_
    refine er_gf (pc' := 95) (_) rfl rfl rfl rfl rfl ?_
    refine er_gf (pc' := 98) (.int (xFeed X w f i 9 14)) rfl rfl rfl rfl rfl ?_
    rw [hfi]
    refine er_iret rfl rfl ?_
    exact RI_of rfl rfl
  | m + 1, i, x, hi, hx => by
    have hfi := xFeed_14 (w := w) hf i
    subst hx
    refine er_loc (pc' := 41) rfl rfl rfl ?_
    refine er_loc (pc' := 42) rfl rfl rfl ?_
    refine er_cm_geF (pc' := 45) rfl (nI_lt (by omega) (by omega)) rfl ?_
    refine er_loc (pc' := 46) rfl rfl rfl ?_
    refine er_gf (pc' := 49) (_) rfl rfl rfl rfl rfl ?_
    refine er_gf (pc' := 52) (_) rfl rfl rfl rfl rfl ?_
    refine er_loc (pc' := 53) rfl rfl rfl ?_
    refine er_gf (pc' := 56) (_) rfl rfl rfl rfl rfl ?_
    refine er_gf (pc' := 59) (.int (xFeed X w f i 9 14)) rfl rfl rfl rfl rfl ?_
    rw [hfi]
    refine er_loc (pc' := 60) rfl rfl rfl ?_
    refine er_k (pc' := 62) (nI 8) rfl rfl rfl ?_
    refine er_loc (pc' := 64) rfl rfl rfl ?_
    refine er_imul (pc' := 65) rfl rfl ?_
    refine er_pure (pc' := 66) rfl rfl rfl ?_
    refine er_pure (pc' := 67) rfl rfl rfl ?_
    refine er_k (pc' := 70) (nI 255) rfl rfl rfl ?_
    refine er_iand (pc' := 71) rfl rfl ?_
    refine er_isX (pc' := 72) ((f + i)) rfl rfl (fun _ => rfl) (by simp only [nI_add, nI_mul]) (by omega) rfl rfl ?_
    refine er_loc (pc' := 73) rfl rfl rfl ?_
    refine er_gf (pc' := 76) (_) rfl rfl rfl rfl rfl ?_
    refine er_pure (pc' := 77) rfl rfl rfl ?_
    refine er_gf (pc' := 80) (.int (xFeed X w f i 9 14)) rfl rfl rfl rfl rfl ?_
    rw [hfi]
    refine er_k (pc' := 81) (nI 1) rfl rfl rfl ?_
    refine er_iadd (pc' := 82) rfl rfl ?_
    rw [nI_add]
    refine er_pfIX (pc' := 85) 14 rfl rfl rfl rfl rfl rfl ?_
    refine er_loc (L' := [(4, .int (_ + nI 1)), (0, _), (1, _), (3, _)]) rfl rfl rfl ?_
    refine er_goto rfl ?_
    refine ER_loc [(0, _), (1, _), (3, _), (4, _)] rfl (List.forall_mem_cons.mpr ⟨rfl, List.forall_mem_cons.mpr ⟨rfl, List.forall_mem_cons.mpr ⟨rfl, List.forall_mem_cons.mpr ⟨rfl, fun _ h => absurd h List.not_mem_nil⟩⟩⟩⟩) rfl rfl ?_
    have ih := l_feed_loop d (Z := Z) hf k h50 w m (i + 1) _ (by omega) (nI_add i 1)
    rw [show xFeed X w f (i + 1) = ud (ud (xFeed X w f i) (9 + 11) (f + i) (sByte w i)) 9 14 (nI (f + i + 1)) from rfl] at ih
    exact ih
set_option maxRecDepth 100000 in
set_option maxHeartbeats 4000000 in
theorem l_feed (d : Nat) (X Z : Nat → Nat → Int32) {f : Nat} (hf : X 9 14 = nI f) (h50 : f ≤ 50) (w : Int64) (n : Int32) : EC (d + 3) 87 [.ref 0, .long w, .int n] (Wd X Z) (fun r => if sIn n (nI 1) (nI 8) = true then (if f + nN n ≤ 50 then RI (nI (f + nN n)) (xFeed X w f (nN n)) r else RI (sErr 4) (xErr X 4) r) else RI (sErr 1) (xErr X 1) r) := by
  refine er_enter (L := [(0, _), (1, _), (3, _)]) rfl rfl rfl ?_
  refine er_loc (pc' := 1) rfl rfl rfl ?_
  refine er_k (pc' := 2) (nI 1) rfl rfl rfl ?_
  refine er_k (pc' := 4) (nI 8) rfl rfl rfl ?_
  refine er_cSi (pc' := 7) (rest := []) rfl rfl rfl (l_within _ _ _ _ _) ?_
  refine er_if_neb (pc' := 10) rfl rfl (fun h7 => ?_) (fun h7 => ?_)
  · obtain ⟨k, h1k, h8k, hk⟩ := sIn_ex (by omega) (by omega) h7
    subst hk
    refine er_loc (pc' := 17) rfl rfl rfl ?_
    refine er_gf (pc' := 20) (_) rfl rfl rfl rfl rfl ?_
    refine er_gf (pc' := 23) (.int (X 9 14)) rfl rfl rfl rfl rfl ?_
    rw [hf]
    refine er_loc (pc' := 24) rfl rfl rfl ?_
    refine er_iadd (pc' := 25) rfl rfl ?_
    rw [nI_add]
    refine er_k (pc' := 27) (nI 50) rfl rfl rfl ?_
    refine er_cm_le (pc' := 30) rfl rfl (fun h27 => ?_) (fun h27 => ?_)
    · have hle : f + k ≤ 50 := by
        rw [nI_ltI (by omega) (by omega)] at h27; omega
      refine er_k (pc' := 37) (nI 0) rfl rfl rfl ?_
      refine er_loc (pc' := 39) (L' := [(4, _), (0, _), (1, _), (3, _)]) rfl rfl rfl ?_
      refine ER_loc [(0, _), (1, _), (3, _), (4, _)] rfl (List.forall_mem_cons.mpr ⟨rfl, List.forall_mem_cons.mpr ⟨rfl, List.forall_mem_cons.mpr ⟨rfl, List.forall_mem_cons.mpr ⟨rfl, fun _ h => absurd h List.not_mem_nil⟩⟩⟩⟩) rfl rfl ?_
      refine ER.mono (l_feed_loop (d := d) (Z := Z) hf k ⟨hle, h8k⟩ w k 0 _ (by omega) rfl) (fun r hr => ?_)
      rw [if_pos h7, nN_nI (by omega), if_pos hle]
      exact hr
    · have hle : ¬ f + k ≤ 50 := by
        rw [nI_ltI (by omega) (by omega)] at h27; omega
      refine er_loc (pc' := 31) rfl rfl rfl ?_
      refine er_k (pc' := 32) (nI 4) rfl rfl rfl ?_
      refine er_cIz (pc' := 35) (rest := []) 11 rfl rfl rfl rfl rfl rfl (l_error _ _ _ 4 (by decide)) ?_
      intro Z9
      refine er_iret rfl rfl ?_
      rw [if_pos h7, nN_nI (by omega), if_neg hle]
      exact RI_of rfl rfl
  · refine er_loc (pc' := 11) rfl rfl rfl ?_
    refine er_k (pc' := 12) (nI 1) rfl rfl rfl ?_
    refine er_cIz (pc' := 15) (rest := []) 11 rfl rfl rfl rfl rfl rfl (l_error _ _ _ 1 (by decide)) ?_
    intro Z9
    refine er_iret rfl rfl ?_
    rw [if_neg (by rw [h7]; decide)]
    exact RI_of rfl rfl
def sLow (v b : Int32) : Int32 := if b = nI 8 then v &&& nI 255 else if b = nI 16 then v &&& 65535 else v
def sStand (g : Nat) (i n : Int32) : Bool := sIn i (nI 0) (nI g) && sIn n (nI 0) (nI g - i)
set_option maxRecDepth 100000 in
set_option maxHeartbeats 4000000 in
theorem l_lowestBits (d : Nat) (v b : Int32) (w : ab_W) : EC (d + 1) 114 [.int v, .int b] w (PI (sLow v b) w) := by
  refine er_enter (L := [(0, _), (1, _)]) rfl rfl rfl ?_
  refine er_loc (pc' := 1) rfl rfl rfl ?_
  refine er_k (pc' := 3) (nI 8) rfl rfl rfl ?_
  refine er_cm_ne (pc' := 6) rfl rfl (fun h3 => ?_) (fun h3 => ?_)
  · refine er_loc (pc' := 13) rfl rfl rfl ?_
    refine er_k (pc' := 15) (nI 16) rfl rfl rfl ?_
    refine er_cm_ne (pc' := 18) rfl rfl (fun h15 => ?_) (fun h15 => ?_)
    · refine er_loc (pc' := 27) rfl rfl rfl ?_
      refine er_iret rfl rfl ?_
      refine PI_of ?_
      unfold sLow
      first | rw [if_pos h3] | rw [if_neg h3, if_pos h15] | rw [if_neg h3, if_neg h15]
    · refine er_loc (pc' := 19) rfl rfl rfl ?_
      refine er_ldc (pc' := 22) (65535) rfl rfl rfl rfl rfl ?_
      refine er_iand (pc' := 23) rfl rfl ?_
      refine er_goto rfl ?_
      refine er_iret rfl rfl ?_
      refine PI_of ?_
      unfold sLow
      first | rw [if_pos h3] | rw [if_neg h3, if_pos h15] | rw [if_neg h3, if_neg h15]
  · refine er_loc (pc' := 7) rfl rfl rfl ?_
    refine er_k (pc' := 10) (nI 255) rfl rfl rfl ?_
    refine er_iand (pc' := 11) rfl rfl ?_
    refine er_iret rfl rfl ?_
    refine PI_of ?_
    unfold sLow
    first | rw [if_pos h3] | rw [if_neg h3, if_pos h15] | rw [if_neg h3, if_neg h15]
set_option maxRecDepth 100000 in
set_option maxHeartbeats 4000000 in
theorem l_put_no (d : Nat) (X Z : Nat → Nat → Int32) (s i v : Int32) (hs : sIn s (nI 0) (nI 3) = false) : EC (d + 3) 113 [.ref 0, .int s, .int i, .int v] (Wd X Z) (RI (sErr 1) (xErr X 1)) := by
  refine er_enter (L := [(0, _), (1, _), (2, _), (3, _)]) rfl rfl rfl ?_
  refine er_loc (pc' := 1) rfl rfl rfl ?_
  refine er_cSi (pc' := 4) (rest := []) rfl rfl rfl (l_xSheet _ _ _) ?_
  rw [hs]
  refine er_if_neF (pc' := 7) rfl (by decide +kernel) rfl ?_
  refine er_loc (pc' := 8) rfl rfl rfl ?_
  refine er_k (pc' := 9) (nI 1) rfl rfl rfl ?_
  refine er_cIz (pc' := 12) (rest := []) 11 rfl rfl rfl rfl rfl rfl (l_error _ _ _ 1 (by decide)) ?_
  intro Z9
  refine er_iret rfl rfl ?_
  exact RI_of rfl rfl
set_option maxRecDepth 100000 in
set_option maxHeartbeats 4000000 in
theorem l_put (d : Nat) (X Z : Nat → Nat → Int32) {a : Nat} (ha : a < 4) (i v : Int32) {g : Nat} (hg : X 59 a = nI g) (h40 : g ≤ 40) : EC (d + 3) 113 [.ref 0, .int (nI a), .int i, .int v] (Wd X Z) (fun r => if X 60 a = 0 then RI (sErr 2) (xErr X 2) r else if sIn i (nI 0) (nI g - nI 1) = true then RI (nI 1) (ud X (55 + a) (nN i) (sLow v (X 60 a))) r else RI (sErr 1) (xErr X 1) r) := by
  refine er_enter (L := [(0, _), (1, _), (2, _), (3, _)]) rfl rfl rfl ?_
  refine er_loc (pc' := 1) rfl rfl rfl ?_
  refine er_cSi (pc' := 4) (rest := []) rfl rfl rfl (l_xSheet _ _ _) ?_
  rw [show sIn (nI a) (nI 0) (nI 3) = true from sIn_t (by omega) (by omega) (by omega)]
  refine er_if_neT rfl (by decide +kernel) ?_
  refine er_loc (pc' := 14) rfl rfl rfl ?_
  refine er_gf (pc' := 17) (_) rfl rfl rfl rfl rfl ?_
  refine er_loc (pc' := 18) rfl rfl rfl ?_
  refine er_ia (pc' := 19) (a) rfl rfl rfl rfl ha rfl rfl ?_
  refine er_if_ne (pc' := 22) rfl rfl (fun h19 => ?_) (fun h19 => ?_)
  · refine er_loc (pc' := 29) rfl rfl rfl ?_
    refine er_k (pc' := 30) (nI 0) rfl rfl rfl ?_
    refine er_loc (pc' := 31) rfl rfl rfl ?_
    refine er_gf (pc' := 34) (_) rfl rfl rfl rfl rfl ?_
    refine er_loc (pc' := 35) rfl rfl rfl ?_
    refine er_ia (pc' := 36) (a) rfl rfl rfl rfl ha rfl rfl ?_
    rw [hg]
    refine er_k (pc' := 37) (nI 1) rfl rfl rfl ?_
    refine er_isub (pc' := 38) rfl rfl ?_
    refine er_cSi (pc' := 41) (rest := []) rfl rfl rfl (l_within _ _ _ _ _) ?_
    refine er_if_neb (pc' := 44) rfl rfl (fun h41 => ?_) (fun h41 => ?_)
    · obtain ⟨j, hj, hij⟩ := sIn_lt (by omega) h41
      have hkn : i = nI (nN i) := by rw [hij, nN_nI (by omega)]
      have hnj : nN i = j := by rw [hij]; exact nN_nI (by omega)
      refine er_loc (pc' := 51) rfl rfl rfl ?_
      refine er_gf (pc' := 54) (_) rfl rfl rfl rfl rfl ?_
      refine er_loc (pc' := 55) rfl rfl rfl ?_
      refine er_aa (pc' := 56) (a) rfl rfl rfl rfl rfl ha rfl rfl ?_
      refine er_loc (pc' := 57) rfl rfl rfl ?_
      refine er_loc (pc' := 58) rfl rfl rfl ?_
      refine er_loc (pc' := 59) rfl rfl rfl ?_
      refine er_gf (pc' := 62) (_) rfl rfl rfl rfl rfl ?_
      refine er_loc (pc' := 63) rfl rfl rfl ?_
      refine er_ia (pc' := 64) (a) rfl rfl rfl rfl ha rfl rfl ?_
      refine er_cSi (pc' := 67) (rest := [_, _]) rfl rfl rfl (l_lowestBits _ _ _ _) ?_
      refine er_isX (pc' := 68) (nN i) rfl (blt_R ha) (fun f => cO_R ha f _) hkn (by omega) rfl rfl ?_
      refine er_k (pc' := 69) (nI 1) rfl rfl rfl ?_
      refine er_iret rfl rfl ?_
      rw [if_neg h19, if_pos h41]
      exact RI_of rfl rfl
    · refine er_loc (pc' := 45) rfl rfl rfl ?_
      refine er_k (pc' := 46) (nI 1) rfl rfl rfl ?_
      refine er_cIz (pc' := 49) (rest := []) 11 rfl rfl rfl rfl rfl rfl (l_error _ _ _ 1 (by decide)) ?_
      intro Z9
      refine er_iret rfl rfl ?_
      rw [if_neg h19, if_neg (by rw [h41]; decide)]
      exact RI_of rfl rfl
  · refine er_loc (pc' := 23) rfl rfl rfl ?_
    refine er_k (pc' := 24) (nI 2) rfl rfl rfl ?_
    refine er_cIz (pc' := 27) (rest := []) 11 rfl rfl rfl rfl rfl rfl (l_error _ _ _ 2 (by decide)) ?_
    intro Z9
    refine er_iret rfl rfl ?_
    rw [if_pos h19]
    exact RI_of rfl rfl
set_option maxRecDepth 100000 in
set_option maxHeartbeats 4000000 in
theorem l_standThere (d : Nat) (X Z : Nat → Nat → Int32) {a : Nat} (ha : a < 4) (i n : Int32) {g : Nat} (hg : X 59 a = nI g) : EC (d + 2) 116 [.ref 0, .int (nI a), .int i, .int n] (Wd X Z) (PI (bI (sStand g i n)) (Wd X Z)) := by
  refine er_enter (L := [(0, _), (1, _), (2, _), (3, _)]) rfl rfl rfl ?_
  refine er_loc (pc' := 1) rfl rfl rfl ?_
  refine er_k (pc' := 2) (nI 0) rfl rfl rfl ?_
  refine er_loc (pc' := 3) rfl rfl rfl ?_
  refine er_gf (pc' := 6) (_) rfl rfl rfl rfl rfl ?_
  refine er_loc (pc' := 7) rfl rfl rfl ?_
  refine er_ia (pc' := 8) (a) rfl rfl rfl rfl ha rfl rfl ?_
  rw [hg]
  refine er_cSi (pc' := 11) (rest := []) rfl rfl rfl (l_within _ _ _ _ _) ?_
  refine er_if_eqb (pc' := 14) rfl rfl (fun h11 => ?_) (fun h11 => ?_)
  · refine er_k (pc' := 35) (nI 0) rfl rfl rfl ?_
    refine er_ret _ rfl rfl ?_
    exact PI_of (bI_eq0 (by unfold sStand; simp [*]))
  · refine er_loc (pc' := 15) rfl rfl rfl ?_
    refine er_k (pc' := 16) (nI 0) rfl rfl rfl ?_
    refine er_loc (pc' := 17) rfl rfl rfl ?_
    refine er_gf (pc' := 20) (_) rfl rfl rfl rfl rfl ?_
    refine er_loc (pc' := 21) rfl rfl rfl ?_
    refine er_ia (pc' := 22) (a) rfl rfl rfl rfl ha rfl rfl ?_
    rw [hg]
    refine er_loc (pc' := 23) rfl rfl rfl ?_
    refine er_isub (pc' := 24) rfl rfl ?_
    refine er_cSi (pc' := 27) (rest := []) rfl rfl rfl (l_within _ _ _ _ _) ?_
    refine er_if_eqb (pc' := 30) rfl rfl (fun h27 => ?_) (fun h27 => ?_)
    · refine er_k (pc' := 35) (nI 0) rfl rfl rfl ?_
      refine er_ret _ rfl rfl ?_
      exact PI_of (bI_eq0 (by unfold sStand; simp [*]))
    · refine er_k (pc' := 31) (nI 1) rfl rfl rfl ?_
      refine er_goto rfl ?_
      refine er_ret _ rfl rfl ?_
      exact PI_of (bI_eq1 (by unfold sStand; simp [*]))
set_option maxRecDepth 100000 in
set_option maxHeartbeats 4000000 in
theorem l_move_no (d : Nat) (X Z : Nat → Nat → Int32) (s i p j n : Int32) (hs : (sIn s (nI 0) (nI 3) && sIn p (nI 0) (nI 3)) = false) : EC (d + 3) 115 [.ref 0, .int s, .int i, .int p, .int j, .int n] (Wd X Z) (RI (sErr 1) (xErr X 1)) := by
  refine er_enter (L := [(0, _), (1, _), (2, _), (3, _), (4, _), (5, _)]) rfl rfl rfl ?_
  refine er_loc (pc' := 1) rfl rfl rfl ?_
  refine er_cSi (pc' := 4) (rest := []) rfl rfl rfl (l_xSheet _ _ _) ?_
  refine er_if_eqb (pc' := 7) rfl rfl (fun h4 => ?_) (fun h4 => ?_)
  · refine er_loc (pc' := 15) rfl rfl rfl ?_
    refine er_k (pc' := 16) (nI 1) rfl rfl rfl ?_
    refine er_cIz (pc' := 19) (rest := []) 11 rfl rfl rfl rfl rfl rfl (l_error _ _ _ 1 (by decide)) ?_
    intro Z9
    refine er_iret rfl rfl ?_
    exact RI_of rfl rfl
  · refine er_loc (pc' := 8) rfl rfl rfl ?_
    refine er_cSi (pc' := 11) (rest := []) rfl rfl rfl (l_xSheet _ _ _) ?_
    refine er_if_neb (pc' := 14) rfl rfl (fun h11 => ?_) (fun h11 => ?_)
    · exfalso; rw [h4, h11] at hs; cases hs
    · refine er_loc (pc' := 15) rfl rfl rfl ?_
      refine er_k (pc' := 16) (nI 1) rfl rfl rfl ?_
      refine er_cIz (pc' := 19) (rest := []) 11 rfl rfl rfl rfl rfl rfl (l_error _ _ _ 1 (by decide)) ?_
      intro Z9
      refine er_iret rfl rfl ?_
      exact RI_of rfl rfl
set_option maxRecDepth 100000 in
set_option maxHeartbeats 4000000 in
theorem l_move (d : Nat) (X Z : Nat → Nat → Int32) {a : Nat} (ha : a < 4) {p : Nat} (hp : p < 4) (i j n : Int32) {g e : Nat} (hg : X 59 a = nI g) (h40 : g ≤ 40) (he : X 59 p = nI e) (h40e : e ≤ 40) : EC (d + 3) 115 [.ref 0, .int (nI a), .int i, .int (nI p), .int j, .int n] (Wd X Z) (fun r => if X 60 a = 0 ∨ X 60 p = 0 then RI (sErr 2) (xErr X 2) r else if X 60 a = X 60 p then (if (sStand g i n && sStand e j n) = true then RI n (uc X (55 + p) (cpf (X (55 + a)) (X (55 + p)) (nN i) (nN j) (nN n))) r else RI (sErr 1) (xErr X 1) r) else RI (sErr 5) (xErr X 5) r) := by
  refine er_enter (L := [(0, _), (1, _), (2, _), (3, _), (4, _), (5, _)]) rfl rfl rfl ?_
  refine er_loc (pc' := 1) rfl rfl rfl ?_
  refine er_cSi (pc' := 4) (rest := []) rfl rfl rfl (l_xSheet _ _ _) ?_
  rw [show sIn (nI a) (nI 0) (nI 3) = true from sIn_t (by omega) (by omega) (by omega)]
  refine er_if_eqF (pc' := 7) rfl (by decide +kernel) rfl ?_
  refine er_loc (pc' := 8) rfl rfl rfl ?_
  refine er_cSi (pc' := 11) (rest := []) rfl rfl rfl (l_xSheet _ _ _) ?_
  rw [show sIn (nI p) (nI 0) (nI 3) = true from sIn_t (by omega) (by omega) (by omega)]
  refine er_if_neT rfl (by decide +kernel) ?_
  refine er_loc (pc' := 21) rfl rfl rfl ?_
  refine er_gf (pc' := 24) (_) rfl rfl rfl rfl rfl ?_
  refine er_loc (pc' := 25) rfl rfl rfl ?_
  refine er_ia (pc' := 26) (a) rfl rfl rfl rfl ha rfl rfl ?_
  refine er_if_eq (pc' := 29) rfl rfl (fun h26 => ?_) (fun h26 => ?_)
  · refine er_loc (pc' := 39) rfl rfl rfl ?_
    refine er_k (pc' := 40) (nI 2) rfl rfl rfl ?_
    refine er_cIz (pc' := 43) (rest := []) 11 rfl rfl rfl rfl rfl rfl (l_error _ _ _ 2 (by decide)) ?_
    intro Z9
    refine er_iret rfl rfl ?_
    rw [if_pos (by first | exact Or.inl h26 | exact Or.inr h35)]
    exact RI_of rfl rfl
  · refine er_loc (pc' := 30) rfl rfl rfl ?_
    refine er_gf (pc' := 33) (_) rfl rfl rfl rfl rfl ?_
    refine er_loc (pc' := 34) rfl rfl rfl ?_
    refine er_ia (pc' := 35) (p) rfl rfl rfl rfl hp rfl rfl ?_
    refine er_if_ne (pc' := 38) rfl rfl (fun h35 => ?_) (fun h35 => ?_)
    · refine er_loc (pc' := 45) rfl rfl rfl ?_
      refine er_gf (pc' := 48) (_) rfl rfl rfl rfl rfl ?_
      refine er_loc (pc' := 49) rfl rfl rfl ?_
      refine er_ia (pc' := 50) (a) rfl rfl rfl rfl ha rfl rfl ?_
      refine er_loc (pc' := 51) rfl rfl rfl ?_
      refine er_gf (pc' := 54) (_) rfl rfl rfl rfl rfl ?_
      refine er_loc (pc' := 55) rfl rfl rfl ?_
      refine er_ia (pc' := 56) (p) rfl rfl rfl rfl hp rfl rfl ?_
      refine er_cm_eq (pc' := 59) rfl rfl (fun h56 => ?_) (fun h56 => ?_)
      · refine er_loc (pc' := 66) rfl rfl rfl ?_
        refine er_loc (pc' := 67) rfl rfl rfl ?_
        refine er_loc (pc' := 68) rfl rfl rfl ?_
        refine er_loc (pc' := 70) rfl rfl rfl ?_
        refine er_cIi (pc' := 73) (rest := []) 11 rfl rfl rfl rfl rfl rfl (l_standThere _ _ _ ha _ _ hg) ?_
        refine er_if_eqb (pc' := 76) rfl rfl (fun h73 => ?_) (fun h73 => ?_)
        · refine er_loc (pc' := 89) rfl rfl rfl ?_
          refine er_k (pc' := 90) (nI 1) rfl rfl rfl ?_
          refine er_cIz (pc' := 93) (rest := []) 11 rfl rfl rfl rfl rfl rfl (l_error _ _ _ 1 (by decide)) ?_
          intro Z9
          refine er_iret rfl rfl ?_
          rw [if_neg (fun c => c.elim h26 h35), if_pos h56, if_neg (by first | (rw [h73]; simp; done) | (rw [h73, h85]; simp; done))]
          exact RI_of rfl rfl
        · refine er_loc (pc' := 77) rfl rfl rfl ?_
          refine er_loc (pc' := 78) rfl rfl rfl ?_
          refine er_loc (pc' := 80) rfl rfl rfl ?_
          refine er_loc (pc' := 82) rfl rfl rfl ?_
          refine er_cIi (pc' := 85) (rest := []) 11 rfl rfl rfl rfl rfl rfl (l_standThere _ _ _ hp _ _ he) ?_
          refine er_if_neb (pc' := 88) rfl rfl (fun h85 => ?_) (fun h85 => ?_)
          · have e1 := h73
            have e2 := h85
            unfold sStand at e1 e2
            rw [Bool.and_eq_true] at e1 e2
            obtain ⟨i', _, hi1, hi2⟩ := sIn_ex (by omega) (by omega) e1.1
            obtain ⟨j', _, hj1, hj2⟩ := sIn_ex (by omega) (by omega) e2.1
            subst hi2
            subst hj2
            rw [nI_sub hi1] at e1
            rw [nI_sub hj1] at e2
            obtain ⟨n', _, hn1, hn2⟩ := sIn_ex (by omega) (by omega) e1.2
            subst hn2
            obtain ⟨n2, _, hm1, hm2⟩ := sIn_ex (by omega) (by omega) e2.2
            have hnn : n' = n2 := (nI_eq (by omega) (by omega)).mp hm2
            refine er_loc (pc' := 95) rfl rfl rfl ?_
            refine er_gf (pc' := 98) (_) rfl rfl rfl rfl rfl ?_
            refine er_loc (pc' := 99) rfl rfl rfl ?_
            refine er_aa (pc' := 100) (a) rfl rfl rfl rfl rfl ha rfl rfl ?_
            refine er_loc (pc' := 101) rfl rfl rfl ?_
            refine er_loc (pc' := 102) rfl rfl rfl ?_
            refine er_gf (pc' := 105) (_) rfl rfl rfl rfl rfl ?_
            refine er_loc (pc' := 106) rfl rfl rfl ?_
            refine er_aa (pc' := 107) (p) rfl rfl rfl rfl rfl hp rfl rfl ?_
            refine er_loc (pc' := 109) rfl rfl rfl ?_
            refine er_loc (pc' := 111) rfl rfl rfl ?_
            refine er_cpX (pc' := 114) (i') (j') (n') rfl rfl rfl (blt_R ha) (blt_R hp) (cO_R ha _ _) (fun f => cO_R hp f _) rfl rfl rfl (by omega) (by omega) rfl rfl ?_
            refine er_loc (pc' := 116) rfl rfl rfl ?_
            refine er_iret rfl rfl ?_
            rw [if_neg (fun c => c.elim h26 h35), if_pos h56, if_pos (by rw [h73, h85]; rfl), nN_nI (by omega), nN_nI (by omega), nN_nI (by omega)]
            exact RI_of rfl rfl
          · refine er_loc (pc' := 89) rfl rfl rfl ?_
            refine er_k (pc' := 90) (nI 1) rfl rfl rfl ?_
            refine er_cIz (pc' := 93) (rest := []) 11 rfl rfl rfl rfl rfl rfl (l_error _ _ _ 1 (by decide)) ?_
            intro Z9
            refine er_iret rfl rfl ?_
            rw [if_neg (fun c => c.elim h26 h35), if_pos h56, if_neg (by first | (rw [h73]; simp; done) | (rw [h73, h85]; simp; done))]
            exact RI_of rfl rfl
      · refine er_loc (pc' := 60) rfl rfl rfl ?_
        refine er_k (pc' := 61) (nI 5) rfl rfl rfl ?_
        refine er_cIz (pc' := 64) (rest := []) 11 rfl rfl rfl rfl rfl rfl (l_error _ _ _ 5 (by decide)) ?_
        intro Z9
        refine er_iret rfl rfl ?_
        rw [if_neg (fun c => c.elim h26 h35), if_neg h56]
        exact RI_of rfl rfl
    · refine er_loc (pc' := 39) rfl rfl rfl ?_
      refine er_k (pc' := 40) (nI 2) rfl rfl rfl ?_
      refine er_cIz (pc' := 43) (rest := []) 11 rfl rfl rfl rfl rfl rfl (l_error _ _ _ 2 (by decide)) ?_
      intro Z9
      refine er_iret rfl rfl ?_
      rw [if_pos (by first | exact Or.inl h26 | exact Or.inr h35)]
      exact RI_of rfl rfl
