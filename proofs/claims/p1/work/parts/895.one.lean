theorem lx_ixv {xs : List Int32} {v : Int32} {i : Nat} (hv : v = nI i) (h : i < xs.length) (hi : i < 2 ^ 31) : ab_ix xs v = some (xs.getD i 0) := by
  subst hv
  exact lx_ix h hi
theorem lx_get5 {xs : List Int32} {i : Nat} {v : Int32} (hi : i < 100) : (xs.set ((Int8.ofInt 55).toInt32 + nI i).toNatClampNeg v).getD 5 0 = xs.getD 5 0 := by
  rw [show ((Int8.ofInt 55).toInt32 + nI i).toNatClampNeg = 55 + i by rw [show (Int8.ofInt 55).toInt32 + nI i = nI (55 + i) from nI_add 55 i, nI_clamp (by omega)]]
  rw [List.getD_eq_getElem?_getD, List.getD_eq_getElem?_getD, List.getElem?_set_ne (by omega)]
theorem lx_get5s {xs : List Int32} {v : Int32} (h : 5 < xs.length) : (xs.set (5 : Int32).toNatClampNeg v).getD 5 0 = v := by
  rw [show (5 : Int32).toNatClampNeg = 5 by decide, List.getD_eq_getElem?_getD, List.getElem?_set_self h]
  rfl
/-- the fresh world with a tape and its length -/
def lx_fA (t : List Int32) (f : Int32) : ab_W := (lx_w2.set 20 (.inr (.inl t))).set 9 (.inl (7, [.ref 1, .int 0, .ref 10, .ref 11, .ref 12, .ref 13, .int 0, .int 0, .int 1, .int 50, .int 0, .ref 14, .ref 17, .ref 20, .int f, .ref 21, .int 0, .int 1]))
theorem lx_fA_set (t t2 : List Int32) (f g : Int32) : ((lx_fA t f).set 20 (.inr (.inl t2))).set 9 (.inl (7, [.ref 1, .int 0, .ref 10, .ref 11, .ref 12, .ref 13, .int 0, .int 0, .int 1, .int 50, .int 0, .ref 14, .ref 17, .ref 20, .int g, .ref 21, .int 0, .int 1])) = lx_fA t2 g := by
  unfold lx_fA
  rw [List.set_comm _ _ (by decide : (9 : Nat) ≠ 20), List.set_set, List.set_set]
theorem lx_fA0 : lx_fA (List.replicate 50 0) (nI 0) = lx_w2 := by
  unfold lx_fA
  rw [lx_set_id (w := lx_w2) (r := 20) rfl]
  exact lx_set_id rfl
set_option maxRecDepth 100000 in
set_option maxHeartbeats 4000000 in
theorem lx_fx {d n : Nat} {y : Int64} (hn : n ≤ 8) : ∀ (m i : Nat) (x : Int32) (t : List Int32) (W : ab_W), i + m = n → x = nI i → t.length = 50 → W = lx_fA t (nI i) → ∃ t' : List Int32, ev_Run tb [lx_above] [lx_above] d tb_m87 (39, [(4, .int x), (0, .ref 0), (1, .long y), (3, .int (nI n))], [], W, 0, 0) (some (.int (nI n)), lx_fA t' (nI n))
  | 0, i, x, t, W, hi, hx, ht, hW => by
    subst hx
    subst hW
    have hi : i = n := by omega
    subst hi
    apply Exists.intro
    first | refine ev_loc rfl rfl ?_ | refine ev_pure rfl rfl ?_ | refine ev_heap rfl rfl ?_
    first | refine ev_loc rfl rfl ?_ | refine ev_pure rfl rfl ?_ | refine ev_heap rfl rfl ?_
    refine ev_cmT rfl (decide_eq_true (Int32.le_refl (nI i))) ?_
    first | refine ev_loc rfl rfl ?_ | refine ev_pure rfl rfl ?_ | refine ev_heap rfl rfl ?_
    first | refine ev_loc rfl rfl ?_ | refine ev_pure rfl rfl ?_ | refine ev_heap rfl rfl ?_
    first | refine ev_loc rfl rfl ?_ | refine ev_pure rfl rfl ?_ | refine ev_heap rfl rfl ?_
    exact ev_ret rfl rfl
  | m + 1, i, x, t, W, hi, hx, ht, hW => by
    subst hx
    subst hW
    apply Exists.intro
    first | refine ev_loc rfl rfl ?_ | refine ev_pure rfl rfl ?_ | refine ev_heap rfl rfl ?_
    first | refine ev_loc rfl rfl ?_ | refine ev_pure rfl rfl ?_ | refine ev_heap rfl rfl ?_
    refine ev_cmF rfl (decide_eq_false (nI_ge (b := n) (by omega) (by omega))) ?_
    first | refine ev_loc rfl rfl ?_ | refine ev_pure rfl rfl ?_ | refine ev_heap rfl rfl ?_
    first | refine ev_loc rfl rfl ?_ | refine ev_pure rfl rfl ?_ | refine ev_heap rfl rfl ?_
    first | refine ev_loc rfl rfl ?_ | refine ev_pure rfl rfl ?_ | refine ev_heap rfl rfl ?_
    first | refine ev_loc rfl rfl ?_ | refine ev_pure rfl rfl ?_ | refine ev_heap rfl rfl ?_
    first | refine ev_loc rfl rfl ?_ | refine ev_pure rfl rfl ?_ | refine ev_heap rfl rfl ?_
    first | refine ev_loc rfl rfl ?_ | refine ev_pure rfl rfl ?_ | refine ev_heap rfl rfl ?_
    first | refine ev_loc rfl rfl ?_ | refine ev_pure rfl rfl ?_ | refine ev_heap rfl rfl ?_
    first | refine ev_loc rfl rfl ?_ | refine ev_pure rfl rfl ?_ | refine ev_heap rfl rfl ?_
    first | refine ev_loc rfl rfl ?_ | refine ev_pure rfl rfl ?_ | refine ev_heap rfl rfl ?_
    first | refine ev_loc rfl rfl ?_ | refine ev_pure rfl rfl ?_ | refine ev_heap rfl rfl ?_
    first | refine ev_loc rfl rfl ?_ | refine ev_pure rfl rfl ?_ | refine ev_heap rfl rfl ?_
    first | refine ev_loc rfl rfl ?_ | refine ev_pure rfl rfl ?_ | refine ev_heap rfl rfl ?_
    first | refine ev_loc rfl rfl ?_ | refine ev_pure rfl rfl ?_ | refine ev_heap rfl rfl ?_
    first | refine ev_loc rfl rfl ?_ | refine ev_pure rfl rfl ?_ | refine ev_heap rfl rfl ?_
    refine ev_ast rfl rfl (lx_ix (by omega) (by omega)) ?_
    first | refine ev_loc rfl rfl ?_ | refine ev_pure rfl rfl ?_ | refine ev_heap rfl rfl ?_
    first | refine ev_loc rfl rfl ?_ | refine ev_pure rfl rfl ?_ | refine ev_heap rfl rfl ?_
    first | refine ev_loc rfl rfl ?_ | refine ev_pure rfl rfl ?_ | refine ev_heap rfl rfl ?_
    first | refine ev_loc rfl rfl ?_ | refine ev_pure rfl rfl ?_ | refine ev_heap rfl rfl ?_
    first | refine ev_loc rfl rfl ?_ | refine ev_pure rfl rfl ?_ | refine ev_heap rfl rfl ?_
    first | refine ev_loc rfl rfl ?_ | refine ev_pure rfl rfl ?_ | refine ev_heap rfl rfl ?_
    first | refine ev_loc rfl rfl ?_ | refine ev_pure rfl rfl ?_ | refine ev_heap rfl rfl ?_
    first | refine ev_loc rfl rfl ?_ | refine ev_pure rfl rfl ?_ | refine ev_heap rfl rfl ?_
    refine ev_goto rfl ?_
    refine (lx_fx hn m (i + 1) _ (t.set (nI i).toNatClampNeg ((y.toUInt64 >>> (((Int8.ofInt 8).toInt32 * nI i).toInt64.toUInt64 &&& Int64.toUInt64 63)).toInt64.toInt32 &&& (Int16.ofInt 255).toInt32)) _ (by omega) (nI_1 i) (by rw [List.length_set]; exact ht) ?_).choose_spec
    exact (lx_fA_set t _ (nI i) (nI i + 1)).trans (by rw [nI_1])
set_option maxRecDepth 100000 in
set_option maxHeartbeats 4000000 in
theorem lx_fm {d n : Nat} {y : Int64} {t : List Int32} {g : Int32} (hn : n ≤ 8) : ∀ (m i : Nat) (x : Int32) (xs : List Int32) (W : ab_W), i + m = n → x = nI i → xs.length = 327 → xs.getD 5 0 = nI i → W = (lx_fA t g).set 64 (.inr (.inl xs)) → ∃ w : ab_W, ev_Run tb [lx_above] [lx_above] d tb_m151 (40, [(4, .int x), (0, .ref 63), (1, .long y), (3, .int (nI n))], [], W, 0, 0) (some (.int (nI n)), w)
  | 0, i, x, xs, W, hi, hx, ht, h5, hW => by
    subst hx
    subst hW
    have hi : i = n := by omega
    subst hi
    apply Exists.intro
    first | refine ev_loc rfl rfl ?_ | refine ev_pure rfl rfl ?_ | refine ev_heap rfl rfl ?_
    first | refine ev_loc rfl rfl ?_ | refine ev_pure rfl rfl ?_ | refine ev_heap rfl rfl ?_
    refine ev_cmT rfl (decide_eq_true (Int32.le_refl (nI i))) ?_
    first | refine ev_loc rfl rfl ?_ | refine ev_pure rfl rfl ?_ | refine ev_heap rfl rfl ?_
    first | refine ev_loc rfl rfl ?_ | refine ev_pure rfl rfl ?_ | refine ev_heap rfl rfl ?_
    first | refine ev_loc rfl rfl ?_ | refine ev_pure rfl rfl ?_ | refine ev_heap rfl rfl ?_
    refine ev_ald rfl (lx_arr rfl) (lx_ixv (i := 5) (by decide) (by omega) (by omega)) ?_
    rw [h5]
    exact ev_ret rfl rfl
  | m + 1, i, x, xs, W, hi, hx, ht, h5, hW => by
    subst hx
    subst hW
    apply Exists.intro
    first | refine ev_loc rfl rfl ?_ | refine ev_pure rfl rfl ?_ | refine ev_heap rfl rfl ?_
    first | refine ev_loc rfl rfl ?_ | refine ev_pure rfl rfl ?_ | refine ev_heap rfl rfl ?_
    refine ev_cmF rfl (decide_eq_false (nI_ge (b := n) (by omega) (by omega))) ?_
    first | refine ev_loc rfl rfl ?_ | refine ev_pure rfl rfl ?_ | refine ev_heap rfl rfl ?_
    first | refine ev_loc rfl rfl ?_ | refine ev_pure rfl rfl ?_ | refine ev_heap rfl rfl ?_
    first | refine ev_loc rfl rfl ?_ | refine ev_pure rfl rfl ?_ | refine ev_heap rfl rfl ?_
    first | refine ev_loc rfl rfl ?_ | refine ev_pure rfl rfl ?_ | refine ev_heap rfl rfl ?_
    first | refine ev_loc rfl rfl ?_ | refine ev_pure rfl rfl ?_ | refine ev_heap rfl rfl ?_
    first | refine ev_loc rfl rfl ?_ | refine ev_pure rfl rfl ?_ | refine ev_heap rfl rfl ?_
    refine ev_ald rfl (lx_arr rfl) (lx_ixv (i := 5) (by decide) (by omega) (by omega)) ?_
    rw [h5]
    first | refine ev_loc rfl rfl ?_ | refine ev_pure rfl rfl ?_ | refine ev_heap rfl rfl ?_
    first | refine ev_loc rfl rfl ?_ | refine ev_pure rfl rfl ?_ | refine ev_heap rfl rfl ?_
    first | refine ev_loc rfl rfl ?_ | refine ev_pure rfl rfl ?_ | refine ev_heap rfl rfl ?_
    first | refine ev_loc rfl rfl ?_ | refine ev_pure rfl rfl ?_ | refine ev_heap rfl rfl ?_
    first | refine ev_loc rfl rfl ?_ | refine ev_pure rfl rfl ?_ | refine ev_heap rfl rfl ?_
    first | refine ev_loc rfl rfl ?_ | refine ev_pure rfl rfl ?_ | refine ev_heap rfl rfl ?_
    first | refine ev_loc rfl rfl ?_ | refine ev_pure rfl rfl ?_ | refine ev_heap rfl rfl ?_
    first | refine ev_loc rfl rfl ?_ | refine ev_pure rfl rfl ?_ | refine ev_heap rfl rfl ?_
    first | refine ev_loc rfl rfl ?_ | refine ev_pure rfl rfl ?_ | refine ev_heap rfl rfl ?_
    refine ev_ast rfl rfl (lx_ixv (i := 55 + i) (nI_add 55 i) (by omega) (by omega)) ?_
    first | refine ev_loc rfl rfl ?_ | refine ev_pure rfl rfl ?_ | refine ev_heap rfl rfl ?_
    first | refine ev_loc rfl rfl ?_ | refine ev_pure rfl rfl ?_ | refine ev_heap rfl rfl ?_
    first | refine ev_loc rfl rfl ?_ | refine ev_pure rfl rfl ?_ | refine ev_heap rfl rfl ?_
    first | refine ev_loc rfl rfl ?_ | refine ev_pure rfl rfl ?_ | refine ev_heap rfl rfl ?_
    refine ev_ald rfl (lx_arr rfl) (lx_ixv (i := 5) (by decide) (by rw [List.length_set]; omega) (by omega)) ?_
    rw [lx_get5 (by omega), h5]
    first | refine ev_loc rfl rfl ?_ | refine ev_pure rfl rfl ?_ | refine ev_heap rfl rfl ?_
    first | refine ev_loc rfl rfl ?_ | refine ev_pure rfl rfl ?_ | refine ev_heap rfl rfl ?_
    refine ev_ast rfl rfl (lx_ixv (i := 5) (by decide) (by rw [List.length_set]; omega) (by omega)) ?_
    first | refine ev_loc rfl rfl ?_ | refine ev_pure rfl rfl ?_ | refine ev_heap rfl rfl ?_
    refine ev_goto rfl ?_
    refine (lx_fm (t := t) (g := g) hn m (i + 1) _ ((xs.set ((Int8.ofInt 55).toInt32 + nI i).toNatClampNeg (y >>> (((Int8.ofInt 8).toInt32 * nI i).toInt64 &&& 63) &&& 255).toInt32).set (5 : Int32).toNatClampNeg (nI i + 1)) _ (by omega) (nI_1 i) (by rw [List.length_set, List.length_set]; exact ht) ?_ ?_).choose_spec
    · rw [← nI_1]
      exact lx_get5s (by rw [List.length_set, ht]; decide)
    · exact (List.set_set ..).trans (List.set_set ..)
set_option maxRecDepth 100000 in
set_option maxHeartbeats 4000000 in
theorem lx_k_feed {j : Nat} {y : Int64} (q1 : 1 ≤ j) (q8 : j ≤ 8) : lx_like 87 151 [.long y, .int (nI j)] := by
  have h1 : decide (nI j < 1) = false := decide_eq_false (nI_nlt (b := 1) q1 (by omega))
  have h2 : decide (8 < nI j) = false := decide_eq_false (nI_nlt (a := 8) q8 (by decide))
  have h3 : decide ((0 : Int32) + nI j ≤ (Int8.ofInt 50).toInt32) = true := by
    rw [show (0 : Int32) + nI j = nI j by rw [Int32.zero_add]]
    exact decide_eq_true (nI_le (b := 50) (by omega) (by decide))
  obtain ⟨t, hx⟩ := lx_fx (d := 99) (y := y) q8 j 0 0 (List.replicate 50 0) lx_w2 (by omega) (by decide) (by rw [List.length_replicate]) lx_fA0.symm
  obtain ⟨w, hm⟩ := lx_fm (d := 99) (y := y) (t := t) (g := nI j) q8 j 0 0 (0 :: 1 :: 0 :: 1 :: 50 :: List.replicate 322 0) (lx_fA t (nI j)) (by omega) (by decide) (by rw [List.length_cons, List.length_cons, List.length_cons, List.length_cons, List.length_cons, List.length_replicate]) (by decide) (lx_set_id rfl).symm
  refine ⟨nI j, lx_fA t (nI j), w, ?_, ?_⟩
  · refine ev_enter rfl rfl ?_
    repeat (first | exact hx | exact ev_ret rfl rfl | refine ev_pure rfl rfl ?_ | refine ev_loc rfl rfl ?_ | refine ev_goto rfl ?_ | refine ev_heap rfl rfl ?_ | refine ev_cmT rfl (by first | exact h3 | rfl | decide) ?_ | refine ev_cmF rfl (by first | exact h3 | rfl | decide) ?_ | refine ev_ifT rfl (by first | exact h3 | rfl | decide) ?_ | refine ev_ifF rfl (by first | exact h3 | rfl | decide) ?_ | refine ev_ask rfl rfl (lx_within_t _ h1 h2) ?_ | refine ev_bi rfl (fun _ => rfl) ?_ | refine ev_enter rfl rfl ?_ | (refine ev_askE rfl rfl ?_; apply Exists.intro; apply Exists.intro; apply And.intro) | refine ev_tab rfl rfl ?_)
  · refine ev_enter rfl rfl ?_
    repeat (first | exact hm | exact ev_ret rfl rfl | refine ev_pure rfl rfl ?_ | refine ev_loc rfl rfl ?_ | refine ev_goto rfl ?_ | refine ev_heap rfl rfl ?_ | refine ev_cmT rfl (by first | exact h3 | rfl | decide) ?_ | refine ev_cmF rfl (by first | exact h3 | rfl | decide) ?_ | refine ev_ifT rfl (by first | exact h3 | rfl | decide) ?_ | refine ev_ifF rfl (by first | exact h3 | rfl | decide) ?_ | refine ev_ask rfl rfl (lx_in_t _ h1 h2) ?_ | refine ev_bi rfl (fun _ => rfl) ?_ | refine ev_enter rfl rfl ?_ | (refine ev_askE rfl rfl ?_; apply Exists.intro; apply Exists.intro; apply And.intro) | refine ev_tab rfl rfl ?_)
set_option maxRecDepth 100000 in
set_option maxHeartbeats 4000000 in
theorem lx_o_feed (y : Int64) (v : Int32) : lx_like 87 151 [.long y, .int v] := by
  by_cases h : decide (v < 1) = false ∧ decide (8 < v) = false
  · obtain ⟨j, h1, hj, rfl⟩ := lx_rng1 8 (by decide) h.1 h.2
    exact lx_k_feed h1 hj
  · have h := lx_out h
    obtain ⟨w, hw⟩ := lx_merr_1 98
    refine ⟨-1000000001, lx_er 1, w, ?_, ?_⟩
    · refine ev_enter rfl rfl ?_
      repeat (first | exact ev_ret rfl rfl | refine ev_pure rfl rfl ?_ | refine ev_loc rfl rfl ?_ | refine ev_goto rfl ?_ | refine ev_heap rfl rfl ?_ | refine ev_cmT rfl (by first | rfl | decide) ?_ | refine ev_cmF rfl (by first | rfl | decide) ?_ | refine ev_ifT rfl (by first | rfl | decide) ?_ | refine ev_ifF rfl (by first | rfl | decide) ?_ | refine ev_ask rfl rfl (lx_within_f _ h) ?_ | refine ev_ask rfl rfl (lx_isSheet_f _ h) ?_ | refine ev_ask rfl rfl (lx_xerr_1 _) ?_ | refine ev_bi rfl (fun _ => rfl) ?_ | refine ev_enter rfl rfl ?_ | (refine ev_askE rfl rfl ?_; apply Exists.intro; apply Exists.intro; apply And.intro) | refine ev_tab rfl rfl ?_)
    · refine ev_enter rfl rfl ?_
      repeat (first | exact ev_ret rfl rfl | refine ev_pure rfl rfl ?_ | refine ev_loc rfl rfl ?_ | refine ev_goto rfl ?_ | refine ev_heap rfl rfl ?_ | refine ev_cmT rfl (by first | rfl | decide) ?_ | refine ev_cmF rfl (by first | rfl | decide) ?_ | refine ev_ifT rfl (by first | rfl | decide) ?_ | refine ev_ifF rfl (by first | rfl | decide) ?_ | refine ev_ask rfl rfl (hw) ?_ | refine ev_ask rfl rfl (lx_in_f _ h) ?_ | refine ev_ask rfl rfl (lx_misSheet_f _ h) ?_ | refine ev_bi rfl (fun _ => rfl) ?_ | refine ev_enter rfl rfl ?_ | (refine ev_askE rfl rfl ?_; apply Exists.intro; apply Exists.intro; apply And.intro) | refine ev_tab rfl rfl ?_)
