/-! copyAll: a row of 327 numbers becomes as another -/
section EX
variable {tb : ab_TB} {M : ab_M} {L : ab_Lo} {st st' : List Value} {w : ab_W} {cn sn : Nat} {sp sp0 : List (List Int32)} {d pc lk r0 : Nat} {r : ab_R}
theorem ev_ald {i v : Int32} {xs : List Int32} (hf : ab_fetch M.2.2.2.2.2.2.2 pc = some (.iaload, lk)) (ha : ab_arr sp w r0 = some xs) (hi : ab_ix xs i = some v) (k : ev_Run tb sp0 sp d M (pc + 1, L, .int v :: st, w, cn, sn) r) : ev_Run tb sp0 sp d M (pc, L, .int i :: .ref r0 :: st, w, cn, sn) r :=
  ev_heap hf (by simp only [ab_heap, ha, hi]) k
theorem ev_ast {i v u : Int32} {xs : List Int32} (hf : ab_fetch M.2.2.2.2.2.2.2 pc = some (.iastore, lk)) (ha : ab_cell w r0 = some (.inr (.inl xs))) (hi : ab_ix xs i = some u) (k : ev_Run tb sp0 sp d M (pc + 1, L, st, w.set r0 (.inr (.inl (xs.set i.toNatClampNeg v))), cn, sn) r) : ev_Run tb sp0 sp d M (pc, L, .int v :: .int i :: .ref r0 :: st, w, cn, sn) r :=
  ev_heap hf (by simp only [ab_heap, ha, hi]) k
end EX
theorem lx_ix {xs : List Int32} {i : Nat} (h : i < xs.length) (hi : i < 2 ^ 31) : ab_ix xs (nI i) = some (xs.getD i 0) := by
  unfold ab_ix
  rw [decide_eq_false (nI_pos hi), nI_clamp hi, ab_nth_eq, List.getD_eq_getElem?_getD, List.getElem?_eq_getElem h]
  rfl
theorem lx_arr {sp : List (List Int32)} {w : ab_W} {r : Nat} {xs : List Int32} (h : ab_cell w r = some (.inr (.inl xs))) : ab_arr sp w r = some xs := by
  obtain ⟨h1, h2⟩ := ab_cell_of h
  unfold ab_arr
  rw [h2]
  simp only [cond_false, ab_nth_eq, h1]
theorem lx_set_same {w : ab_W} {r : Nat} {c c' : ab_C} (h : ab_cell w r = some c) : ab_cell (w.set r c') r = some c' := by
  obtain ⟨h1, h2⟩ := ab_cell_of h
  unfold ab_cell
  rw [h2, ab_nth_eq]
  exact List.getElem?_set_self (List.getElem?_eq_some_iff.mp h1).1
theorem lx_set_other {w : ab_W} {r q : Nat} {c c' : ab_C} (hq : q ≠ r) (h : ab_cell w r = some c) : ab_cell (w.set q c') r = some c := by
  obtain ⟨h1, h2⟩ := ab_cell_of h
  unfold ab_cell
  rw [h2, ab_nth_eq]
  show (w.set q c')[r]? = some c
  rw [List.getElem?_set_ne hq]
  exact h1
set_option maxRecDepth 100000 in
set_option maxHeartbeats 4000000 in
theorem lx_copy_loop {sp0 sp : List (List Int32)} {d : Nat} {w : ab_W} {r1 r2 : Nat} {xs ys : List Int32} (hr : r2 ≠ r1) (h1 : ab_cell w r1 = some (.inr (.inl xs))) (h2 : ab_cell w r2 = some (.inr (.inl ys))) (hx : xs.length = 327) (hy : ys.length = 327) : ∀ (m i : Nat) (x : Int32) (W : ab_W), i + m = 327 → x = nI i → W = w.set r2 (.inr (.inl (xs.take i ++ ys.drop i))) → ev_Run tb sp0 sp d tb_m177 (2, [(2, .int x), (0, .ref r1), (1, .ref r2)], [], W, 0, 0) (none, w.set r2 (.inr (.inl xs)))
  | 0, i, x, W, hi, hx0, hW => by
    have hi : i = 327 := by omega
    subst hi
    subst hx0
    subst hW
    refine ev_loc rfl rfl ?_
    refine ev_pure rfl rfl ?_
    refine ev_cmT rfl (by decide) ?_
    have e : xs.take 327 ++ ys.drop 327 = xs := by rw [List.take_of_length_le (by omega), List.drop_eq_nil_of_le (by omega), List.append_nil]
    rw [e]
    exact ev_ret rfl rfl
  | m + 1, i, x, W, hi, hx0, hW => by
    subst hx0
    subst hW
    have hlt : i < 327 := by omega
    have c2 := lx_set_same (c' := .inr (.inl (xs.take i ++ ys.drop i))) h2
    have c1 := lx_set_other (c' := .inr (.inl (xs.take i ++ ys.drop i))) hr h1
    have hlen : (xs.take i ++ ys.drop i).length = 327 := by rw [List.length_append, List.length_take, List.length_drop]; omega
    refine ev_loc rfl rfl ?_
    refine ev_pure rfl rfl ?_
    refine ev_cmF rfl (decide_eq_false (by show ¬ (Int16.ofInt 327).toInt32 ≤ nI i; exact nI_ge (b := 327) hlt (by decide))) ?_
    refine ev_loc rfl rfl ?_
    refine ev_loc rfl rfl ?_
    refine ev_loc rfl rfl ?_
    refine ev_loc rfl rfl ?_
    refine ev_ald rfl (lx_arr c1) (lx_ix (by omega) (by omega)) ?_
    refine ev_ast rfl c2 (lx_ix (by omega) (by omega)) ?_
    refine ev_loc rfl rfl ?_
    refine ev_goto rfl ?_
    refine lx_copy_loop hr h1 h2 hx hy m (i + 1) _ _ (by omega) (nI_1 i) ?_
    rw [List.set_set, nI_clamp (by omega)]
    congr 3
    apply List.ext_getElem?
    intro k
    rw [List.getElem?_set, hlen]
    by_cases hk : i = k
    · subst hk
      rw [if_pos rfl, if_pos hlt, List.getElem?_append_left (by rw [List.length_take]; omega), List.getElem?_take, if_pos (by omega), List.getD_eq_getElem?_getD, List.getElem?_eq_getElem (by omega)]
      rfl
    · rw [if_neg hk]
      by_cases hk2 : k < i
      · rw [List.getElem?_append_left (by rw [List.length_take]; omega), List.getElem?_append_left (by rw [List.length_take]; omega), List.getElem?_take, List.getElem?_take, if_pos hk2, if_pos (by omega)]
      · rw [List.getElem?_append_right (by rw [List.length_take]; omega), List.getElem?_append_right (by rw [List.length_take]; omega), List.length_take, List.length_take, List.getElem?_drop, List.getElem?_drop]
        congr 1
        omega
theorem lx_set_id {w : ab_W} {r : Nat} {c : ab_C} (h : w[r]? = some c) : w.set r c = w := by
  apply List.ext_getElem?
  intro k
  rw [List.getElem?_set]
  by_cases hk : r = k
  · subst hk
    rw [if_pos rfl, if_pos (List.getElem?_eq_some_iff.mp h).1, h]
  · rw [if_neg hk]
set_option maxRecDepth 100000 in
set_option maxHeartbeats 4000000 in
theorem lx_copyAll {sp0 : List (List Int32)} (d : Nat) {w : ab_W} {r1 r2 : Nat} {xs ys : List Int32} (hr : r2 ≠ r1) (h1 : ab_cell w r1 = some (.inr (.inl xs))) (h2 : ab_cell w r2 = some (.inr (.inl ys))) (hx : xs.length = 327) (hy : ys.length = 327) : ev_Call tb sp0 (d + 1) 177 [.ref r1, .ref r2] w (none, w.set r2 (.inr (.inl xs))) := by
  refine ev_enter rfl rfl ?_
  refine ev_pure rfl rfl ?_
  refine ev_loc rfl rfl ?_
  refine lx_copy_loop hr h1 h2 hx hy 327 0 _ _ (by omega) rfl ?_
  rw [List.take_zero, List.drop_zero, List.nil_append]
  exact (lx_set_id (ab_cell_of h2).1).symm
