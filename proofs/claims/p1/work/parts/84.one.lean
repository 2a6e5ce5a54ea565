set_option maxRecDepth 100000 in
set_option maxHeartbeats 4000000 in
theorem lx_k_whose_0_0 : lx_like 103 192 [.int 0, .int (nI 0)] := by
  apply Exists.intro
  apply Exists.intro
  apply Exists.intro
  apply And.intro
  · refine ev_enter rfl rfl ?_
    repeat (first | exact ev_ret rfl rfl | refine ev_pure rfl rfl ?_ | refine ev_loc rfl rfl ?_ | refine ev_goto rfl ?_ | refine ev_heap rfl rfl ?_ | refine ev_cmT rfl (by first | rfl | decide) ?_ | refine ev_cmF rfl (by first | rfl | decide) ?_ | refine ev_ifT rfl (by first | rfl | decide) ?_ | refine ev_ifF rfl (by first | rfl | decide) ?_ | refine ev_bi rfl (fun _ => rfl) ?_ | refine ev_enter rfl rfl ?_ | (refine ev_askE rfl rfl ?_; apply Exists.intro; apply Exists.intro; apply And.intro) | refine ev_tab rfl rfl ?_)
  · refine ev_enter rfl rfl ?_
    repeat (first | exact ev_ret rfl rfl | refine ev_pure rfl rfl ?_ | refine ev_loc rfl rfl ?_ | refine ev_goto rfl ?_ | refine ev_heap rfl rfl ?_ | refine ev_cmT rfl (by first | rfl | decide) ?_ | refine ev_cmF rfl (by first | rfl | decide) ?_ | refine ev_ifT rfl (by first | rfl | decide) ?_ | refine ev_ifF rfl (by first | rfl | decide) ?_ | refine ev_ask rfl rfl (lx_copyAll _ (by decide) rfl rfl rfl rfl) ?_ | refine ev_bi rfl (fun _ => rfl) ?_ | refine ev_enter rfl rfl ?_ | (refine ev_askE rfl rfl ?_; apply Exists.intro; apply Exists.intro; apply And.intro) | refine ev_tab rfl rfl ?_)
set_option maxRecDepth 100000 in
set_option maxHeartbeats 4000000 in
theorem lx_k_whose_n_0 {n : Int32} (h0 : ¬ n = 0) (h1 : decide (n < 0) = false) (h2 : decide (99 < n) = false) : lx_like 103 192 [.int n, .int (nI 0)] := by
  apply Exists.intro
  apply Exists.intro
  apply Exists.intro
  apply And.intro
  · refine ev_enter rfl rfl ?_
    repeat (first | exact ev_ret rfl rfl | refine ev_pure rfl rfl ?_ | refine ev_loc rfl rfl ?_ | refine ev_goto rfl ?_ | refine ev_heap rfl rfl ?_ | refine ev_cmT rfl (by first | exact h1 | exact h2 | exact lx_c2n h0 | exact lx_c2e h0 | exact lx_c2n (fun z => h0 z.symm) | exact lx_c2e (fun z => h0 z.symm) | rfl | decide) ?_ | refine ev_cmF rfl (by first | exact h1 | exact h2 | exact lx_c2n h0 | exact lx_c2e h0 | exact lx_c2n (fun z => h0 z.symm) | exact lx_c2e (fun z => h0 z.symm) | rfl | decide) ?_ | refine ev_ifT rfl (by first | exact h1 | exact h2 | exact lx_c2n h0 | exact lx_c2e h0 | exact lx_c2n (fun z => h0 z.symm) | exact lx_c2e (fun z => h0 z.symm) | rfl | decide) ?_ | refine ev_ifF rfl (by first | exact h1 | exact h2 | exact lx_c2n h0 | exact lx_c2e h0 | exact lx_c2n (fun z => h0 z.symm) | exact lx_c2e (fun z => h0 z.symm) | rfl | decide) ?_ | refine ev_bi rfl (fun _ => rfl) ?_ | refine ev_enter rfl rfl ?_ | (refine ev_askE rfl rfl ?_; apply Exists.intro; apply Exists.intro; apply And.intro) | refine ev_tab rfl rfl ?_)
  · refine ev_enter rfl rfl ?_
    repeat (first | exact ev_ret rfl rfl | refine ev_pure rfl rfl ?_ | refine ev_loc rfl rfl ?_ | refine ev_goto rfl ?_ | refine ev_heap rfl rfl ?_ | refine ev_cmT rfl (by first | exact h1 | exact h2 | exact lx_c2n h0 | exact lx_c2e h0 | exact lx_c2n (fun z => h0 z.symm) | exact lx_c2e (fun z => h0 z.symm) | rfl | decide) ?_ | refine ev_cmF rfl (by first | exact h1 | exact h2 | exact lx_c2n h0 | exact lx_c2e h0 | exact lx_c2n (fun z => h0 z.symm) | exact lx_c2e (fun z => h0 z.symm) | rfl | decide) ?_ | refine ev_ifT rfl (by first | exact h1 | exact h2 | exact lx_c2n h0 | exact lx_c2e h0 | exact lx_c2n (fun z => h0 z.symm) | exact lx_c2e (fun z => h0 z.symm) | rfl | decide) ?_ | refine ev_ifF rfl (by first | exact h1 | exact h2 | exact lx_c2n h0 | exact lx_c2e h0 | exact lx_c2n (fun z => h0 z.symm) | exact lx_c2e (fun z => h0 z.symm) | rfl | decide) ?_ | refine ev_ask rfl rfl (lx_copyAll _ (by decide) rfl rfl rfl rfl) ?_ | refine ev_bi rfl (fun _ => rfl) ?_ | refine ev_enter rfl rfl ?_ | (refine ev_askE rfl rfl ?_; apply Exists.intro; apply Exists.intro; apply And.intro) | refine ev_tab rfl rfl ?_)
set_option maxRecDepth 100000 in
set_option maxHeartbeats 4000000 in
theorem lx_k_whose_0_1 : lx_like 103 192 [.int 0, .int (nI 1)] := by
  apply Exists.intro
  apply Exists.intro
  apply Exists.intro
  apply And.intro
  · refine ev_enter rfl rfl ?_
    repeat (first | exact ev_ret rfl rfl | refine ev_pure rfl rfl ?_ | refine ev_loc rfl rfl ?_ | refine ev_goto rfl ?_ | refine ev_heap rfl rfl ?_ | refine ev_cmT rfl (by first | rfl | decide) ?_ | refine ev_cmF rfl (by first | rfl | decide) ?_ | refine ev_ifT rfl (by first | rfl | decide) ?_ | refine ev_ifF rfl (by first | rfl | decide) ?_ | refine ev_bi rfl (fun _ => rfl) ?_ | refine ev_enter rfl rfl ?_ | (refine ev_askE rfl rfl ?_; apply Exists.intro; apply Exists.intro; apply And.intro) | refine ev_tab rfl rfl ?_)
  · refine ev_enter rfl rfl ?_
    repeat (first | exact ev_ret rfl rfl | refine ev_pure rfl rfl ?_ | refine ev_loc rfl rfl ?_ | refine ev_goto rfl ?_ | refine ev_heap rfl rfl ?_ | refine ev_cmT rfl (by first | rfl | decide) ?_ | refine ev_cmF rfl (by first | rfl | decide) ?_ | refine ev_ifT rfl (by first | rfl | decide) ?_ | refine ev_ifF rfl (by first | rfl | decide) ?_ | refine ev_ask rfl rfl (lx_copyAll _ (by decide) rfl rfl rfl rfl) ?_ | refine ev_bi rfl (fun _ => rfl) ?_ | refine ev_enter rfl rfl ?_ | (refine ev_askE rfl rfl ?_; apply Exists.intro; apply Exists.intro; apply And.intro) | refine ev_tab rfl rfl ?_)
set_option maxRecDepth 100000 in
set_option maxHeartbeats 4000000 in
theorem lx_k_whose_n_1 {n : Int32} (h0 : ¬ n = 0) (h1 : decide (n < 0) = false) (h2 : decide (99 < n) = false) : lx_like 103 192 [.int n, .int (nI 1)] := by
  apply Exists.intro
  apply Exists.intro
  apply Exists.intro
  apply And.intro
  · refine ev_enter rfl rfl ?_
    repeat (first | exact ev_ret rfl rfl | refine ev_pure rfl rfl ?_ | refine ev_loc rfl rfl ?_ | refine ev_goto rfl ?_ | refine ev_heap rfl rfl ?_ | refine ev_cmT rfl (by first | exact h1 | exact h2 | exact lx_c2n h0 | exact lx_c2e h0 | exact lx_c2n (fun z => h0 z.symm) | exact lx_c2e (fun z => h0 z.symm) | rfl | decide) ?_ | refine ev_cmF rfl (by first | exact h1 | exact h2 | exact lx_c2n h0 | exact lx_c2e h0 | exact lx_c2n (fun z => h0 z.symm) | exact lx_c2e (fun z => h0 z.symm) | rfl | decide) ?_ | refine ev_ifT rfl (by first | exact h1 | exact h2 | exact lx_c2n h0 | exact lx_c2e h0 | exact lx_c2n (fun z => h0 z.symm) | exact lx_c2e (fun z => h0 z.symm) | rfl | decide) ?_ | refine ev_ifF rfl (by first | exact h1 | exact h2 | exact lx_c2n h0 | exact lx_c2e h0 | exact lx_c2n (fun z => h0 z.symm) | exact lx_c2e (fun z => h0 z.symm) | rfl | decide) ?_ | refine ev_bi rfl (fun _ => rfl) ?_ | refine ev_enter rfl rfl ?_ | (refine ev_askE rfl rfl ?_; apply Exists.intro; apply Exists.intro; apply And.intro) | refine ev_tab rfl rfl ?_)
  · refine ev_enter rfl rfl ?_
    repeat (first | exact ev_ret rfl rfl | refine ev_pure rfl rfl ?_ | refine ev_loc rfl rfl ?_ | refine ev_goto rfl ?_ | refine ev_heap rfl rfl ?_ | refine ev_cmT rfl (by first | exact h1 | exact h2 | exact lx_c2n h0 | exact lx_c2e h0 | exact lx_c2n (fun z => h0 z.symm) | exact lx_c2e (fun z => h0 z.symm) | rfl | decide) ?_ | refine ev_cmF rfl (by first | exact h1 | exact h2 | exact lx_c2n h0 | exact lx_c2e h0 | exact lx_c2n (fun z => h0 z.symm) | exact lx_c2e (fun z => h0 z.symm) | rfl | decide) ?_ | refine ev_ifT rfl (by first | exact h1 | exact h2 | exact lx_c2n h0 | exact lx_c2e h0 | exact lx_c2n (fun z => h0 z.symm) | exact lx_c2e (fun z => h0 z.symm) | rfl | decide) ?_ | refine ev_ifF rfl (by first | exact h1 | exact h2 | exact lx_c2n h0 | exact lx_c2e h0 | exact lx_c2n (fun z => h0 z.symm) | exact lx_c2e (fun z => h0 z.symm) | rfl | decide) ?_ | refine ev_ask rfl rfl (lx_copyAll _ (by decide) rfl rfl rfl rfl) ?_ | refine ev_bi rfl (fun _ => rfl) ?_ | refine ev_enter rfl rfl ?_ | (refine ev_askE rfl rfl ?_; apply Exists.intro; apply Exists.intro; apply And.intro) | refine ev_tab rfl rfl ?_)
set_option maxRecDepth 100000 in
set_option maxHeartbeats 4000000 in
theorem lx_o_whose (n v : Int32) : lx_like 103 192 [.int n, .int v] := by
  by_cases hs : decide (n < 0) = false ∧ decide (99 < n) = false
  · by_cases h : decide (v < 0) = false ∧ decide (1 < v) = false
    · obtain ⟨i, hi, rfl⟩ := lx_rng 1 (by decide) h.1 h.2
      by_cases h0 : n = 0
      · subst h0
        rcases (show i = 0 ∨ i = 1 by omega) with rfl | rfl
        · exact lx_k_whose_0_0
        · exact lx_k_whose_0_1
      · rcases (show i = 0 ∨ i = 1 by omega) with rfl | rfl
        · exact lx_k_whose_n_0 h0 hs.1 hs.2
        · exact lx_k_whose_n_1 h0 hs.1 hs.2
    · have h := lx_out h
      obtain ⟨w, hw⟩ := lx_merr_1 98
      refine ⟨-1000000001, lx_er 1, w, ?_, ?_⟩
      · refine ev_enter rfl rfl ?_
        repeat (first | exact ev_ret rfl rfl | refine ev_pure rfl rfl ?_ | refine ev_loc rfl rfl ?_ | refine ev_goto rfl ?_ | refine ev_heap rfl rfl ?_ | refine ev_cmT rfl (by first | rfl | decide) ?_ | refine ev_cmF rfl (by first | rfl | decide) ?_ | refine ev_ifT rfl (by first | rfl | decide) ?_ | refine ev_ifF rfl (by first | rfl | decide) ?_ | refine ev_ask rfl rfl (lx_within_t _ hs.1 hs.2) ?_ | refine ev_ask rfl rfl (lx_within_f _ h) ?_ | refine ev_ask rfl rfl (lx_xerr_1 _) ?_ | refine ev_bi rfl (fun _ => rfl) ?_ | refine ev_enter rfl rfl ?_ | (refine ev_askE rfl rfl ?_; apply Exists.intro; apply Exists.intro; apply And.intro) | refine ev_tab rfl rfl ?_)
      · refine ev_enter rfl rfl ?_
        repeat (first | exact ev_ret rfl rfl | refine ev_pure rfl rfl ?_ | refine ev_loc rfl rfl ?_ | refine ev_goto rfl ?_ | refine ev_heap rfl rfl ?_ | refine ev_cmT rfl (by first | rfl | decide) ?_ | refine ev_cmF rfl (by first | rfl | decide) ?_ | refine ev_ifT rfl (by first | rfl | decide) ?_ | refine ev_ifF rfl (by first | rfl | decide) ?_ | refine ev_ask rfl rfl (hw) ?_ | refine ev_ask rfl rfl (lx_in_t _ hs.1 hs.2) ?_ | refine ev_ask rfl rfl (lx_in_f _ h) ?_ | refine ev_bi rfl (fun _ => rfl) ?_ | refine ev_enter rfl rfl ?_ | (refine ev_askE rfl rfl ?_; apply Exists.intro; apply Exists.intro; apply And.intro) | refine ev_tab rfl rfl ?_)
  · have h := lx_out hs
    obtain ⟨w, hw⟩ := lx_merr_1 98
    refine ⟨-1000000001, lx_er 1, w, ?_, ?_⟩
    · refine ev_enter rfl rfl ?_
      repeat (first | exact ev_ret rfl rfl | refine ev_pure rfl rfl ?_ | refine ev_loc rfl rfl ?_ | refine ev_goto rfl ?_ | refine ev_heap rfl rfl ?_ | refine ev_cmT rfl (by first | rfl | decide) ?_ | refine ev_cmF rfl (by first | rfl | decide) ?_ | refine ev_ifT rfl (by first | rfl | decide) ?_ | refine ev_ifF rfl (by first | rfl | decide) ?_ | refine ev_ask rfl rfl (lx_within_f _ h) ?_ | refine ev_ask rfl rfl (lx_isSheet_f _ h) ?_ | refine ev_ask rfl rfl (lx_xerr_1 _) ?_ | refine ev_bi rfl (fun _ => rfl) ?_ | refine ev_enter rfl rfl ?_ | (refine ev_askE rfl rfl ?_; apply Exists.intro; apply Exists.intro; apply And.intro) | refine ev_tab rfl rfl ?_)
    · refine ev_enter rfl rfl ?_
      repeat (first | exact ev_ret rfl rfl | refine ev_pure rfl rfl ?_ | refine ev_loc rfl rfl ?_ | refine ev_goto rfl ?_ | refine ev_heap rfl rfl ?_ | refine ev_cmT rfl (by first | rfl | decide) ?_ | refine ev_cmF rfl (by first | rfl | decide) ?_ | refine ev_ifT rfl (by first | rfl | decide) ?_ | refine ev_ifF rfl (by first | rfl | decide) ?_ | refine ev_ask rfl rfl (hw) ?_ | refine ev_ask rfl rfl (lx_in_f _ h) ?_ | refine ev_ask rfl rfl (lx_misSheet_f _ h) ?_ | refine ev_bi rfl (fun _ => rfl) ?_ | refine ev_enter rfl rfl ?_ | (refine ev_askE rfl rfl ?_; apply Exists.intro; apply Exists.intro; apply And.intro) | refine ev_tab rfl rfl ?_)
theorem lx_ne01 {v : Int32} (h : decide (v < 0) = true ∨ decide (1 < v) = true) : (¬ v = 0) ∧ ¬ v = 1 := by
  refine ⟨fun q => ?_, fun q => ?_⟩ <;> (subst q; rcases h with h | h <;> exact absurd h (by decide))
set_option maxRecDepth 100000 in
set_option maxHeartbeats 4000000 in
theorem lx_k_text_0 : lx_like 88 152 [.int (nI 0)] := by
  apply Exists.intro
  apply Exists.intro
  apply Exists.intro
  apply And.intro
  · refine ev_enter rfl rfl ?_
    repeat (first | exact ev_ret rfl rfl | refine ev_pure rfl rfl ?_ | refine ev_loc rfl rfl ?_ | refine ev_goto rfl ?_ | refine ev_heap rfl rfl ?_ | refine ev_cmT rfl (by first | rfl | decide) ?_ | refine ev_cmF rfl (by first | rfl | decide) ?_ | refine ev_ifT rfl (by first | rfl | decide) ?_ | refine ev_ifF rfl (by first | rfl | decide) ?_ | refine ev_bi rfl (fun _ => rfl) ?_ | refine ev_enter rfl rfl ?_ | (refine ev_askE rfl rfl ?_; apply Exists.intro; apply Exists.intro; apply And.intro) | refine ev_tab rfl rfl ?_)
  · refine ev_enter rfl rfl ?_
    repeat (first | exact ev_ret rfl rfl | refine ev_pure rfl rfl ?_ | refine ev_loc rfl rfl ?_ | refine ev_goto rfl ?_ | refine ev_heap rfl rfl ?_ | refine ev_cmT rfl (by first | rfl | decide) ?_ | refine ev_cmF rfl (by first | rfl | decide) ?_ | refine ev_ifT rfl (by first | rfl | decide) ?_ | refine ev_ifF rfl (by first | rfl | decide) ?_ | refine ev_ask rfl rfl (lx_copyAll _ (by decide) rfl rfl rfl rfl) ?_ | refine ev_bi rfl (fun _ => rfl) ?_ | refine ev_enter rfl rfl ?_ | (refine ev_askE rfl rfl ?_; apply Exists.intro; apply Exists.intro; apply And.intro) | refine ev_tab rfl rfl ?_)
set_option maxRecDepth 100000 in
set_option maxHeartbeats 4000000 in
theorem lx_k_text_1 : lx_like 88 152 [.int (nI 1)] := by
  apply Exists.intro
  apply Exists.intro
  apply Exists.intro
  apply And.intro
  · refine ev_enter rfl rfl ?_
    repeat (first | exact ev_ret rfl rfl | refine ev_pure rfl rfl ?_ | refine ev_loc rfl rfl ?_ | refine ev_goto rfl ?_ | refine ev_heap rfl rfl ?_ | refine ev_cmT rfl (by first | rfl | decide) ?_ | refine ev_cmF rfl (by first | rfl | decide) ?_ | refine ev_ifT rfl (by first | rfl | decide) ?_ | refine ev_ifF rfl (by first | rfl | decide) ?_ | refine ev_bi rfl (fun _ => rfl) ?_ | refine ev_enter rfl rfl ?_ | (refine ev_askE rfl rfl ?_; apply Exists.intro; apply Exists.intro; apply And.intro) | refine ev_tab rfl rfl ?_)
  · refine ev_enter rfl rfl ?_
    repeat (first | exact ev_ret rfl rfl | refine ev_pure rfl rfl ?_ | refine ev_loc rfl rfl ?_ | refine ev_goto rfl ?_ | refine ev_heap rfl rfl ?_ | refine ev_cmT rfl (by first | rfl | decide) ?_ | refine ev_cmF rfl (by first | rfl | decide) ?_ | refine ev_ifT rfl (by first | rfl | decide) ?_ | refine ev_ifF rfl (by first | rfl | decide) ?_ | refine ev_ask rfl rfl (lx_copyAll _ (by decide) rfl rfl rfl rfl) ?_ | refine ev_bi rfl (fun _ => rfl) ?_ | refine ev_enter rfl rfl ?_ | (refine ev_askE rfl rfl ?_; apply Exists.intro; apply Exists.intro; apply And.intro) | refine ev_tab rfl rfl ?_)
set_option maxRecDepth 100000 in
set_option maxHeartbeats 4000000 in
theorem lx_o_text (v : Int32) : lx_like 88 152 [.int v] := by
  by_cases h : decide (v < 0) = false ∧ decide (1 < v) = false
  · obtain ⟨j, hj, rfl⟩ := lx_rng 1 (by decide) h.1 h.2
    rcases (show j = 0 ∨ j = 1 by omega) with rfl | rfl
    · exact lx_k_text_0
    · exact lx_k_text_1
  · have h := lx_out h
    have hn := lx_ne01 h
    obtain ⟨w, hw⟩ := lx_merr_1 98
    refine ⟨-1000000001, lx_er 1, w, ?_, ?_⟩
    · refine ev_enter rfl rfl ?_
      repeat (first | exact ev_ret rfl rfl | refine ev_pure rfl rfl ?_ | refine ev_loc rfl rfl ?_ | refine ev_goto rfl ?_ | refine ev_heap rfl rfl ?_ | refine ev_cmT rfl (by first | exact lx_c1n hn.1 | exact lx_c1e hn.1 | exact lx_c2n hn.2 | exact lx_c2e hn.2 | rfl | decide) ?_ | refine ev_cmF rfl (by first | exact lx_c1n hn.1 | exact lx_c1e hn.1 | exact lx_c2n hn.2 | exact lx_c2e hn.2 | rfl | decide) ?_ | refine ev_ifT rfl (by first | exact lx_c1n hn.1 | exact lx_c1e hn.1 | exact lx_c2n hn.2 | exact lx_c2e hn.2 | rfl | decide) ?_ | refine ev_ifF rfl (by first | exact lx_c1n hn.1 | exact lx_c1e hn.1 | exact lx_c2n hn.2 | exact lx_c2e hn.2 | rfl | decide) ?_ | refine ev_ask rfl rfl (lx_within_f _ h) ?_ | refine ev_ask rfl rfl (lx_isSheet_f _ h) ?_ | refine ev_ask rfl rfl (lx_xerr_1 _) ?_ | refine ev_bi rfl (fun _ => rfl) ?_ | refine ev_enter rfl rfl ?_ | (refine ev_askE rfl rfl ?_; apply Exists.intro; apply Exists.intro; apply And.intro) | refine ev_tab rfl rfl ?_)
    · refine ev_enter rfl rfl ?_
      repeat (first | exact ev_ret rfl rfl | refine ev_pure rfl rfl ?_ | refine ev_loc rfl rfl ?_ | refine ev_goto rfl ?_ | refine ev_heap rfl rfl ?_ | refine ev_cmT rfl (by first | exact lx_c1n hn.1 | exact lx_c1e hn.1 | exact lx_c2n hn.2 | exact lx_c2e hn.2 | rfl | decide) ?_ | refine ev_cmF rfl (by first | exact lx_c1n hn.1 | exact lx_c1e hn.1 | exact lx_c2n hn.2 | exact lx_c2e hn.2 | rfl | decide) ?_ | refine ev_ifT rfl (by first | exact lx_c1n hn.1 | exact lx_c1e hn.1 | exact lx_c2n hn.2 | exact lx_c2e hn.2 | rfl | decide) ?_ | refine ev_ifF rfl (by first | exact lx_c1n hn.1 | exact lx_c1e hn.1 | exact lx_c2n hn.2 | exact lx_c2e hn.2 | rfl | decide) ?_ | refine ev_ask rfl rfl (hw) ?_ | refine ev_ask rfl rfl (lx_in_f _ h) ?_ | refine ev_ask rfl rfl (lx_misSheet_f _ h) ?_ | refine ev_bi rfl (fun _ => rfl) ?_ | refine ev_enter rfl rfl ?_ | (refine ev_askE rfl rfl ?_; apply Exists.intro; apply Exists.intro; apply And.intro) | refine ev_tab rfl rfl ?_)
theorem lx_cl1 {v : Int32} (h : decide (v < 1) = true) : (if (1 : Int32) < (if v < 99 then v else 99) then (if v < 99 then v else 99) else 1) = 1 := by
  have a := Int32.lt_iff_toInt_lt.mp (of_decide_eq_true h)
  rw [show (1 : Int32).toInt = 1 by decide] at a
  have b : v < 99 := Int32.lt_iff_toInt_lt.mpr (by rw [show (99 : Int32).toInt = 99 by decide]; omega)
  rw [if_pos b, if_neg (Int32.not_lt.mpr (Int32.le_iff_toInt_le.mpr (by rw [show (1 : Int32).toInt = 1 by decide]; omega)))]
theorem lx_cl2 {v : Int32} (h : decide (99 < v) = true) : (if (1 : Int32) < (if v < 99 then v else 99) then (if v < 99 then v else 99) else 1) = 99 := by
  have a := Int32.lt_iff_toInt_lt.mp (of_decide_eq_true h)
  rw [show (99 : Int32).toInt = 99 by decide] at a
  have e : (if v < 99 then v else 99) = 99 := if_neg (Int32.not_lt.mpr (Int32.le_iff_toInt_le.mpr (by rw [show (99 : Int32).toInt = 99 by decide]; omega)))
  rw [e]
  decide
theorem lx_cl3 {v : Int32} (h1 : decide (v < 1) = false) (h2 : decide (99 < v) = false) : (if (1 : Int32) < (if v < 99 then v else 99) then (if v < 99 then v else 99) else 1) = v := by
  have a := Int32.le_iff_toInt_le.mp (Int32.not_lt.mp (of_decide_eq_false h1))
  have b := Int32.le_iff_toInt_le.mp (Int32.not_lt.mp (of_decide_eq_false h2))
  rw [show (1 : Int32).toInt = 1 by decide] at a
  rw [show (99 : Int32).toInt = 99 by decide] at b
  have e : (if v < 99 then v else 99) = v := by
    by_cases q : v < 99
    · rw [if_pos q]
    · rw [if_neg q]
      refine Int32.toInt_inj.mp ?_
      have := Int32.le_iff_toInt_le.mp (Int32.not_lt.mp q)
      rw [show (99 : Int32).toInt = 99 by decide] at this ⊢
      omega
  rw [e]
  by_cases q : 1 < v
  · rw [if_pos q]
  · rw [if_neg q]
    refine Int32.toInt_inj.mp ?_
    have := Int32.le_iff_toInt_le.mp (Int32.not_lt.mp q)
    rw [show (1 : Int32).toInt = 1 by decide] at this ⊢
    omega
set_option maxRecDepth 100000 in
set_option maxHeartbeats 4000000 in
theorem lx_xlaw0 (d : Nat) {a b c : Int32} : ∃ w1, w1 = lx_w2 ∧ ev_Call tb [lx_above] (d + 6) 90 [.ref 0, .int (nI 0), .int a, .int b, .int c] lx_w2 (some (.int (if (1 : Int32) < (if 1 + a + c < 99 then 1 + a + c else 99) then (if 1 + a + c < 99 then 1 + a + c else 99) else 1)), w1) := by
  refine ⟨lx_w2, rfl, ?_⟩
  refine ev_enter rfl rfl ?_
  repeat (first | exact ev_ret rfl rfl | refine ev_pure rfl rfl ?_ | refine ev_loc rfl rfl ?_ | refine ev_goto rfl ?_ | refine ev_heap rfl rfl ?_ | refine ev_cmT rfl (by first | rfl | decide) ?_ | refine ev_cmF rfl (by first | rfl | decide) ?_ | refine ev_ifT rfl (by first | rfl | decide) ?_ | refine ev_ifF rfl (by first | rfl | decide) ?_ | refine ev_bi rfl (fun _ => rfl) ?_ | refine ev_enter rfl rfl ?_ | (refine ev_askE rfl rfl ?_; apply Exists.intro; apply Exists.intro; apply And.intro) | refine ev_tab rfl rfl ?_)
theorem lx_like_mk {jx jm : Nat} {as : List Value} {v : Int32} {w1 : ab_W} (h1 : ev_Call tb [lx_above] lx_d jx (.ref 0 :: as) lx_w2 (some (.int v), w1)) (h2 : ∃ w2, ev_Call tb [lx_above] lx_d jm (.ref 63 :: as) w1 (some (.int v), w2)) : lx_like jx jm as := by
  obtain ⟨w2, h2⟩ := h2
  exact ⟨v, w1, w2, h1, h2⟩
set_option maxRecDepth 100000 in
set_option maxHeartbeats 4000000 in
theorem lx_k_law0_0 {a b c : Int32} (h1 : decide (1 + a + c < 1) = true) : lx_like 90 164 [.int (nI 0), .int a, .int b, .int c] := by
  obtain ⟨w1, e1, hw⟩ := lx_xlaw0 94 (a := a) (b := b) (c := c)
  subst e1
  rw [lx_cl1 h1] at hw
  refine lx_like_mk hw ?_
  apply Exists.intro
  refine ev_enter rfl rfl ?_
  repeat (first | exact ev_ret rfl rfl | refine ev_pure rfl rfl ?_ | refine ev_loc rfl rfl ?_ | refine ev_goto rfl ?_ | refine ev_heap rfl rfl ?_ | refine ev_cmT rfl (by first | exact h1 | exact lx_lt h1 | rfl | decide) ?_ | refine ev_cmF rfl (by first | exact h1 | exact lx_lt h1 | rfl | decide) ?_ | refine ev_ifT rfl (by first | exact h1 | exact lx_lt h1 | rfl | decide) ?_ | refine ev_ifF rfl (by first | exact h1 | exact lx_lt h1 | rfl | decide) ?_ | refine ev_bi rfl (fun _ => rfl) ?_ | refine ev_enter rfl rfl ?_ | (refine ev_askE rfl rfl ?_; apply Exists.intro; apply Exists.intro; apply And.intro) | refine ev_tab rfl rfl ?_)
set_option maxRecDepth 100000 in
set_option maxHeartbeats 4000000 in
theorem lx_k_law0_1 {a b c : Int32} (h1 : decide (1 + a + c < 1) = false) (h2 : decide (99 < 1 + a + c) = true) : lx_like 90 164 [.int (nI 0), .int a, .int b, .int c] := by
  obtain ⟨w1, e1, hw⟩ := lx_xlaw0 94 (a := a) (b := b) (c := c)
  subst e1
  rw [lx_cl2 h2] at hw
  refine lx_like_mk hw ?_
  apply Exists.intro
  refine ev_enter rfl rfl ?_
  repeat (first | exact ev_ret rfl rfl | refine ev_pure rfl rfl ?_ | refine ev_loc rfl rfl ?_ | refine ev_goto rfl ?_ | refine ev_heap rfl rfl ?_ | refine ev_cmT rfl (by first | exact h1 | exact h2 | exact lx_nlt h1 | exact lx_lt h2 | rfl | decide) ?_ | refine ev_cmF rfl (by first | exact h1 | exact h2 | exact lx_nlt h1 | exact lx_lt h2 | rfl | decide) ?_ | refine ev_ifT rfl (by first | exact h1 | exact h2 | exact lx_nlt h1 | exact lx_lt h2 | rfl | decide) ?_ | refine ev_ifF rfl (by first | exact h1 | exact h2 | exact lx_nlt h1 | exact lx_lt h2 | rfl | decide) ?_ | refine ev_bi rfl (fun _ => rfl) ?_ | refine ev_enter rfl rfl ?_ | (refine ev_askE rfl rfl ?_; apply Exists.intro; apply Exists.intro; apply And.intro) | refine ev_tab rfl rfl ?_)
set_option maxRecDepth 100000 in
set_option maxHeartbeats 4000000 in
theorem lx_k_law0_2 {a b c : Int32} (h1 : decide (1 + a + c < 1) = false) (h2 : decide (99 < 1 + a + c) = false) : lx_like 90 164 [.int (nI 0), .int a, .int b, .int c] := by
  obtain ⟨w1, e1, hw⟩ := lx_xlaw0 94 (a := a) (b := b) (c := c)
  subst e1
  rw [lx_cl3 h1 h2] at hw
  refine lx_like_mk hw ?_
  apply Exists.intro
  refine ev_enter rfl rfl ?_
  repeat (first | exact ev_ret rfl rfl | refine ev_pure rfl rfl ?_ | refine ev_loc rfl rfl ?_ | refine ev_goto rfl ?_ | refine ev_heap rfl rfl ?_ | refine ev_cmT rfl (by first | exact h1 | exact h2 | exact lx_nlt h1 | exact lx_nlt h2 | rfl | decide) ?_ | refine ev_cmF rfl (by first | exact h1 | exact h2 | exact lx_nlt h1 | exact lx_nlt h2 | rfl | decide) ?_ | refine ev_ifT rfl (by first | exact h1 | exact h2 | exact lx_nlt h1 | exact lx_nlt h2 | rfl | decide) ?_ | refine ev_ifF rfl (by first | exact h1 | exact h2 | exact lx_nlt h1 | exact lx_nlt h2 | rfl | decide) ?_ | refine ev_bi rfl (fun _ => rfl) ?_ | refine ev_enter rfl rfl ?_ | (refine ev_askE rfl rfl ?_; apply Exists.intro; apply Exists.intro; apply And.intro) | refine ev_tab rfl rfl ?_)
set_option maxRecDepth 100000 in
set_option maxHeartbeats 4000000 in
theorem lx_k_law1_0 {a b c : Int32} (h1 : decide (9 < a + b) = true) : lx_like 90 164 [.int (nI 1), .int a, .int b, .int c] := by
  apply Exists.intro
  apply Exists.intro
  apply Exists.intro
  apply And.intro
  · refine ev_enter rfl rfl ?_
    repeat (first | exact ev_ret rfl rfl | refine ev_pure rfl rfl ?_ | refine ev_loc rfl rfl ?_ | refine ev_goto rfl ?_ | refine ev_heap rfl rfl ?_ | refine ev_cmT rfl (by first | exact h1 | exact lx_lt h1 | rfl | decide) ?_ | refine ev_cmF rfl (by first | exact h1 | exact lx_lt h1 | rfl | decide) ?_ | refine ev_ifT rfl (by first | exact h1 | exact lx_lt h1 | rfl | decide) ?_ | refine ev_ifF rfl (by first | exact h1 | exact lx_lt h1 | rfl | decide) ?_ | refine ev_bi rfl (fun _ => rfl) ?_ | refine ev_enter rfl rfl ?_ | (refine ev_askE rfl rfl ?_; apply Exists.intro; apply Exists.intro; apply And.intro) | refine ev_tab rfl rfl ?_)
  · refine ev_enter rfl rfl ?_
    repeat (first | exact ev_ret rfl rfl | refine ev_pure rfl rfl ?_ | refine ev_loc rfl rfl ?_ | refine ev_goto rfl ?_ | refine ev_heap rfl rfl ?_ | refine ev_cmT rfl (by first | exact h1 | exact lx_lt h1 | rfl | decide) ?_ | refine ev_cmF rfl (by first | exact h1 | exact lx_lt h1 | rfl | decide) ?_ | refine ev_ifT rfl (by first | exact h1 | exact lx_lt h1 | rfl | decide) ?_ | refine ev_ifF rfl (by first | exact h1 | exact lx_lt h1 | rfl | decide) ?_ | refine ev_ask rfl rfl (lx_copyAll _ (by decide) rfl rfl rfl rfl) ?_ | refine ev_bi rfl (fun _ => rfl) ?_ | refine ev_enter rfl rfl ?_ | (refine ev_askE rfl rfl ?_; apply Exists.intro; apply Exists.intro; apply And.intro) | refine ev_tab rfl rfl ?_)
set_option maxRecDepth 100000 in
set_option maxHeartbeats 4000000 in
theorem lx_k_law1_1 {a b c : Int32} (h1 : decide (9 < a + b) = false) : lx_like 90 164 [.int (nI 1), .int a, .int b, .int c] := by
  apply Exists.intro
  apply Exists.intro
  apply Exists.intro
  apply And.intro
  · refine ev_enter rfl rfl ?_
    repeat (first | exact ev_ret rfl rfl | refine ev_pure rfl rfl ?_ | refine ev_loc rfl rfl ?_ | refine ev_goto rfl ?_ | refine ev_heap rfl rfl ?_ | refine ev_cmT rfl (by first | exact h1 | exact lx_nlt h1 | rfl | decide) ?_ | refine ev_cmF rfl (by first | exact h1 | exact lx_nlt h1 | rfl | decide) ?_ | refine ev_ifT rfl (by first | exact h1 | exact lx_nlt h1 | rfl | decide) ?_ | refine ev_ifF rfl (by first | exact h1 | exact lx_nlt h1 | rfl | decide) ?_ | refine ev_bi rfl (fun _ => rfl) ?_ | refine ev_enter rfl rfl ?_ | (refine ev_askE rfl rfl ?_; apply Exists.intro; apply Exists.intro; apply And.intro) | refine ev_tab rfl rfl ?_)
  · refine ev_enter rfl rfl ?_
    repeat (first | exact ev_ret rfl rfl | refine ev_pure rfl rfl ?_ | refine ev_loc rfl rfl ?_ | refine ev_goto rfl ?_ | refine ev_heap rfl rfl ?_ | refine ev_cmT rfl (by first | exact h1 | exact lx_nlt h1 | rfl | decide) ?_ | refine ev_cmF rfl (by first | exact h1 | exact lx_nlt h1 | rfl | decide) ?_ | refine ev_ifT rfl (by first | exact h1 | exact lx_nlt h1 | rfl | decide) ?_ | refine ev_ifF rfl (by first | exact h1 | exact lx_nlt h1 | rfl | decide) ?_ | refine ev_ask rfl rfl (lx_copyAll _ (by decide) rfl rfl rfl rfl) ?_ | refine ev_bi rfl (fun _ => rfl) ?_ | refine ev_enter rfl rfl ?_ | (refine ev_askE rfl rfl ?_; apply Exists.intro; apply Exists.intro; apply And.intro) | refine ev_tab rfl rfl ?_)
set_option maxRecDepth 100000 in
set_option maxHeartbeats 4000000 in
theorem lx_o_law (v a b c : Int32) : lx_like 90 164 [.int v, .int a, .int b, .int c] := by
  by_cases h : decide (v < 0) = false ∧ decide (1 < v) = false
  · obtain ⟨j, hj, rfl⟩ := lx_rng 1 (by decide) h.1 h.2
    rcases (show j = 0 ∨ j = 1 by omega) with rfl | rfl
    · cases h1 : decide (1 + a + c < 1) with
      | true => exact lx_k_law0_0 h1
      | false =>
        cases h2 : decide (99 < 1 + a + c) with
        | true => exact lx_k_law0_1 h1 h2
        | false => exact lx_k_law0_2 h1 h2
    · cases h1 : decide (9 < a + b) with
      | true => exact lx_k_law1_0 h1
      | false => exact lx_k_law1_1 h1
  · have h := lx_out h
    have hn := lx_ne01 h
    obtain ⟨w, hw⟩ := lx_merr_1 98
    refine ⟨-1000000001, lx_er 1, w, ?_, ?_⟩
    · refine ev_enter rfl rfl ?_
      repeat (first | exact ev_ret rfl rfl | refine ev_pure rfl rfl ?_ | refine ev_loc rfl rfl ?_ | refine ev_goto rfl ?_ | refine ev_heap rfl rfl ?_ | refine ev_cmT rfl (by first | exact lx_c1n hn.1 | exact lx_c1e hn.1 | exact lx_c2n hn.2 | exact lx_c2e hn.2 | rfl | decide) ?_ | refine ev_cmF rfl (by first | exact lx_c1n hn.1 | exact lx_c1e hn.1 | exact lx_c2n hn.2 | exact lx_c2e hn.2 | rfl | decide) ?_ | refine ev_ifT rfl (by first | exact lx_c1n hn.1 | exact lx_c1e hn.1 | exact lx_c2n hn.2 | exact lx_c2e hn.2 | rfl | decide) ?_ | refine ev_ifF rfl (by first | exact lx_c1n hn.1 | exact lx_c1e hn.1 | exact lx_c2n hn.2 | exact lx_c2e hn.2 | rfl | decide) ?_ | refine ev_ask rfl rfl (lx_within_f _ h) ?_ | refine ev_ask rfl rfl (lx_isSheet_f _ h) ?_ | refine ev_ask rfl rfl (lx_xerr_1 _) ?_ | refine ev_bi rfl (fun _ => rfl) ?_ | refine ev_enter rfl rfl ?_ | (refine ev_askE rfl rfl ?_; apply Exists.intro; apply Exists.intro; apply And.intro) | refine ev_tab rfl rfl ?_)
    · refine ev_enter rfl rfl ?_
      repeat (first | exact ev_ret rfl rfl | refine ev_pure rfl rfl ?_ | refine ev_loc rfl rfl ?_ | refine ev_goto rfl ?_ | refine ev_heap rfl rfl ?_ | refine ev_cmT rfl (by first | exact lx_c1n hn.1 | exact lx_c1e hn.1 | exact lx_c2n hn.2 | exact lx_c2e hn.2 | rfl | decide) ?_ | refine ev_cmF rfl (by first | exact lx_c1n hn.1 | exact lx_c1e hn.1 | exact lx_c2n hn.2 | exact lx_c2e hn.2 | rfl | decide) ?_ | refine ev_ifT rfl (by first | exact lx_c1n hn.1 | exact lx_c1e hn.1 | exact lx_c2n hn.2 | exact lx_c2e hn.2 | rfl | decide) ?_ | refine ev_ifF rfl (by first | exact lx_c1n hn.1 | exact lx_c1e hn.1 | exact lx_c2n hn.2 | exact lx_c2e hn.2 | rfl | decide) ?_ | refine ev_ask rfl rfl (hw) ?_ | refine ev_ask rfl rfl (lx_in_f _ h) ?_ | refine ev_ask rfl rfl (lx_misSheet_f _ h) ?_ | refine ev_bi rfl (fun _ => rfl) ?_ | refine ev_enter rfl rfl ?_ | (refine ev_askE rfl rfl ?_; apply Exists.intro; apply Exists.intro; apply And.intro) | refine ev_tab rfl rfl ?_)
