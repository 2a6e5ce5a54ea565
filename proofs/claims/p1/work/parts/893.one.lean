set_option maxRecDepth 100000 in
set_option maxHeartbeats 4000000 in
theorem lx_k_set_0_t {v : Int32} (h : decide (v < 1) = false ∧ decide (2 < v) = false) : lx_like 83 148 [.int 0, .int v] := by
  apply Exists.intro
  apply Exists.intro
  apply Exists.intro
  apply And.intro
  · refine ev_enter rfl rfl ?_
    repeat (first | exact ev_ret rfl rfl | refine ev_pure rfl rfl ?_ | refine ev_loc rfl rfl ?_ | refine ev_goto rfl ?_ | refine ev_heap rfl rfl ?_ | refine ev_cmT rfl (by first | rfl | decide) ?_ | refine ev_cmF rfl (by first | rfl | decide) ?_ | refine ev_ifT rfl (by first | rfl | decide) ?_ | refine ev_ifF rfl (by first | rfl | decide) ?_ | refine ev_ask rfl rfl (lx_within_t _ h.1 h.2) ?_ | refine ev_bi rfl (fun _ => rfl) ?_ | refine ev_enter rfl rfl ?_ | (refine ev_askE rfl rfl ?_; apply Exists.intro; apply Exists.intro; apply And.intro) | refine ev_tab rfl rfl ?_)
  · refine ev_enter rfl rfl ?_
    repeat (first | exact ev_ret rfl rfl | refine ev_pure rfl rfl ?_ | refine ev_loc rfl rfl ?_ | refine ev_goto rfl ?_ | refine ev_heap rfl rfl ?_ | refine ev_cmT rfl (by first | rfl | decide) ?_ | refine ev_cmF rfl (by first | rfl | decide) ?_ | refine ev_ifT rfl (by first | rfl | decide) ?_ | refine ev_ifF rfl (by first | rfl | decide) ?_ | refine ev_ask rfl rfl (lx_in_t _ h.1 h.2) ?_ | refine ev_bi rfl (fun _ => rfl) ?_ | refine ev_enter rfl rfl ?_ | (refine ev_askE rfl rfl ?_; apply Exists.intro; apply Exists.intro; apply And.intro) | refine ev_tab rfl rfl ?_)
set_option maxRecDepth 100000 in
set_option maxHeartbeats 4000000 in
theorem lx_k_set_0_f {v : Int32} (h : decide (v < 1) = true ∨ decide (2 < v) = true) : lx_like 83 148 [.int 0, .int v] := by
  obtain ⟨w, hw⟩ := lx_merr_1 98
  refine ⟨-1000000001, lx_er 1, w, ?_, ?_⟩
  · refine ev_enter rfl rfl ?_
    repeat (first | exact ev_ret rfl rfl | refine ev_pure rfl rfl ?_ | refine ev_loc rfl rfl ?_ | refine ev_goto rfl ?_ | refine ev_heap rfl rfl ?_ | refine ev_cmT rfl (by first | rfl | decide) ?_ | refine ev_cmF rfl (by first | rfl | decide) ?_ | refine ev_ifT rfl (by first | rfl | decide) ?_ | refine ev_ifF rfl (by first | rfl | decide) ?_ | refine ev_ask rfl rfl (lx_within_f _ h) ?_ | refine ev_ask rfl rfl (lx_isSheet_f _ h) ?_ | refine ev_ask rfl rfl (lx_xerr_1 _) ?_ | refine ev_bi rfl (fun _ => rfl) ?_ | refine ev_enter rfl rfl ?_ | (refine ev_askE rfl rfl ?_; apply Exists.intro; apply Exists.intro; apply And.intro) | refine ev_tab rfl rfl ?_)
  · refine ev_enter rfl rfl ?_
    repeat (first | exact ev_ret rfl rfl | refine ev_pure rfl rfl ?_ | refine ev_loc rfl rfl ?_ | refine ev_goto rfl ?_ | refine ev_heap rfl rfl ?_ | refine ev_cmT rfl (by first | rfl | decide) ?_ | refine ev_cmF rfl (by first | rfl | decide) ?_ | refine ev_ifT rfl (by first | rfl | decide) ?_ | refine ev_ifF rfl (by first | rfl | decide) ?_ | refine ev_ask rfl rfl (hw) ?_ | refine ev_ask rfl rfl (lx_in_f _ h) ?_ | refine ev_ask rfl rfl (lx_misSheet_f _ h) ?_ | refine ev_bi rfl (fun _ => rfl) ?_ | refine ev_enter rfl rfl ?_ | (refine ev_askE rfl rfl ?_; apply Exists.intro; apply Exists.intro; apply And.intro) | refine ev_tab rfl rfl ?_)
set_option maxRecDepth 100000 in
set_option maxHeartbeats 4000000 in
theorem lx_k_set_1_t {v : Int32} (h : decide (v < 0) = false ∧ decide (999 < v) = false) : lx_like 83 148 [.int 1, .int v] := by
  apply Exists.intro
  apply Exists.intro
  apply Exists.intro
  apply And.intro
  · refine ev_enter rfl rfl ?_
    repeat (first | exact ev_ret rfl rfl | refine ev_pure rfl rfl ?_ | refine ev_loc rfl rfl ?_ | refine ev_goto rfl ?_ | refine ev_heap rfl rfl ?_ | refine ev_cmT rfl (by first | rfl | decide) ?_ | refine ev_cmF rfl (by first | rfl | decide) ?_ | refine ev_ifT rfl (by first | rfl | decide) ?_ | refine ev_ifF rfl (by first | rfl | decide) ?_ | refine ev_ask rfl rfl (lx_within_t _ h.1 h.2) ?_ | refine ev_bi rfl (fun _ => rfl) ?_ | refine ev_enter rfl rfl ?_ | (refine ev_askE rfl rfl ?_; apply Exists.intro; apply Exists.intro; apply And.intro) | refine ev_tab rfl rfl ?_)
  · refine ev_enter rfl rfl ?_
    repeat (first | exact ev_ret rfl rfl | refine ev_pure rfl rfl ?_ | refine ev_loc rfl rfl ?_ | refine ev_goto rfl ?_ | refine ev_heap rfl rfl ?_ | refine ev_cmT rfl (by first | rfl | decide) ?_ | refine ev_cmF rfl (by first | rfl | decide) ?_ | refine ev_ifT rfl (by first | rfl | decide) ?_ | refine ev_ifF rfl (by first | rfl | decide) ?_ | refine ev_ask rfl rfl (lx_in_t _ h.1 h.2) ?_ | refine ev_bi rfl (fun _ => rfl) ?_ | refine ev_enter rfl rfl ?_ | (refine ev_askE rfl rfl ?_; apply Exists.intro; apply Exists.intro; apply And.intro) | refine ev_tab rfl rfl ?_)
set_option maxRecDepth 100000 in
set_option maxHeartbeats 4000000 in
theorem lx_k_set_1_f {v : Int32} (h : decide (v < 0) = true ∨ decide (999 < v) = true) : lx_like 83 148 [.int 1, .int v] := by
  obtain ⟨w, hw⟩ := lx_merr_1 98
  refine ⟨-1000000001, lx_er 1, w, ?_, ?_⟩
  · refine ev_enter rfl rfl ?_
    repeat (first | exact ev_ret rfl rfl | refine ev_pure rfl rfl ?_ | refine ev_loc rfl rfl ?_ | refine ev_goto rfl ?_ | refine ev_heap rfl rfl ?_ | refine ev_cmT rfl (by first | rfl | decide) ?_ | refine ev_cmF rfl (by first | rfl | decide) ?_ | refine ev_ifT rfl (by first | rfl | decide) ?_ | refine ev_ifF rfl (by first | rfl | decide) ?_ | refine ev_ask rfl rfl (lx_within_f _ h) ?_ | refine ev_ask rfl rfl (lx_isSheet_f _ h) ?_ | refine ev_ask rfl rfl (lx_xerr_1 _) ?_ | refine ev_bi rfl (fun _ => rfl) ?_ | refine ev_enter rfl rfl ?_ | (refine ev_askE rfl rfl ?_; apply Exists.intro; apply Exists.intro; apply And.intro) | refine ev_tab rfl rfl ?_)
  · refine ev_enter rfl rfl ?_
    repeat (first | exact ev_ret rfl rfl | refine ev_pure rfl rfl ?_ | refine ev_loc rfl rfl ?_ | refine ev_goto rfl ?_ | refine ev_heap rfl rfl ?_ | refine ev_cmT rfl (by first | rfl | decide) ?_ | refine ev_cmF rfl (by first | rfl | decide) ?_ | refine ev_ifT rfl (by first | rfl | decide) ?_ | refine ev_ifF rfl (by first | rfl | decide) ?_ | refine ev_ask rfl rfl (hw) ?_ | refine ev_ask rfl rfl (lx_in_f _ h) ?_ | refine ev_ask rfl rfl (lx_misSheet_f _ h) ?_ | refine ev_bi rfl (fun _ => rfl) ?_ | refine ev_enter rfl rfl ?_ | (refine ev_askE rfl rfl ?_; apply Exists.intro; apply Exists.intro; apply And.intro) | refine ev_tab rfl rfl ?_)
set_option maxRecDepth 100000 in
set_option maxHeartbeats 4000000 in
theorem lx_k_set_2_t {v : Int32} (h : decide (v < 0) = false ∧ decide (99999 < v) = false) : lx_like 83 148 [.int 2, .int v] := by
  apply Exists.intro
  apply Exists.intro
  apply Exists.intro
  apply And.intro
  · refine ev_enter rfl rfl ?_
    repeat (first | exact ev_ret rfl rfl | refine ev_pure rfl rfl ?_ | refine ev_loc rfl rfl ?_ | refine ev_goto rfl ?_ | refine ev_heap rfl rfl ?_ | refine ev_cmT rfl (by first | rfl | decide) ?_ | refine ev_cmF rfl (by first | rfl | decide) ?_ | refine ev_ifT rfl (by first | rfl | decide) ?_ | refine ev_ifF rfl (by first | rfl | decide) ?_ | refine ev_ask rfl rfl (lx_within_t _ h.1 h.2) ?_ | refine ev_bi rfl (fun _ => rfl) ?_ | refine ev_enter rfl rfl ?_ | (refine ev_askE rfl rfl ?_; apply Exists.intro; apply Exists.intro; apply And.intro) | refine ev_tab rfl rfl ?_)
  · refine ev_enter rfl rfl ?_
    repeat (first | exact ev_ret rfl rfl | refine ev_pure rfl rfl ?_ | refine ev_loc rfl rfl ?_ | refine ev_goto rfl ?_ | refine ev_heap rfl rfl ?_ | refine ev_cmT rfl (by first | rfl | decide) ?_ | refine ev_cmF rfl (by first | rfl | decide) ?_ | refine ev_ifT rfl (by first | rfl | decide) ?_ | refine ev_ifF rfl (by first | rfl | decide) ?_ | refine ev_ask rfl rfl (lx_in_t _ h.1 h.2) ?_ | refine ev_bi rfl (fun _ => rfl) ?_ | refine ev_enter rfl rfl ?_ | (refine ev_askE rfl rfl ?_; apply Exists.intro; apply Exists.intro; apply And.intro) | refine ev_tab rfl rfl ?_)
set_option maxRecDepth 100000 in
set_option maxHeartbeats 4000000 in
theorem lx_k_set_2_f {v : Int32} (h : decide (v < 0) = true ∨ decide (99999 < v) = true) : lx_like 83 148 [.int 2, .int v] := by
  obtain ⟨w, hw⟩ := lx_merr_1 98
  refine ⟨-1000000001, lx_er 1, w, ?_, ?_⟩
  · refine ev_enter rfl rfl ?_
    repeat (first | exact ev_ret rfl rfl | refine ev_pure rfl rfl ?_ | refine ev_loc rfl rfl ?_ | refine ev_goto rfl ?_ | refine ev_heap rfl rfl ?_ | refine ev_cmT rfl (by first | rfl | decide) ?_ | refine ev_cmF rfl (by first | rfl | decide) ?_ | refine ev_ifT rfl (by first | rfl | decide) ?_ | refine ev_ifF rfl (by first | rfl | decide) ?_ | refine ev_ask rfl rfl (lx_within_f _ h) ?_ | refine ev_ask rfl rfl (lx_isSheet_f _ h) ?_ | refine ev_ask rfl rfl (lx_xerr_1 _) ?_ | refine ev_bi rfl (fun _ => rfl) ?_ | refine ev_enter rfl rfl ?_ | (refine ev_askE rfl rfl ?_; apply Exists.intro; apply Exists.intro; apply And.intro) | refine ev_tab rfl rfl ?_)
  · refine ev_enter rfl rfl ?_
    repeat (first | exact ev_ret rfl rfl | refine ev_pure rfl rfl ?_ | refine ev_loc rfl rfl ?_ | refine ev_goto rfl ?_ | refine ev_heap rfl rfl ?_ | refine ev_cmT rfl (by first | rfl | decide) ?_ | refine ev_cmF rfl (by first | rfl | decide) ?_ | refine ev_ifT rfl (by first | rfl | decide) ?_ | refine ev_ifF rfl (by first | rfl | decide) ?_ | refine ev_ask rfl rfl (hw) ?_ | refine ev_ask rfl rfl (lx_in_f _ h) ?_ | refine ev_ask rfl rfl (lx_misSheet_f _ h) ?_ | refine ev_bi rfl (fun _ => rfl) ?_ | refine ev_enter rfl rfl ?_ | (refine ev_askE rfl rfl ?_; apply Exists.intro; apply Exists.intro; apply And.intro) | refine ev_tab rfl rfl ?_)
theorem lx_ne012 {v : Int32} (h0 : ¬ v = 0) (h1 : ¬ v = 1) (h2 : ¬ v = 2) : v.toInt < 0 ∨ 2 < v.toInt := by
  have a : v.toInt ≠ 0 := fun q => h0 (Int32.toInt_inj.mp (q.trans (by decide)))
  have b : v.toInt ≠ 1 := fun q => h1 (Int32.toInt_inj.mp (q.trans (by decide)))
  have c : v.toInt ≠ 2 := fun q => h2 (Int32.toInt_inj.mp (q.trans (by decide)))
  omega
set_option maxRecDepth 100000 in
set_option maxHeartbeats 4000000 in
theorem lx_o_set (q v : Int32) : lx_like 83 148 [.int q, .int v] := by
  by_cases h0 : q = 0
  · subst h0
    by_cases h : decide (v < 1) = false ∧ decide (2 < v) = false
    · exact lx_k_set_0_t h
    · exact lx_k_set_0_f (lx_out h)
  · by_cases h1 : q = 1
    · subst h1
      by_cases h : decide (v < 0) = false ∧ decide (999 < v) = false
      · exact lx_k_set_1_t h
      · exact lx_k_set_1_f (lx_out h)
    · by_cases h2 : q = 2
      · subst h2
        by_cases h : decide (v < 0) = false ∧ decide (99999 < v) = false
        · exact lx_k_set_2_t h
        · exact lx_k_set_2_f (lx_out h)
      · have hD := lx_ne012 h0 h1 h2
        obtain ⟨w, hw⟩ := lx_merr_1 98
        refine ⟨-1000000001, lx_er 1, w, ?_, ?_⟩
        · refine ev_enter rfl rfl ?_
          repeat (first | refine ev_tabD rfl hD rfl ?_ | exact ev_ret rfl rfl | refine ev_pure rfl rfl ?_ | refine ev_loc rfl rfl ?_ | refine ev_goto rfl ?_ | refine ev_heap rfl rfl ?_ | refine ev_cmT rfl (by first | exact lx_c1n h0 | exact lx_c1e h0 | exact lx_c2n h1 | exact lx_c2e h1 | exact lx_c2n h2 | exact lx_c2e h2 | rfl | decide) ?_ | refine ev_cmF rfl (by first | exact lx_c1n h0 | exact lx_c1e h0 | exact lx_c2n h1 | exact lx_c2e h1 | exact lx_c2n h2 | exact lx_c2e h2 | rfl | decide) ?_ | refine ev_ifT rfl (by first | exact lx_c1n h0 | exact lx_c1e h0 | exact lx_c2n h1 | exact lx_c2e h1 | exact lx_c2n h2 | exact lx_c2e h2 | rfl | decide) ?_ | refine ev_ifF rfl (by first | exact lx_c1n h0 | exact lx_c1e h0 | exact lx_c2n h1 | exact lx_c2e h1 | exact lx_c2n h2 | exact lx_c2e h2 | rfl | decide) ?_ | refine ev_ask rfl rfl (lx_within_f _ h) ?_ | refine ev_ask rfl rfl (lx_isSheet_f _ h) ?_ | refine ev_ask rfl rfl (lx_xerr_1 _) ?_ | refine ev_bi rfl (fun _ => rfl) ?_ | refine ev_enter rfl rfl ?_ | (refine ev_askE rfl rfl ?_; apply Exists.intro; apply Exists.intro; apply And.intro) | refine ev_tab rfl rfl ?_)
        · refine ev_enter rfl rfl ?_
          repeat (first | refine ev_tabD rfl hD rfl ?_ | exact ev_ret rfl rfl | refine ev_pure rfl rfl ?_ | refine ev_loc rfl rfl ?_ | refine ev_goto rfl ?_ | refine ev_heap rfl rfl ?_ | refine ev_cmT rfl (by first | exact lx_c1n h0 | exact lx_c1e h0 | exact lx_c2n h1 | exact lx_c2e h1 | exact lx_c2n h2 | exact lx_c2e h2 | rfl | decide) ?_ | refine ev_cmF rfl (by first | exact lx_c1n h0 | exact lx_c1e h0 | exact lx_c2n h1 | exact lx_c2e h1 | exact lx_c2n h2 | exact lx_c2e h2 | rfl | decide) ?_ | refine ev_ifT rfl (by first | exact lx_c1n h0 | exact lx_c1e h0 | exact lx_c2n h1 | exact lx_c2e h1 | exact lx_c2n h2 | exact lx_c2e h2 | rfl | decide) ?_ | refine ev_ifF rfl (by first | exact lx_c1n h0 | exact lx_c1e h0 | exact lx_c2n h1 | exact lx_c2e h1 | exact lx_c2n h2 | exact lx_c2e h2 | rfl | decide) ?_ | refine ev_ask rfl rfl (hw) ?_ | refine ev_ask rfl rfl (lx_in_f _ h) ?_ | refine ev_ask rfl rfl (lx_misSheet_f _ h) ?_ | refine ev_bi rfl (fun _ => rfl) ?_ | refine ev_enter rfl rfl ?_ | (refine ev_askE rfl rfl ?_; apply Exists.intro; apply Exists.intro; apply And.intro) | refine ev_tab rfl rfl ?_)
