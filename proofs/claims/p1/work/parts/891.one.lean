set_option maxRecDepth 100000 in
set_option maxHeartbeats 4000000 in
theorem lx_k_screws_0 : lx_like 117 218 [.int (nI 0)] := by
  apply Exists.intro
  apply Exists.intro
  apply Exists.intro
  apply And.intro
  · refine ev_enter rfl rfl ?_
    repeat (first | exact ev_ret rfl rfl | refine ev_pure rfl rfl ?_ | refine ev_loc rfl rfl ?_ | refine ev_goto rfl ?_ | refine ev_heap rfl rfl ?_ | refine ev_cmT rfl (by first | rfl | decide) ?_ | refine ev_cmF rfl (by first | rfl | decide) ?_ | refine ev_ifT rfl (by first | rfl | decide) ?_ | refine ev_ifF rfl (by first | rfl | decide) ?_ | refine ev_bi rfl (fun _ => rfl) ?_ | refine ev_enter rfl rfl ?_ | (refine ev_askE rfl rfl ?_; apply Exists.intro; apply Exists.intro; apply And.intro) | refine ev_tab rfl rfl ?_)
  · refine ev_enter rfl rfl ?_
    repeat (first | exact ev_ret rfl rfl | refine ev_pure rfl rfl ?_ | refine ev_loc rfl rfl ?_ | refine ev_goto rfl ?_ | refine ev_heap rfl rfl ?_ | refine ev_cmT rfl (by first | rfl | decide) ?_ | refine ev_cmF rfl (by first | rfl | decide) ?_ | refine ev_ifT rfl (by first | rfl | decide) ?_ | refine ev_ifF rfl (by first | rfl | decide) ?_ | refine ev_ask rfl rfl (lx_copyAll _ (by decide) rfl rfl rfl rfl) ?_ | refine ev_bi rfl (fun _ => rfl) ?_ | refine ev_enter rfl rfl ?_ | (refine ev_askE rfl rfl ?_; apply Exists.intro; apply Exists.intro; apply And.intro) | refine ev_tab rfl rfl ?_)
set_option maxRecDepth 100000 in
set_option maxHeartbeats 4000000 in
theorem lx_k_screws_1 : lx_like 117 218 [.int (nI 1)] := by
  apply Exists.intro
  apply Exists.intro
  apply Exists.intro
  apply And.intro
  · refine ev_enter rfl rfl ?_
    repeat (first | exact ev_ret rfl rfl | refine ev_pure rfl rfl ?_ | refine ev_loc rfl rfl ?_ | refine ev_goto rfl ?_ | refine ev_heap rfl rfl ?_ | refine ev_cmT rfl (by first | rfl | decide) ?_ | refine ev_cmF rfl (by first | rfl | decide) ?_ | refine ev_ifT rfl (by first | rfl | decide) ?_ | refine ev_ifF rfl (by first | rfl | decide) ?_ | refine ev_bi rfl (fun _ => rfl) ?_ | refine ev_enter rfl rfl ?_ | (refine ev_askE rfl rfl ?_; apply Exists.intro; apply Exists.intro; apply And.intro) | refine ev_tab rfl rfl ?_)
  · refine ev_enter rfl rfl ?_
    repeat (first | exact ev_ret rfl rfl | refine ev_pure rfl rfl ?_ | refine ev_loc rfl rfl ?_ | refine ev_goto rfl ?_ | refine ev_heap rfl rfl ?_ | refine ev_cmT rfl (by first | rfl | decide) ?_ | refine ev_cmF rfl (by first | rfl | decide) ?_ | refine ev_ifT rfl (by first | rfl | decide) ?_ | refine ev_ifF rfl (by first | rfl | decide) ?_ | refine ev_ask rfl rfl (lx_copyAll _ (by decide) rfl rfl rfl rfl) ?_ | refine ev_bi rfl (fun _ => rfl) ?_ | refine ev_enter rfl rfl ?_ | (refine ev_askE rfl rfl ?_; apply Exists.intro; apply Exists.intro; apply And.intro) | refine ev_tab rfl rfl ?_)
set_option maxRecDepth 100000 in
set_option maxHeartbeats 4000000 in
theorem lx_k_screws_2 : lx_like 117 218 [.int (nI 2)] := by
  apply Exists.intro
  apply Exists.intro
  apply Exists.intro
  apply And.intro
  · refine ev_enter rfl rfl ?_
    repeat (first | exact ev_ret rfl rfl | refine ev_pure rfl rfl ?_ | refine ev_loc rfl rfl ?_ | refine ev_goto rfl ?_ | refine ev_heap rfl rfl ?_ | refine ev_cmT rfl (by first | rfl | decide) ?_ | refine ev_cmF rfl (by first | rfl | decide) ?_ | refine ev_ifT rfl (by first | rfl | decide) ?_ | refine ev_ifF rfl (by first | rfl | decide) ?_ | refine ev_bi rfl (fun _ => rfl) ?_ | refine ev_enter rfl rfl ?_ | (refine ev_askE rfl rfl ?_; apply Exists.intro; apply Exists.intro; apply And.intro) | refine ev_tab rfl rfl ?_)
  · refine ev_enter rfl rfl ?_
    repeat (first | exact ev_ret rfl rfl | refine ev_pure rfl rfl ?_ | refine ev_loc rfl rfl ?_ | refine ev_goto rfl ?_ | refine ev_heap rfl rfl ?_ | refine ev_cmT rfl (by first | rfl | decide) ?_ | refine ev_cmF rfl (by first | rfl | decide) ?_ | refine ev_ifT rfl (by first | rfl | decide) ?_ | refine ev_ifF rfl (by first | rfl | decide) ?_ | refine ev_ask rfl rfl (lx_copyAll _ (by decide) rfl rfl rfl rfl) ?_ | refine ev_bi rfl (fun _ => rfl) ?_ | refine ev_enter rfl rfl ?_ | (refine ev_askE rfl rfl ?_; apply Exists.intro; apply Exists.intro; apply And.intro) | refine ev_tab rfl rfl ?_)
set_option maxRecDepth 100000 in
set_option maxHeartbeats 4000000 in
theorem lx_k_screws_3 : lx_like 117 218 [.int (nI 3)] := by
  apply Exists.intro
  apply Exists.intro
  apply Exists.intro
  apply And.intro
  · refine ev_enter rfl rfl ?_
    repeat (first | exact ev_ret rfl rfl | refine ev_pure rfl rfl ?_ | refine ev_loc rfl rfl ?_ | refine ev_goto rfl ?_ | refine ev_heap rfl rfl ?_ | refine ev_cmT rfl (by first | rfl | decide) ?_ | refine ev_cmF rfl (by first | rfl | decide) ?_ | refine ev_ifT rfl (by first | rfl | decide) ?_ | refine ev_ifF rfl (by first | rfl | decide) ?_ | refine ev_bi rfl (fun _ => rfl) ?_ | refine ev_enter rfl rfl ?_ | (refine ev_askE rfl rfl ?_; apply Exists.intro; apply Exists.intro; apply And.intro) | refine ev_tab rfl rfl ?_)
  · refine ev_enter rfl rfl ?_
    repeat (first | exact ev_ret rfl rfl | refine ev_pure rfl rfl ?_ | refine ev_loc rfl rfl ?_ | refine ev_goto rfl ?_ | refine ev_heap rfl rfl ?_ | refine ev_cmT rfl (by first | rfl | decide) ?_ | refine ev_cmF rfl (by first | rfl | decide) ?_ | refine ev_ifT rfl (by first | rfl | decide) ?_ | refine ev_ifF rfl (by first | rfl | decide) ?_ | refine ev_ask rfl rfl (lx_copyAll _ (by decide) rfl rfl rfl rfl) ?_ | refine ev_bi rfl (fun _ => rfl) ?_ | refine ev_enter rfl rfl ?_ | (refine ev_askE rfl rfl ?_; apply Exists.intro; apply Exists.intro; apply And.intro) | refine ev_tab rfl rfl ?_)
set_option maxRecDepth 100000 in
set_option maxHeartbeats 4000000 in
theorem lx_o_screws (v : Int32) : lx_like 117 218 [.int v] := by
  by_cases h : decide (v < 0) = false ∧ decide (3 < v) = false
  · obtain ⟨j, hj, rfl⟩ := lx_rng 3 (by decide) h.1 h.2
    rcases (show j = 0 ∨ j = 1 ∨ j = 2 ∨ j = 3 by omega) with rfl | rfl | rfl | rfl
    · exact lx_k_screws_0
    · exact lx_k_screws_1
    · exact lx_k_screws_2
    · exact lx_k_screws_3
  · have h := lx_out h
    obtain ⟨w, hw⟩ := lx_merr_1 98
    refine ⟨-1000000001, lx_er 1, w, ?_, ?_⟩
    · refine ev_enter rfl rfl ?_
      repeat (first | exact ev_ret rfl rfl | refine ev_pure rfl rfl ?_ | refine ev_loc rfl rfl ?_ | refine ev_goto rfl ?_ | refine ev_heap rfl rfl ?_ | refine ev_cmT rfl (by first | rfl | decide) ?_ | refine ev_cmF rfl (by first | rfl | decide) ?_ | refine ev_ifT rfl (by first | rfl | decide) ?_ | refine ev_ifF rfl (by first | rfl | decide) ?_ | refine ev_ask rfl rfl (lx_within_f _ h) ?_ | refine ev_ask rfl rfl (lx_isSheet_f _ h) ?_ | refine ev_ask rfl rfl (lx_xerr_1 _) ?_ | refine ev_bi rfl (fun _ => rfl) ?_ | refine ev_enter rfl rfl ?_ | (refine ev_askE rfl rfl ?_; apply Exists.intro; apply Exists.intro; apply And.intro) | refine ev_tab rfl rfl ?_)
    · refine ev_enter rfl rfl ?_
      repeat (first | exact ev_ret rfl rfl | refine ev_pure rfl rfl ?_ | refine ev_loc rfl rfl ?_ | refine ev_goto rfl ?_ | refine ev_heap rfl rfl ?_ | refine ev_cmT rfl (by first | rfl | decide) ?_ | refine ev_cmF rfl (by first | rfl | decide) ?_ | refine ev_ifT rfl (by first | rfl | decide) ?_ | refine ev_ifF rfl (by first | rfl | decide) ?_ | refine ev_ask rfl rfl (hw) ?_ | refine ev_ask rfl rfl (lx_in_f _ h) ?_ | refine ev_ask rfl rfl (lx_misSheet_f _ h) ?_ | refine ev_bi rfl (fun _ => rfl) ?_ | refine ev_enter rfl rfl ?_ | (refine ev_askE rfl rfl ?_; apply Exists.intro; apply Exists.intro; apply And.intro) | refine ev_tab rfl rfl ?_)
set_option maxRecDepth 100000 in
set_option maxHeartbeats 4000000 in
theorem lx_k_judge_0 : lx_like 118 219 [.int (nI 0)] := by
  apply Exists.intro
  apply Exists.intro
  apply Exists.intro
  apply And.intro
  · refine ev_enter rfl rfl ?_
    repeat (first | exact ev_ret rfl rfl | refine ev_pure rfl rfl ?_ | refine ev_loc rfl rfl ?_ | refine ev_goto rfl ?_ | refine ev_heap rfl rfl ?_ | refine ev_cmT rfl (by first | rfl | decide) ?_ | refine ev_cmF rfl (by first | rfl | decide) ?_ | refine ev_ifT rfl (by first | rfl | decide) ?_ | refine ev_ifF rfl (by first | rfl | decide) ?_ | refine ev_bi rfl (fun _ => rfl) ?_ | refine ev_enter rfl rfl ?_ | (refine ev_askE rfl rfl ?_; apply Exists.intro; apply Exists.intro; apply And.intro) | refine ev_tab rfl rfl ?_)
  · refine ev_enter rfl rfl ?_
    repeat (first | exact ev_ret rfl rfl | refine ev_pure rfl rfl ?_ | refine ev_loc rfl rfl ?_ | refine ev_goto rfl ?_ | refine ev_heap rfl rfl ?_ | refine ev_cmT rfl (by first | rfl | decide) ?_ | refine ev_cmF rfl (by first | rfl | decide) ?_ | refine ev_ifT rfl (by first | rfl | decide) ?_ | refine ev_ifF rfl (by first | rfl | decide) ?_ | refine ev_ask rfl rfl (lx_copyAll _ (by decide) rfl rfl rfl rfl) ?_ | refine ev_bi rfl (fun _ => rfl) ?_ | refine ev_enter rfl rfl ?_ | (refine ev_askE rfl rfl ?_; apply Exists.intro; apply Exists.intro; apply And.intro) | refine ev_tab rfl rfl ?_)
set_option maxRecDepth 100000 in
set_option maxHeartbeats 4000000 in
theorem lx_k_judge_1 : lx_like 118 219 [.int (nI 1)] := by
  apply Exists.intro
  apply Exists.intro
  apply Exists.intro
  apply And.intro
  · refine ev_enter rfl rfl ?_
    repeat (first | exact ev_ret rfl rfl | refine ev_pure rfl rfl ?_ | refine ev_loc rfl rfl ?_ | refine ev_goto rfl ?_ | refine ev_heap rfl rfl ?_ | refine ev_cmT rfl (by first | rfl | decide) ?_ | refine ev_cmF rfl (by first | rfl | decide) ?_ | refine ev_ifT rfl (by first | rfl | decide) ?_ | refine ev_ifF rfl (by first | rfl | decide) ?_ | refine ev_bi rfl (fun _ => rfl) ?_ | refine ev_enter rfl rfl ?_ | (refine ev_askE rfl rfl ?_; apply Exists.intro; apply Exists.intro; apply And.intro) | refine ev_tab rfl rfl ?_)
  · refine ev_enter rfl rfl ?_
    repeat (first | exact ev_ret rfl rfl | refine ev_pure rfl rfl ?_ | refine ev_loc rfl rfl ?_ | refine ev_goto rfl ?_ | refine ev_heap rfl rfl ?_ | refine ev_cmT rfl (by first | rfl | decide) ?_ | refine ev_cmF rfl (by first | rfl | decide) ?_ | refine ev_ifT rfl (by first | rfl | decide) ?_ | refine ev_ifF rfl (by first | rfl | decide) ?_ | refine ev_ask rfl rfl (lx_copyAll _ (by decide) rfl rfl rfl rfl) ?_ | refine ev_bi rfl (fun _ => rfl) ?_ | refine ev_enter rfl rfl ?_ | (refine ev_askE rfl rfl ?_; apply Exists.intro; apply Exists.intro; apply And.intro) | refine ev_tab rfl rfl ?_)
set_option maxRecDepth 100000 in
set_option maxHeartbeats 4000000 in
theorem lx_k_judge_2 : lx_like 118 219 [.int (nI 2)] := by
  apply Exists.intro
  apply Exists.intro
  apply Exists.intro
  apply And.intro
  · refine ev_enter rfl rfl ?_
    repeat (first | exact ev_ret rfl rfl | refine ev_pure rfl rfl ?_ | refine ev_loc rfl rfl ?_ | refine ev_goto rfl ?_ | refine ev_heap rfl rfl ?_ | refine ev_cmT rfl (by first | rfl | decide) ?_ | refine ev_cmF rfl (by first | rfl | decide) ?_ | refine ev_ifT rfl (by first | rfl | decide) ?_ | refine ev_ifF rfl (by first | rfl | decide) ?_ | refine ev_bi rfl (fun _ => rfl) ?_ | refine ev_enter rfl rfl ?_ | (refine ev_askE rfl rfl ?_; apply Exists.intro; apply Exists.intro; apply And.intro) | refine ev_tab rfl rfl ?_)
  · refine ev_enter rfl rfl ?_
    repeat (first | exact ev_ret rfl rfl | refine ev_pure rfl rfl ?_ | refine ev_loc rfl rfl ?_ | refine ev_goto rfl ?_ | refine ev_heap rfl rfl ?_ | refine ev_cmT rfl (by first | rfl | decide) ?_ | refine ev_cmF rfl (by first | rfl | decide) ?_ | refine ev_ifT rfl (by first | rfl | decide) ?_ | refine ev_ifF rfl (by first | rfl | decide) ?_ | refine ev_ask rfl rfl (lx_copyAll _ (by decide) rfl rfl rfl rfl) ?_ | refine ev_bi rfl (fun _ => rfl) ?_ | refine ev_enter rfl rfl ?_ | (refine ev_askE rfl rfl ?_; apply Exists.intro; apply Exists.intro; apply And.intro) | refine ev_tab rfl rfl ?_)
set_option maxRecDepth 100000 in
set_option maxHeartbeats 4000000 in
theorem lx_k_judge_3 : lx_like 118 219 [.int (nI 3)] := by
  apply Exists.intro
  apply Exists.intro
  apply Exists.intro
  apply And.intro
  · refine ev_enter rfl rfl ?_
    repeat (first | exact ev_ret rfl rfl | refine ev_pure rfl rfl ?_ | refine ev_loc rfl rfl ?_ | refine ev_goto rfl ?_ | refine ev_heap rfl rfl ?_ | refine ev_cmT rfl (by first | rfl | decide) ?_ | refine ev_cmF rfl (by first | rfl | decide) ?_ | refine ev_ifT rfl (by first | rfl | decide) ?_ | refine ev_ifF rfl (by first | rfl | decide) ?_ | refine ev_bi rfl (fun _ => rfl) ?_ | refine ev_enter rfl rfl ?_ | (refine ev_askE rfl rfl ?_; apply Exists.intro; apply Exists.intro; apply And.intro) | refine ev_tab rfl rfl ?_)
  · refine ev_enter rfl rfl ?_
    repeat (first | exact ev_ret rfl rfl | refine ev_pure rfl rfl ?_ | refine ev_loc rfl rfl ?_ | refine ev_goto rfl ?_ | refine ev_heap rfl rfl ?_ | refine ev_cmT rfl (by first | rfl | decide) ?_ | refine ev_cmF rfl (by first | rfl | decide) ?_ | refine ev_ifT rfl (by first | rfl | decide) ?_ | refine ev_ifF rfl (by first | rfl | decide) ?_ | refine ev_ask rfl rfl (lx_copyAll _ (by decide) rfl rfl rfl rfl) ?_ | refine ev_bi rfl (fun _ => rfl) ?_ | refine ev_enter rfl rfl ?_ | (refine ev_askE rfl rfl ?_; apply Exists.intro; apply Exists.intro; apply And.intro) | refine ev_tab rfl rfl ?_)
set_option maxRecDepth 100000 in
set_option maxHeartbeats 4000000 in
theorem lx_o_judge (v : Int32) : lx_like 118 219 [.int v] := by
  by_cases h : decide (v < 0) = false ∧ decide (3 < v) = false
  · obtain ⟨j, hj, rfl⟩ := lx_rng 3 (by decide) h.1 h.2
    rcases (show j = 0 ∨ j = 1 ∨ j = 2 ∨ j = 3 by omega) with rfl | rfl | rfl | rfl
    · exact lx_k_judge_0
    · exact lx_k_judge_1
    · exact lx_k_judge_2
    · exact lx_k_judge_3
  · have h := lx_out h
    obtain ⟨w, hw⟩ := lx_merr_1 98
    refine ⟨-1000000001, lx_er 1, w, ?_, ?_⟩
    · refine ev_enter rfl rfl ?_
      repeat (first | exact ev_ret rfl rfl | refine ev_pure rfl rfl ?_ | refine ev_loc rfl rfl ?_ | refine ev_goto rfl ?_ | refine ev_heap rfl rfl ?_ | refine ev_cmT rfl (by first | rfl | decide) ?_ | refine ev_cmF rfl (by first | rfl | decide) ?_ | refine ev_ifT rfl (by first | rfl | decide) ?_ | refine ev_ifF rfl (by first | rfl | decide) ?_ | refine ev_ask rfl rfl (lx_within_f _ h) ?_ | refine ev_ask rfl rfl (lx_isSheet_f _ h) ?_ | refine ev_ask rfl rfl (lx_xerr_1 _) ?_ | refine ev_bi rfl (fun _ => rfl) ?_ | refine ev_enter rfl rfl ?_ | (refine ev_askE rfl rfl ?_; apply Exists.intro; apply Exists.intro; apply And.intro) | refine ev_tab rfl rfl ?_)
    · refine ev_enter rfl rfl ?_
      repeat (first | exact ev_ret rfl rfl | refine ev_pure rfl rfl ?_ | refine ev_loc rfl rfl ?_ | refine ev_goto rfl ?_ | refine ev_heap rfl rfl ?_ | refine ev_cmT rfl (by first | rfl | decide) ?_ | refine ev_cmF rfl (by first | rfl | decide) ?_ | refine ev_ifT rfl (by first | rfl | decide) ?_ | refine ev_ifF rfl (by first | rfl | decide) ?_ | refine ev_ask rfl rfl (hw) ?_ | refine ev_ask rfl rfl (lx_in_f _ h) ?_ | refine ev_ask rfl rfl (lx_misSheet_f _ h) ?_ | refine ev_bi rfl (fun _ => rfl) ?_ | refine ev_enter rfl rfl ?_ | (refine ev_askE rfl rfl ?_; apply Exists.intro; apply Exists.intro; apply And.intro) | refine ev_tab rfl rfl ?_)
set_option maxRecDepth 100000 in
set_option maxHeartbeats 4000000 in
theorem lx_k_count_0 : lx_like 123 224 [.int (nI 0)] := by
  apply Exists.intro
  apply Exists.intro
  apply Exists.intro
  apply And.intro
  · refine ev_enter rfl rfl ?_
    repeat (first | exact ev_ret rfl rfl | refine ev_pure rfl rfl ?_ | refine ev_loc rfl rfl ?_ | refine ev_goto rfl ?_ | refine ev_heap rfl rfl ?_ | refine ev_cmT rfl (by first | rfl | decide) ?_ | refine ev_cmF rfl (by first | rfl | decide) ?_ | refine ev_ifT rfl (by first | rfl | decide) ?_ | refine ev_ifF rfl (by first | rfl | decide) ?_ | refine ev_bi rfl (fun _ => rfl) ?_ | refine ev_enter rfl rfl ?_ | (refine ev_askE rfl rfl ?_; apply Exists.intro; apply Exists.intro; apply And.intro) | refine ev_tab rfl rfl ?_)
  · refine ev_enter rfl rfl ?_
    repeat (first | exact ev_ret rfl rfl | refine ev_pure rfl rfl ?_ | refine ev_loc rfl rfl ?_ | refine ev_goto rfl ?_ | refine ev_heap rfl rfl ?_ | refine ev_cmT rfl (by first | rfl | decide) ?_ | refine ev_cmF rfl (by first | rfl | decide) ?_ | refine ev_ifT rfl (by first | rfl | decide) ?_ | refine ev_ifF rfl (by first | rfl | decide) ?_ | refine ev_ask rfl rfl (lx_copyAll _ (by decide) rfl rfl rfl rfl) ?_ | refine ev_bi rfl (fun _ => rfl) ?_ | refine ev_enter rfl rfl ?_ | (refine ev_askE rfl rfl ?_; apply Exists.intro; apply Exists.intro; apply And.intro) | refine ev_tab rfl rfl ?_)
set_option maxRecDepth 100000 in
set_option maxHeartbeats 4000000 in
theorem lx_k_count_1 : lx_like 123 224 [.int (nI 1)] := by
  apply Exists.intro
  apply Exists.intro
  apply Exists.intro
  apply And.intro
  · refine ev_enter rfl rfl ?_
    repeat (first | exact ev_ret rfl rfl | refine ev_pure rfl rfl ?_ | refine ev_loc rfl rfl ?_ | refine ev_goto rfl ?_ | refine ev_heap rfl rfl ?_ | refine ev_cmT rfl (by first | rfl | decide) ?_ | refine ev_cmF rfl (by first | rfl | decide) ?_ | refine ev_ifT rfl (by first | rfl | decide) ?_ | refine ev_ifF rfl (by first | rfl | decide) ?_ | refine ev_bi rfl (fun _ => rfl) ?_ | refine ev_enter rfl rfl ?_ | (refine ev_askE rfl rfl ?_; apply Exists.intro; apply Exists.intro; apply And.intro) | refine ev_tab rfl rfl ?_)
  · refine ev_enter rfl rfl ?_
    repeat (first | exact ev_ret rfl rfl | refine ev_pure rfl rfl ?_ | refine ev_loc rfl rfl ?_ | refine ev_goto rfl ?_ | refine ev_heap rfl rfl ?_ | refine ev_cmT rfl (by first | rfl | decide) ?_ | refine ev_cmF rfl (by first | rfl | decide) ?_ | refine ev_ifT rfl (by first | rfl | decide) ?_ | refine ev_ifF rfl (by first | rfl | decide) ?_ | refine ev_ask rfl rfl (lx_copyAll _ (by decide) rfl rfl rfl rfl) ?_ | refine ev_bi rfl (fun _ => rfl) ?_ | refine ev_enter rfl rfl ?_ | (refine ev_askE rfl rfl ?_; apply Exists.intro; apply Exists.intro; apply And.intro) | refine ev_tab rfl rfl ?_)
set_option maxRecDepth 100000 in
set_option maxHeartbeats 4000000 in
theorem lx_k_count_2 : lx_like 123 224 [.int (nI 2)] := by
  apply Exists.intro
  apply Exists.intro
  apply Exists.intro
  apply And.intro
  · refine ev_enter rfl rfl ?_
    repeat (first | exact ev_ret rfl rfl | refine ev_pure rfl rfl ?_ | refine ev_loc rfl rfl ?_ | refine ev_goto rfl ?_ | refine ev_heap rfl rfl ?_ | refine ev_cmT rfl (by first | rfl | decide) ?_ | refine ev_cmF rfl (by first | rfl | decide) ?_ | refine ev_ifT rfl (by first | rfl | decide) ?_ | refine ev_ifF rfl (by first | rfl | decide) ?_ | refine ev_bi rfl (fun _ => rfl) ?_ | refine ev_enter rfl rfl ?_ | (refine ev_askE rfl rfl ?_; apply Exists.intro; apply Exists.intro; apply And.intro) | refine ev_tab rfl rfl ?_)
  · refine ev_enter rfl rfl ?_
    repeat (first | exact ev_ret rfl rfl | refine ev_pure rfl rfl ?_ | refine ev_loc rfl rfl ?_ | refine ev_goto rfl ?_ | refine ev_heap rfl rfl ?_ | refine ev_cmT rfl (by first | rfl | decide) ?_ | refine ev_cmF rfl (by first | rfl | decide) ?_ | refine ev_ifT rfl (by first | rfl | decide) ?_ | refine ev_ifF rfl (by first | rfl | decide) ?_ | refine ev_ask rfl rfl (lx_copyAll _ (by decide) rfl rfl rfl rfl) ?_ | refine ev_bi rfl (fun _ => rfl) ?_ | refine ev_enter rfl rfl ?_ | (refine ev_askE rfl rfl ?_; apply Exists.intro; apply Exists.intro; apply And.intro) | refine ev_tab rfl rfl ?_)
set_option maxRecDepth 100000 in
set_option maxHeartbeats 4000000 in
theorem lx_k_count_3 : lx_like 123 224 [.int (nI 3)] := by
  apply Exists.intro
  apply Exists.intro
  apply Exists.intro
  apply And.intro
  · refine ev_enter rfl rfl ?_
    repeat (first | exact ev_ret rfl rfl | refine ev_pure rfl rfl ?_ | refine ev_loc rfl rfl ?_ | refine ev_goto rfl ?_ | refine ev_heap rfl rfl ?_ | refine ev_cmT rfl (by first | rfl | decide) ?_ | refine ev_cmF rfl (by first | rfl | decide) ?_ | refine ev_ifT rfl (by first | rfl | decide) ?_ | refine ev_ifF rfl (by first | rfl | decide) ?_ | refine ev_bi rfl (fun _ => rfl) ?_ | refine ev_enter rfl rfl ?_ | (refine ev_askE rfl rfl ?_; apply Exists.intro; apply Exists.intro; apply And.intro) | refine ev_tab rfl rfl ?_)
  · refine ev_enter rfl rfl ?_
    repeat (first | exact ev_ret rfl rfl | refine ev_pure rfl rfl ?_ | refine ev_loc rfl rfl ?_ | refine ev_goto rfl ?_ | refine ev_heap rfl rfl ?_ | refine ev_cmT rfl (by first | rfl | decide) ?_ | refine ev_cmF rfl (by first | rfl | decide) ?_ | refine ev_ifT rfl (by first | rfl | decide) ?_ | refine ev_ifF rfl (by first | rfl | decide) ?_ | refine ev_ask rfl rfl (lx_copyAll _ (by decide) rfl rfl rfl rfl) ?_ | refine ev_bi rfl (fun _ => rfl) ?_ | refine ev_enter rfl rfl ?_ | (refine ev_askE rfl rfl ?_; apply Exists.intro; apply Exists.intro; apply And.intro) | refine ev_tab rfl rfl ?_)
set_option maxRecDepth 100000 in
set_option maxHeartbeats 4000000 in
theorem lx_k_count_4 : lx_like 123 224 [.int (nI 4)] := by
  apply Exists.intro
  apply Exists.intro
  apply Exists.intro
  apply And.intro
  · refine ev_enter rfl rfl ?_
    repeat (first | exact ev_ret rfl rfl | refine ev_pure rfl rfl ?_ | refine ev_loc rfl rfl ?_ | refine ev_goto rfl ?_ | refine ev_heap rfl rfl ?_ | refine ev_cmT rfl (by first | rfl | decide) ?_ | refine ev_cmF rfl (by first | rfl | decide) ?_ | refine ev_ifT rfl (by first | rfl | decide) ?_ | refine ev_ifF rfl (by first | rfl | decide) ?_ | refine ev_bi rfl (fun _ => rfl) ?_ | refine ev_enter rfl rfl ?_ | (refine ev_askE rfl rfl ?_; apply Exists.intro; apply Exists.intro; apply And.intro) | refine ev_tab rfl rfl ?_)
  · refine ev_enter rfl rfl ?_
    repeat (first | exact ev_ret rfl rfl | refine ev_pure rfl rfl ?_ | refine ev_loc rfl rfl ?_ | refine ev_goto rfl ?_ | refine ev_heap rfl rfl ?_ | refine ev_cmT rfl (by first | rfl | decide) ?_ | refine ev_cmF rfl (by first | rfl | decide) ?_ | refine ev_ifT rfl (by first | rfl | decide) ?_ | refine ev_ifF rfl (by first | rfl | decide) ?_ | refine ev_ask rfl rfl (lx_copyAll _ (by decide) rfl rfl rfl rfl) ?_ | refine ev_bi rfl (fun _ => rfl) ?_ | refine ev_enter rfl rfl ?_ | (refine ev_askE rfl rfl ?_; apply Exists.intro; apply Exists.intro; apply And.intro) | refine ev_tab rfl rfl ?_)
set_option maxRecDepth 100000 in
set_option maxHeartbeats 4000000 in
theorem lx_k_count_5 : lx_like 123 224 [.int (nI 5)] := by
  apply Exists.intro
  apply Exists.intro
  apply Exists.intro
  apply And.intro
  · refine ev_enter rfl rfl ?_
    repeat (first | exact ev_ret rfl rfl | refine ev_pure rfl rfl ?_ | refine ev_loc rfl rfl ?_ | refine ev_goto rfl ?_ | refine ev_heap rfl rfl ?_ | refine ev_cmT rfl (by first | rfl | decide) ?_ | refine ev_cmF rfl (by first | rfl | decide) ?_ | refine ev_ifT rfl (by first | rfl | decide) ?_ | refine ev_ifF rfl (by first | rfl | decide) ?_ | refine ev_bi rfl (fun _ => rfl) ?_ | refine ev_enter rfl rfl ?_ | (refine ev_askE rfl rfl ?_; apply Exists.intro; apply Exists.intro; apply And.intro) | refine ev_tab rfl rfl ?_)
  · refine ev_enter rfl rfl ?_
    repeat (first | exact ev_ret rfl rfl | refine ev_pure rfl rfl ?_ | refine ev_loc rfl rfl ?_ | refine ev_goto rfl ?_ | refine ev_heap rfl rfl ?_ | refine ev_cmT rfl (by first | rfl | decide) ?_ | refine ev_cmF rfl (by first | rfl | decide) ?_ | refine ev_ifT rfl (by first | rfl | decide) ?_ | refine ev_ifF rfl (by first | rfl | decide) ?_ | refine ev_ask rfl rfl (lx_copyAll _ (by decide) rfl rfl rfl rfl) ?_ | refine ev_bi rfl (fun _ => rfl) ?_ | refine ev_enter rfl rfl ?_ | (refine ev_askE rfl rfl ?_; apply Exists.intro; apply Exists.intro; apply And.intro) | refine ev_tab rfl rfl ?_)
set_option maxRecDepth 100000 in
set_option maxHeartbeats 4000000 in
theorem lx_k_count_6 : lx_like 123 224 [.int (nI 6)] := by
  apply Exists.intro
  apply Exists.intro
  apply Exists.intro
  apply And.intro
  · refine ev_enter rfl rfl ?_
    repeat (first | exact ev_ret rfl rfl | refine ev_pure rfl rfl ?_ | refine ev_loc rfl rfl ?_ | refine ev_goto rfl ?_ | refine ev_heap rfl rfl ?_ | refine ev_cmT rfl (by first | rfl | decide) ?_ | refine ev_cmF rfl (by first | rfl | decide) ?_ | refine ev_ifT rfl (by first | rfl | decide) ?_ | refine ev_ifF rfl (by first | rfl | decide) ?_ | refine ev_bi rfl (fun _ => rfl) ?_ | refine ev_enter rfl rfl ?_ | (refine ev_askE rfl rfl ?_; apply Exists.intro; apply Exists.intro; apply And.intro) | refine ev_tab rfl rfl ?_)
  · refine ev_enter rfl rfl ?_
    repeat (first | exact ev_ret rfl rfl | refine ev_pure rfl rfl ?_ | refine ev_loc rfl rfl ?_ | refine ev_goto rfl ?_ | refine ev_heap rfl rfl ?_ | refine ev_cmT rfl (by first | rfl | decide) ?_ | refine ev_cmF rfl (by first | rfl | decide) ?_ | refine ev_ifT rfl (by first | rfl | decide) ?_ | refine ev_ifF rfl (by first | rfl | decide) ?_ | refine ev_ask rfl rfl (lx_copyAll _ (by decide) rfl rfl rfl rfl) ?_ | refine ev_bi rfl (fun _ => rfl) ?_ | refine ev_enter rfl rfl ?_ | (refine ev_askE rfl rfl ?_; apply Exists.intro; apply Exists.intro; apply And.intro) | refine ev_tab rfl rfl ?_)
set_option maxRecDepth 100000 in
set_option maxHeartbeats 4000000 in
theorem lx_k_count_7 : lx_like 123 224 [.int (nI 7)] := by
  apply Exists.intro
  apply Exists.intro
  apply Exists.intro
  apply And.intro
  · refine ev_enter rfl rfl ?_
    repeat (first | exact ev_ret rfl rfl | refine ev_pure rfl rfl ?_ | refine ev_loc rfl rfl ?_ | refine ev_goto rfl ?_ | refine ev_heap rfl rfl ?_ | refine ev_cmT rfl (by first | rfl | decide) ?_ | refine ev_cmF rfl (by first | rfl | decide) ?_ | refine ev_ifT rfl (by first | rfl | decide) ?_ | refine ev_ifF rfl (by first | rfl | decide) ?_ | refine ev_bi rfl (fun _ => rfl) ?_ | refine ev_enter rfl rfl ?_ | (refine ev_askE rfl rfl ?_; apply Exists.intro; apply Exists.intro; apply And.intro) | refine ev_tab rfl rfl ?_)
  · refine ev_enter rfl rfl ?_
    repeat (first | exact ev_ret rfl rfl | refine ev_pure rfl rfl ?_ | refine ev_loc rfl rfl ?_ | refine ev_goto rfl ?_ | refine ev_heap rfl rfl ?_ | refine ev_cmT rfl (by first | rfl | decide) ?_ | refine ev_cmF rfl (by first | rfl | decide) ?_ | refine ev_ifT rfl (by first | rfl | decide) ?_ | refine ev_ifF rfl (by first | rfl | decide) ?_ | refine ev_ask rfl rfl (lx_copyAll _ (by decide) rfl rfl rfl rfl) ?_ | refine ev_bi rfl (fun _ => rfl) ?_ | refine ev_enter rfl rfl ?_ | (refine ev_askE rfl rfl ?_; apply Exists.intro; apply Exists.intro; apply And.intro) | refine ev_tab rfl rfl ?_)
set_option maxRecDepth 100000 in
set_option maxHeartbeats 4000000 in
theorem lx_k_count_8 : lx_like 123 224 [.int (nI 8)] := by
  apply Exists.intro
  apply Exists.intro
  apply Exists.intro
  apply And.intro
  · refine ev_enter rfl rfl ?_
    repeat (first | exact ev_ret rfl rfl | refine ev_pure rfl rfl ?_ | refine ev_loc rfl rfl ?_ | refine ev_goto rfl ?_ | refine ev_heap rfl rfl ?_ | refine ev_cmT rfl (by first | rfl | decide) ?_ | refine ev_cmF rfl (by first | rfl | decide) ?_ | refine ev_ifT rfl (by first | rfl | decide) ?_ | refine ev_ifF rfl (by first | rfl | decide) ?_ | refine ev_bi rfl (fun _ => rfl) ?_ | refine ev_enter rfl rfl ?_ | (refine ev_askE rfl rfl ?_; apply Exists.intro; apply Exists.intro; apply And.intro) | refine ev_tab rfl rfl ?_)
  · refine ev_enter rfl rfl ?_
    repeat (first | exact ev_ret rfl rfl | refine ev_pure rfl rfl ?_ | refine ev_loc rfl rfl ?_ | refine ev_goto rfl ?_ | refine ev_heap rfl rfl ?_ | refine ev_cmT rfl (by first | rfl | decide) ?_ | refine ev_cmF rfl (by first | rfl | decide) ?_ | refine ev_ifT rfl (by first | rfl | decide) ?_ | refine ev_ifF rfl (by first | rfl | decide) ?_ | refine ev_ask rfl rfl (lx_copyAll _ (by decide) rfl rfl rfl rfl) ?_ | refine ev_bi rfl (fun _ => rfl) ?_ | refine ev_enter rfl rfl ?_ | (refine ev_askE rfl rfl ?_; apply Exists.intro; apply Exists.intro; apply And.intro) | refine ev_tab rfl rfl ?_)
set_option maxRecDepth 100000 in
set_option maxHeartbeats 4000000 in
theorem lx_k_count_9 : lx_like 123 224 [.int (nI 9)] := by
  apply Exists.intro
  apply Exists.intro
  apply Exists.intro
  apply And.intro
  · refine ev_enter rfl rfl ?_
    repeat (first | exact ev_ret rfl rfl | refine ev_pure rfl rfl ?_ | refine ev_loc rfl rfl ?_ | refine ev_goto rfl ?_ | refine ev_heap rfl rfl ?_ | refine ev_cmT rfl (by first | rfl | decide) ?_ | refine ev_cmF rfl (by first | rfl | decide) ?_ | refine ev_ifT rfl (by first | rfl | decide) ?_ | refine ev_ifF rfl (by first | rfl | decide) ?_ | refine ev_bi rfl (fun _ => rfl) ?_ | refine ev_enter rfl rfl ?_ | (refine ev_askE rfl rfl ?_; apply Exists.intro; apply Exists.intro; apply And.intro) | refine ev_tab rfl rfl ?_)
  · refine ev_enter rfl rfl ?_
    repeat (first | exact ev_ret rfl rfl | refine ev_pure rfl rfl ?_ | refine ev_loc rfl rfl ?_ | refine ev_goto rfl ?_ | refine ev_heap rfl rfl ?_ | refine ev_cmT rfl (by first | rfl | decide) ?_ | refine ev_cmF rfl (by first | rfl | decide) ?_ | refine ev_ifT rfl (by first | rfl | decide) ?_ | refine ev_ifF rfl (by first | rfl | decide) ?_ | refine ev_ask rfl rfl (lx_copyAll _ (by decide) rfl rfl rfl rfl) ?_ | refine ev_bi rfl (fun _ => rfl) ?_ | refine ev_enter rfl rfl ?_ | (refine ev_askE rfl rfl ?_; apply Exists.intro; apply Exists.intro; apply And.intro) | refine ev_tab rfl rfl ?_)
set_option maxRecDepth 100000 in
set_option maxHeartbeats 4000000 in
theorem lx_k_count_10 : lx_like 123 224 [.int (nI 10)] := by
  apply Exists.intro
  apply Exists.intro
  apply Exists.intro
  apply And.intro
  · refine ev_enter rfl rfl ?_
    repeat (first | exact ev_ret rfl rfl | refine ev_pure rfl rfl ?_ | refine ev_loc rfl rfl ?_ | refine ev_goto rfl ?_ | refine ev_heap rfl rfl ?_ | refine ev_cmT rfl (by first | rfl | decide) ?_ | refine ev_cmF rfl (by first | rfl | decide) ?_ | refine ev_ifT rfl (by first | rfl | decide) ?_ | refine ev_ifF rfl (by first | rfl | decide) ?_ | refine ev_bi rfl (fun _ => rfl) ?_ | refine ev_enter rfl rfl ?_ | (refine ev_askE rfl rfl ?_; apply Exists.intro; apply Exists.intro; apply And.intro) | refine ev_tab rfl rfl ?_)
  · refine ev_enter rfl rfl ?_
    repeat (first | exact ev_ret rfl rfl | refine ev_pure rfl rfl ?_ | refine ev_loc rfl rfl ?_ | refine ev_goto rfl ?_ | refine ev_heap rfl rfl ?_ | refine ev_cmT rfl (by first | rfl | decide) ?_ | refine ev_cmF rfl (by first | rfl | decide) ?_ | refine ev_ifT rfl (by first | rfl | decide) ?_ | refine ev_ifF rfl (by first | rfl | decide) ?_ | refine ev_ask rfl rfl (lx_copyAll _ (by decide) rfl rfl rfl rfl) ?_ | refine ev_bi rfl (fun _ => rfl) ?_ | refine ev_enter rfl rfl ?_ | (refine ev_askE rfl rfl ?_; apply Exists.intro; apply Exists.intro; apply And.intro) | refine ev_tab rfl rfl ?_)
set_option maxRecDepth 100000 in
set_option maxHeartbeats 4000000 in
theorem lx_o_count (v : Int32) : lx_like 123 224 [.int v] := by
  by_cases h : decide (v < 0) = false ∧ decide (10 < v) = false
  · obtain ⟨j, hj, rfl⟩ := lx_rng 10 (by decide) h.1 h.2
    rcases (show j = 0 ∨ j = 1 ∨ j = 2 ∨ j = 3 ∨ j = 4 ∨ j = 5 ∨ j = 6 ∨ j = 7 ∨ j = 8 ∨ j = 9 ∨ j = 10 by omega) with rfl | rfl | rfl | rfl | rfl | rfl | rfl | rfl | rfl | rfl | rfl
    · exact lx_k_count_0
    · exact lx_k_count_1
    · exact lx_k_count_2
    · exact lx_k_count_3
    · exact lx_k_count_4
    · exact lx_k_count_5
    · exact lx_k_count_6
    · exact lx_k_count_7
    · exact lx_k_count_8
    · exact lx_k_count_9
    · exact lx_k_count_10
  · have h := lx_out h
    obtain ⟨w, hw⟩ := lx_merr_1 98
    refine ⟨-1000000001, lx_er 1, w, ?_, ?_⟩
    · refine ev_enter rfl rfl ?_
      repeat (first | refine ev_tabD rfl (lx_outI (by decide) h) rfl ?_ | exact ev_ret rfl rfl | refine ev_pure rfl rfl ?_ | refine ev_loc rfl rfl ?_ | refine ev_goto rfl ?_ | refine ev_heap rfl rfl ?_ | refine ev_cmT rfl (by first | rfl | decide) ?_ | refine ev_cmF rfl (by first | rfl | decide) ?_ | refine ev_ifT rfl (by first | rfl | decide) ?_ | refine ev_ifF rfl (by first | rfl | decide) ?_ | refine ev_ask rfl rfl (lx_within_f _ h) ?_ | refine ev_ask rfl rfl (lx_isSheet_f _ h) ?_ | refine ev_ask rfl rfl (lx_xerr_1 _) ?_ | refine ev_bi rfl (fun _ => rfl) ?_ | refine ev_enter rfl rfl ?_ | (refine ev_askE rfl rfl ?_; apply Exists.intro; apply Exists.intro; apply And.intro) | refine ev_tab rfl rfl ?_)
    · refine ev_enter rfl rfl ?_
      repeat (first | refine ev_tabD rfl (lx_outI (by decide) h) rfl ?_ | exact ev_ret rfl rfl | refine ev_pure rfl rfl ?_ | refine ev_loc rfl rfl ?_ | refine ev_goto rfl ?_ | refine ev_heap rfl rfl ?_ | refine ev_cmT rfl (by first | rfl | decide) ?_ | refine ev_cmF rfl (by first | rfl | decide) ?_ | refine ev_ifT rfl (by first | rfl | decide) ?_ | refine ev_ifF rfl (by first | rfl | decide) ?_ | refine ev_ask rfl rfl (hw) ?_ | refine ev_ask rfl rfl (lx_in_f _ h) ?_ | refine ev_ask rfl rfl (lx_misSheet_f _ h) ?_ | refine ev_bi rfl (fun _ => rfl) ?_ | refine ev_enter rfl rfl ?_ | (refine ev_askE rfl rfl ?_; apply Exists.intro; apply Exists.intro; apply And.intro) | refine ev_tab rfl rfl ?_)
