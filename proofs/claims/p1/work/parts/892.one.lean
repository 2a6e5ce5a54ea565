set_option maxRecDepth 100000 in
set_option maxHeartbeats 4000000 in
theorem lx_k_loose_1 : lx_like 93 170 [.int (nI 1)] := by
  exact lx_two_of (by decide +kernel)
set_option maxRecDepth 100000 in
set_option maxHeartbeats 4000000 in
theorem lx_k_loose_2 : lx_like 93 170 [.int (nI 2)] := by
  exact lx_two_of (by decide +kernel)
set_option maxRecDepth 100000 in
set_option maxHeartbeats 4000000 in
theorem lx_k_loose_3 : lx_like 93 170 [.int (nI 3)] := by
  exact lx_two_of (by decide +kernel)
set_option maxRecDepth 100000 in
set_option maxHeartbeats 4000000 in
theorem lx_k_loose_4 : lx_like 93 170 [.int (nI 4)] := by
  exact lx_two_of (by decide +kernel)
set_option maxRecDepth 100000 in
set_option maxHeartbeats 4000000 in
theorem lx_k_loose_5 : lx_like 93 170 [.int (nI 5)] := by
  exact lx_two_of (by decide +kernel)
set_option maxRecDepth 100000 in
set_option maxHeartbeats 4000000 in
theorem lx_k_loose_6 : lx_like 93 170 [.int (nI 6)] := by
  exact lx_two_of (by decide +kernel)
set_option maxRecDepth 100000 in
set_option maxHeartbeats 4000000 in
theorem lx_k_loose_7 : lx_like 93 170 [.int (nI 7)] := by
  exact lx_two_of (by decide +kernel)
set_option maxRecDepth 100000 in
set_option maxHeartbeats 4000000 in
theorem lx_k_loose_8 : lx_like 93 170 [.int (nI 8)] := by
  exact lx_two_of (by decide +kernel)
set_option maxRecDepth 100000 in
set_option maxHeartbeats 4000000 in
theorem lx_k_loose_9 : lx_like 93 170 [.int (nI 9)] := by
  exact lx_two_of (by decide +kernel)
set_option maxRecDepth 100000 in
set_option maxHeartbeats 4000000 in
theorem lx_k_loose_10 : lx_like 93 170 [.int (nI 10)] := by
  exact lx_two_of (by decide +kernel)
set_option maxRecDepth 100000 in
set_option maxHeartbeats 4000000 in
theorem lx_k_loose_11 : lx_like 93 170 [.int (nI 11)] := by
  exact lx_two_of (by decide +kernel)
set_option maxRecDepth 100000 in
set_option maxHeartbeats 4000000 in
theorem lx_k_loose_12 : lx_like 93 170 [.int (nI 12)] := by
  exact lx_two_of (by decide +kernel)
set_option maxRecDepth 100000 in
set_option maxHeartbeats 4000000 in
theorem lx_k_loose_13 : lx_like 93 170 [.int (nI 13)] := by
  exact lx_two_of (by decide +kernel)
set_option maxRecDepth 100000 in
set_option maxHeartbeats 4000000 in
theorem lx_k_loose_14 : lx_like 93 170 [.int (nI 14)] := by
  exact lx_two_of (by decide +kernel)
set_option maxRecDepth 100000 in
set_option maxHeartbeats 4000000 in
theorem lx_k_loose_15 : lx_like 93 170 [.int (nI 15)] := by
  exact lx_two_of (by decide +kernel)
set_option maxRecDepth 100000 in
set_option maxHeartbeats 4000000 in
theorem lx_k_loose_16 : lx_like 93 170 [.int (nI 16)] := by
  exact lx_two_of (by decide +kernel)
set_option maxRecDepth 100000 in
set_option maxHeartbeats 4000000 in
theorem lx_k_loose_17 : lx_like 93 170 [.int (nI 17)] := by
  exact lx_two_of (by decide +kernel)
set_option maxRecDepth 100000 in
set_option maxHeartbeats 4000000 in
theorem lx_k_loose_18 : lx_like 93 170 [.int (nI 18)] := by
  exact lx_two_of (by decide +kernel)
set_option maxRecDepth 100000 in
set_option maxHeartbeats 4000000 in
theorem lx_k_loose_19 : lx_like 93 170 [.int (nI 19)] := by
  exact lx_two_of (by decide +kernel)
set_option maxRecDepth 100000 in
set_option maxHeartbeats 4000000 in
theorem lx_k_loose_20 : lx_like 93 170 [.int (nI 20)] := by
  exact lx_two_of (by decide +kernel)
set_option maxRecDepth 100000 in
set_option maxHeartbeats 4000000 in
theorem lx_k_loose_21 : lx_like 93 170 [.int (nI 21)] := by
  exact lx_two_of (by decide +kernel)
set_option maxRecDepth 100000 in
set_option maxHeartbeats 4000000 in
theorem lx_k_loose_22 : lx_like 93 170 [.int (nI 22)] := by
  exact lx_two_of (by decide +kernel)
set_option maxRecDepth 100000 in
set_option maxHeartbeats 4000000 in
theorem lx_k_loose_23 : lx_like 93 170 [.int (nI 23)] := by
  exact lx_two_of (by decide +kernel)
set_option maxRecDepth 100000 in
set_option maxHeartbeats 4000000 in
theorem lx_k_loose_24 : lx_like 93 170 [.int (nI 24)] := by
  exact lx_two_of (by decide +kernel)
set_option maxRecDepth 100000 in
set_option maxHeartbeats 4000000 in
theorem lx_k_loose_25 : lx_like 93 170 [.int (nI 25)] := by
  exact lx_two_of (by decide +kernel)
set_option maxRecDepth 100000 in
set_option maxHeartbeats 4000000 in
theorem lx_k_loose_26 : lx_like 93 170 [.int (nI 26)] := by
  exact lx_two_of (by decide +kernel)
set_option maxRecDepth 100000 in
set_option maxHeartbeats 4000000 in
theorem lx_k_loose_27 : lx_like 93 170 [.int (nI 27)] := by
  exact lx_two_of (by decide +kernel)
set_option maxRecDepth 100000 in
set_option maxHeartbeats 4000000 in
theorem lx_k_loose_28 : lx_like 93 170 [.int (nI 28)] := by
  exact lx_two_of (by decide +kernel)
set_option maxRecDepth 100000 in
set_option maxHeartbeats 4000000 in
theorem lx_k_loose_29 : lx_like 93 170 [.int (nI 29)] := by
  exact lx_two_of (by decide +kernel)
set_option maxRecDepth 100000 in
set_option maxHeartbeats 4000000 in
theorem lx_k_loose_30 : lx_like 93 170 [.int (nI 30)] := by
  exact lx_two_of (by decide +kernel)
set_option maxRecDepth 100000 in
set_option maxHeartbeats 4000000 in
theorem lx_k_loose_31 : lx_like 93 170 [.int (nI 31)] := by
  exact lx_two_of (by decide +kernel)
set_option maxRecDepth 100000 in
set_option maxHeartbeats 4000000 in
theorem lx_k_loose_32 : lx_like 93 170 [.int (nI 32)] := by
  exact lx_two_of (by decide +kernel)
set_option maxRecDepth 100000 in
set_option maxHeartbeats 4000000 in
theorem lx_k_loose_33 : lx_like 93 170 [.int (nI 33)] := by
  exact lx_two_of (by decide +kernel)
set_option maxRecDepth 100000 in
set_option maxHeartbeats 4000000 in
theorem lx_k_loose_34 : lx_like 93 170 [.int (nI 34)] := by
  exact lx_two_of (by decide +kernel)
set_option maxRecDepth 100000 in
set_option maxHeartbeats 4000000 in
theorem lx_k_loose_35 : lx_like 93 170 [.int (nI 35)] := by
  exact lx_two_of (by decide +kernel)
set_option maxRecDepth 100000 in
set_option maxHeartbeats 4000000 in
theorem lx_k_loose_36 : lx_like 93 170 [.int (nI 36)] := by
  exact lx_two_of (by decide +kernel)
set_option maxRecDepth 100000 in
set_option maxHeartbeats 4000000 in
theorem lx_k_loose_37 : lx_like 93 170 [.int (nI 37)] := by
  exact lx_two_of (by decide +kernel)
set_option maxRecDepth 100000 in
set_option maxHeartbeats 4000000 in
theorem lx_k_loose_38 : lx_like 93 170 [.int (nI 38)] := by
  exact lx_two_of (by decide +kernel)
set_option maxRecDepth 100000 in
set_option maxHeartbeats 4000000 in
theorem lx_k_loose_39 : lx_like 93 170 [.int (nI 39)] := by
  exact lx_two_of (by decide +kernel)
set_option maxRecDepth 100000 in
set_option maxHeartbeats 4000000 in
theorem lx_k_loose_40 : lx_like 93 170 [.int (nI 40)] := by
  exact lx_two_of (by decide +kernel)
set_option maxRecDepth 100000 in
set_option maxHeartbeats 4000000 in
theorem lx_o_loose (v : Int32) : lx_like 93 170 [.int v] := by
  by_cases h : decide (v < 1) = false ∧ decide (40 < v) = false
  · obtain ⟨j, h1, hj, rfl⟩ := lx_rng1 40 (by decide) h.1 h.2
    rcases (show j = 1 ∨ j = 2 ∨ j = 3 ∨ j = 4 ∨ j = 5 ∨ j = 6 ∨ j = 7 ∨ j = 8 ∨ j = 9 ∨ j = 10 ∨ j = 11 ∨ j = 12 ∨ j = 13 ∨ j = 14 ∨ j = 15 ∨ j = 16 ∨ j = 17 ∨ j = 18 ∨ j = 19 ∨ j = 20 ∨ j = 21 ∨ j = 22 ∨ j = 23 ∨ j = 24 ∨ j = 25 ∨ j = 26 ∨ j = 27 ∨ j = 28 ∨ j = 29 ∨ j = 30 ∨ j = 31 ∨ j = 32 ∨ j = 33 ∨ j = 34 ∨ j = 35 ∨ j = 36 ∨ j = 37 ∨ j = 38 ∨ j = 39 ∨ j = 40 by omega) with rfl | rfl | rfl | rfl | rfl | rfl | rfl | rfl | rfl | rfl | rfl | rfl | rfl | rfl | rfl | rfl | rfl | rfl | rfl | rfl | rfl | rfl | rfl | rfl | rfl | rfl | rfl | rfl | rfl | rfl | rfl | rfl | rfl | rfl | rfl | rfl | rfl | rfl | rfl | rfl
    · exact lx_k_loose_1
    · exact lx_k_loose_2
    · exact lx_k_loose_3
    · exact lx_k_loose_4
    · exact lx_k_loose_5
    · exact lx_k_loose_6
    · exact lx_k_loose_7
    · exact lx_k_loose_8
    · exact lx_k_loose_9
    · exact lx_k_loose_10
    · exact lx_k_loose_11
    · exact lx_k_loose_12
    · exact lx_k_loose_13
    · exact lx_k_loose_14
    · exact lx_k_loose_15
    · exact lx_k_loose_16
    · exact lx_k_loose_17
    · exact lx_k_loose_18
    · exact lx_k_loose_19
    · exact lx_k_loose_20
    · exact lx_k_loose_21
    · exact lx_k_loose_22
    · exact lx_k_loose_23
    · exact lx_k_loose_24
    · exact lx_k_loose_25
    · exact lx_k_loose_26
    · exact lx_k_loose_27
    · exact lx_k_loose_28
    · exact lx_k_loose_29
    · exact lx_k_loose_30
    · exact lx_k_loose_31
    · exact lx_k_loose_32
    · exact lx_k_loose_33
    · exact lx_k_loose_34
    · exact lx_k_loose_35
    · exact lx_k_loose_36
    · exact lx_k_loose_37
    · exact lx_k_loose_38
    · exact lx_k_loose_39
    · exact lx_k_loose_40
  · have h := lx_out h
    obtain ⟨w, hw⟩ := lx_merr_1 98
    refine ⟨-1000000001, lx_er 1, w, ?_, ?_⟩
    · refine ev_enter rfl rfl ?_
      repeat (first | exact ev_ret rfl rfl | refine ev_pure rfl rfl ?_ | refine ev_loc rfl rfl ?_ | refine ev_goto rfl ?_ | refine ev_heap rfl rfl ?_ | refine ev_cmT rfl (by first | rfl | decide) ?_ | refine ev_cmF rfl (by first | rfl | decide) ?_ | refine ev_ifT rfl (by first | rfl | decide) ?_ | refine ev_ifF rfl (by first | rfl | decide) ?_ | refine ev_ask rfl rfl (lx_within_f _ h) ?_ | refine ev_ask rfl rfl (lx_isSheet_f _ h) ?_ | refine ev_ask rfl rfl (lx_xerr_1 _) ?_ | refine ev_bi rfl (fun _ => rfl) ?_ | refine ev_enter rfl rfl ?_ | (refine ev_askE rfl rfl ?_; apply Exists.intro; apply Exists.intro; apply And.intro) | refine ev_tab rfl rfl ?_)
    · refine ev_enter rfl rfl ?_
      repeat (first | exact ev_ret rfl rfl | refine ev_pure rfl rfl ?_ | refine ev_loc rfl rfl ?_ | refine ev_goto rfl ?_ | refine ev_heap rfl rfl ?_ | refine ev_cmT rfl (by first | rfl | decide) ?_ | refine ev_cmF rfl (by first | rfl | decide) ?_ | refine ev_ifT rfl (by first | rfl | decide) ?_ | refine ev_ifF rfl (by first | rfl | decide) ?_ | refine ev_ask rfl rfl (hw) ?_ | refine ev_ask rfl rfl (lx_in_f _ h) ?_ | refine ev_ask rfl rfl (lx_misSheet_f _ h) ?_ | refine ev_bi rfl (fun _ => rfl) ?_ | refine ev_enter rfl rfl ?_ | (refine ev_askE rfl rfl ?_; apply Exists.intro; apply Exists.intro; apply And.intro) | refine ev_tab rfl rfl ?_)
