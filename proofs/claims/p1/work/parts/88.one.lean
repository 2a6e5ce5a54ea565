set_option maxRecDepth 100000 in
set_option maxHeartbeats 4000000 in
theorem lx_k_sheet_o_0 {s n : Int32} (h : decide (s < 0) = true ∨ decide (3 < s) = true) : lx_like 112 213 [.int s, .int 0, .int n] := by
  obtain ⟨w, hw⟩ := lx_merr_1 98
  refine ⟨-1000000001, lx_er 1, w, ?_, ?_⟩
  · refine ev_enter rfl rfl ?_
    repeat (first | exact ev_ret rfl rfl | refine ev_pure rfl rfl ?_ | refine ev_loc rfl rfl ?_ | refine ev_goto rfl ?_ | refine ev_heap rfl rfl ?_ | refine ev_cmT rfl (by first | rfl | decide) ?_ | refine ev_cmF rfl (by first | rfl | decide) ?_ | refine ev_ifT rfl (by first | rfl | decide) ?_ | refine ev_ifF rfl (by first | rfl | decide) ?_ | refine ev_ask rfl rfl (lx_isSheet_f _ h) ?_ | refine ev_ask rfl rfl (lx_xerr_1 _) ?_ | refine ev_bi rfl (fun _ => rfl) ?_ | refine ev_enter rfl rfl ?_ | (refine ev_askE rfl rfl ?_; apply Exists.intro; apply Exists.intro; apply And.intro) | refine ev_tab rfl rfl ?_)
  · refine ev_enter rfl rfl ?_
    repeat (first | exact ev_ret rfl rfl | refine ev_pure rfl rfl ?_ | refine ev_loc rfl rfl ?_ | refine ev_goto rfl ?_ | refine ev_heap rfl rfl ?_ | refine ev_cmT rfl (by first | rfl | decide) ?_ | refine ev_cmF rfl (by first | rfl | decide) ?_ | refine ev_ifT rfl (by first | rfl | decide) ?_ | refine ev_ifF rfl (by first | rfl | decide) ?_ | refine ev_ask rfl rfl (hw) ?_ | refine ev_ask rfl rfl (lx_misSheet_f _ h) ?_ | refine ev_bi rfl (fun _ => rfl) ?_ | refine ev_enter rfl rfl ?_ | (refine ev_askE rfl rfl ?_; apply Exists.intro; apply Exists.intro; apply And.intro) | refine ev_tab rfl rfl ?_)
set_option maxRecDepth 100000 in
set_option maxHeartbeats 4000000 in
theorem lx_k_sheet_o_8 {s n : Int32} (h : decide (s < 0) = true ∨ decide (3 < s) = true) : lx_like 112 213 [.int s, .int 8, .int n] := by
  obtain ⟨w, hw⟩ := lx_merr_1 98
  refine ⟨-1000000001, lx_er 1, w, ?_, ?_⟩
  · refine ev_enter rfl rfl ?_
    repeat (first | exact ev_ret rfl rfl | refine ev_pure rfl rfl ?_ | refine ev_loc rfl rfl ?_ | refine ev_goto rfl ?_ | refine ev_heap rfl rfl ?_ | refine ev_cmT rfl (by first | rfl | decide) ?_ | refine ev_cmF rfl (by first | rfl | decide) ?_ | refine ev_ifT rfl (by first | rfl | decide) ?_ | refine ev_ifF rfl (by first | rfl | decide) ?_ | refine ev_ask rfl rfl (lx_isSheet_f _ h) ?_ | refine ev_ask rfl rfl (lx_xerr_1 _) ?_ | refine ev_bi rfl (fun _ => rfl) ?_ | refine ev_enter rfl rfl ?_ | (refine ev_askE rfl rfl ?_; apply Exists.intro; apply Exists.intro; apply And.intro) | refine ev_tab rfl rfl ?_)
  · refine ev_enter rfl rfl ?_
    repeat (first | exact ev_ret rfl rfl | refine ev_pure rfl rfl ?_ | refine ev_loc rfl rfl ?_ | refine ev_goto rfl ?_ | refine ev_heap rfl rfl ?_ | refine ev_cmT rfl (by first | rfl | decide) ?_ | refine ev_cmF rfl (by first | rfl | decide) ?_ | refine ev_ifT rfl (by first | rfl | decide) ?_ | refine ev_ifF rfl (by first | rfl | decide) ?_ | refine ev_ask rfl rfl (hw) ?_ | refine ev_ask rfl rfl (lx_misSheet_f _ h) ?_ | refine ev_bi rfl (fun _ => rfl) ?_ | refine ev_enter rfl rfl ?_ | (refine ev_askE rfl rfl ?_; apply Exists.intro; apply Exists.intro; apply And.intro) | refine ev_tab rfl rfl ?_)
set_option maxRecDepth 100000 in
set_option maxHeartbeats 4000000 in
theorem lx_k_sheet_o_16 {s n : Int32} (h : decide (s < 0) = true ∨ decide (3 < s) = true) : lx_like 112 213 [.int s, .int 16, .int n] := by
  obtain ⟨w, hw⟩ := lx_merr_1 98
  refine ⟨-1000000001, lx_er 1, w, ?_, ?_⟩
  · refine ev_enter rfl rfl ?_
    repeat (first | exact ev_ret rfl rfl | refine ev_pure rfl rfl ?_ | refine ev_loc rfl rfl ?_ | refine ev_goto rfl ?_ | refine ev_heap rfl rfl ?_ | refine ev_cmT rfl (by first | rfl | decide) ?_ | refine ev_cmF rfl (by first | rfl | decide) ?_ | refine ev_ifT rfl (by first | rfl | decide) ?_ | refine ev_ifF rfl (by first | rfl | decide) ?_ | refine ev_ask rfl rfl (lx_isSheet_f _ h) ?_ | refine ev_ask rfl rfl (lx_xerr_1 _) ?_ | refine ev_bi rfl (fun _ => rfl) ?_ | refine ev_enter rfl rfl ?_ | (refine ev_askE rfl rfl ?_; apply Exists.intro; apply Exists.intro; apply And.intro) | refine ev_tab rfl rfl ?_)
  · refine ev_enter rfl rfl ?_
    repeat (first | exact ev_ret rfl rfl | refine ev_pure rfl rfl ?_ | refine ev_loc rfl rfl ?_ | refine ev_goto rfl ?_ | refine ev_heap rfl rfl ?_ | refine ev_cmT rfl (by first | rfl | decide) ?_ | refine ev_cmF rfl (by first | rfl | decide) ?_ | refine ev_ifT rfl (by first | rfl | decide) ?_ | refine ev_ifF rfl (by first | rfl | decide) ?_ | refine ev_ask rfl rfl (hw) ?_ | refine ev_ask rfl rfl (lx_misSheet_f _ h) ?_ | refine ev_bi rfl (fun _ => rfl) ?_ | refine ev_enter rfl rfl ?_ | (refine ev_askE rfl rfl ?_; apply Exists.intro; apply Exists.intro; apply And.intro) | refine ev_tab rfl rfl ?_)
set_option maxRecDepth 100000 in
set_option maxHeartbeats 4000000 in
theorem lx_k_sheet_o_32 {s n : Int32} (h : decide (s < 0) = true ∨ decide (3 < s) = true) : lx_like 112 213 [.int s, .int 32, .int n] := by
  obtain ⟨w, hw⟩ := lx_merr_1 98
  refine ⟨-1000000001, lx_er 1, w, ?_, ?_⟩
  · refine ev_enter rfl rfl ?_
    repeat (first | exact ev_ret rfl rfl | refine ev_pure rfl rfl ?_ | refine ev_loc rfl rfl ?_ | refine ev_goto rfl ?_ | refine ev_heap rfl rfl ?_ | refine ev_cmT rfl (by first | rfl | decide) ?_ | refine ev_cmF rfl (by first | rfl | decide) ?_ | refine ev_ifT rfl (by first | rfl | decide) ?_ | refine ev_ifF rfl (by first | rfl | decide) ?_ | refine ev_ask rfl rfl (lx_isSheet_f _ h) ?_ | refine ev_ask rfl rfl (lx_xerr_1 _) ?_ | refine ev_bi rfl (fun _ => rfl) ?_ | refine ev_enter rfl rfl ?_ | (refine ev_askE rfl rfl ?_; apply Exists.intro; apply Exists.intro; apply And.intro) | refine ev_tab rfl rfl ?_)
  · refine ev_enter rfl rfl ?_
    repeat (first | exact ev_ret rfl rfl | refine ev_pure rfl rfl ?_ | refine ev_loc rfl rfl ?_ | refine ev_goto rfl ?_ | refine ev_heap rfl rfl ?_ | refine ev_cmT rfl (by first | rfl | decide) ?_ | refine ev_cmF rfl (by first | rfl | decide) ?_ | refine ev_ifT rfl (by first | rfl | decide) ?_ | refine ev_ifF rfl (by first | rfl | decide) ?_ | refine ev_ask rfl rfl (hw) ?_ | refine ev_ask rfl rfl (lx_misSheet_f _ h) ?_ | refine ev_bi rfl (fun _ => rfl) ?_ | refine ev_enter rfl rfl ?_ | (refine ev_askE rfl rfl ?_; apply Exists.intro; apply Exists.intro; apply And.intro) | refine ev_tab rfl rfl ?_)
set_option maxRecDepth 100000 in
set_option maxHeartbeats 4000000 in
theorem lx_k_sheet_o_x {s b n : Int32} (h : decide (s < 0) = true ∨ decide (3 < s) = true) (b0 : ¬ b = 0) (b8 : ¬ b = 8) (b16 : ¬ b = 16) (b32 : ¬ b = 32) : lx_like 112 213 [.int s, .int b, .int n] := by
  obtain ⟨w, hw⟩ := lx_merr_1 98
  refine ⟨-1000000001, lx_er 1, w, ?_, ?_⟩
  · refine ev_enter rfl rfl ?_
    repeat (first | exact ev_ret rfl rfl | refine ev_pure rfl rfl ?_ | refine ev_loc rfl rfl ?_ | refine ev_goto rfl ?_ | refine ev_heap rfl rfl ?_ | refine ev_cmT rfl (by first | exact lx_c1n b0 | exact lx_c1e b0 | exact lx_c2n b0 | exact lx_c2e b0 | exact lx_c1n b8 | exact lx_c1e b8 | exact lx_c2n b8 | exact lx_c2e b8 | exact lx_c1n b16 | exact lx_c1e b16 | exact lx_c2n b16 | exact lx_c2e b16 | exact lx_c1n b32 | exact lx_c1e b32 | exact lx_c2n b32 | exact lx_c2e b32 | rfl | decide) ?_ | refine ev_cmF rfl (by first | exact lx_c1n b0 | exact lx_c1e b0 | exact lx_c2n b0 | exact lx_c2e b0 | exact lx_c1n b8 | exact lx_c1e b8 | exact lx_c2n b8 | exact lx_c2e b8 | exact lx_c1n b16 | exact lx_c1e b16 | exact lx_c2n b16 | exact lx_c2e b16 | exact lx_c1n b32 | exact lx_c1e b32 | exact lx_c2n b32 | exact lx_c2e b32 | rfl | decide) ?_ | refine ev_ifT rfl (by first | exact lx_c1n b0 | exact lx_c1e b0 | exact lx_c2n b0 | exact lx_c2e b0 | exact lx_c1n b8 | exact lx_c1e b8 | exact lx_c2n b8 | exact lx_c2e b8 | exact lx_c1n b16 | exact lx_c1e b16 | exact lx_c2n b16 | exact lx_c2e b16 | exact lx_c1n b32 | exact lx_c1e b32 | exact lx_c2n b32 | exact lx_c2e b32 | rfl | decide) ?_ | refine ev_ifF rfl (by first | exact lx_c1n b0 | exact lx_c1e b0 | exact lx_c2n b0 | exact lx_c2e b0 | exact lx_c1n b8 | exact lx_c1e b8 | exact lx_c2n b8 | exact lx_c2e b8 | exact lx_c1n b16 | exact lx_c1e b16 | exact lx_c2n b16 | exact lx_c2e b16 | exact lx_c1n b32 | exact lx_c1e b32 | exact lx_c2n b32 | exact lx_c2e b32 | rfl | decide) ?_ | refine ev_ask rfl rfl (lx_isSheet_f _ h) ?_ | refine ev_ask rfl rfl (lx_xerr_1 _) ?_ | refine ev_bi rfl (fun _ => rfl) ?_ | refine ev_enter rfl rfl ?_ | (refine ev_askE rfl rfl ?_; apply Exists.intro; apply Exists.intro; apply And.intro) | refine ev_tab rfl rfl ?_)
  · refine ev_enter rfl rfl ?_
    repeat (first | exact ev_ret rfl rfl | refine ev_pure rfl rfl ?_ | refine ev_loc rfl rfl ?_ | refine ev_goto rfl ?_ | refine ev_heap rfl rfl ?_ | refine ev_cmT rfl (by first | exact lx_c1n b0 | exact lx_c1e b0 | exact lx_c2n b0 | exact lx_c2e b0 | exact lx_c1n b8 | exact lx_c1e b8 | exact lx_c2n b8 | exact lx_c2e b8 | exact lx_c1n b16 | exact lx_c1e b16 | exact lx_c2n b16 | exact lx_c2e b16 | exact lx_c1n b32 | exact lx_c1e b32 | exact lx_c2n b32 | exact lx_c2e b32 | rfl | decide) ?_ | refine ev_cmF rfl (by first | exact lx_c1n b0 | exact lx_c1e b0 | exact lx_c2n b0 | exact lx_c2e b0 | exact lx_c1n b8 | exact lx_c1e b8 | exact lx_c2n b8 | exact lx_c2e b8 | exact lx_c1n b16 | exact lx_c1e b16 | exact lx_c2n b16 | exact lx_c2e b16 | exact lx_c1n b32 | exact lx_c1e b32 | exact lx_c2n b32 | exact lx_c2e b32 | rfl | decide) ?_ | refine ev_ifT rfl (by first | exact lx_c1n b0 | exact lx_c1e b0 | exact lx_c2n b0 | exact lx_c2e b0 | exact lx_c1n b8 | exact lx_c1e b8 | exact lx_c2n b8 | exact lx_c2e b8 | exact lx_c1n b16 | exact lx_c1e b16 | exact lx_c2n b16 | exact lx_c2e b16 | exact lx_c1n b32 | exact lx_c1e b32 | exact lx_c2n b32 | exact lx_c2e b32 | rfl | decide) ?_ | refine ev_ifF rfl (by first | exact lx_c1n b0 | exact lx_c1e b0 | exact lx_c2n b0 | exact lx_c2e b0 | exact lx_c1n b8 | exact lx_c1e b8 | exact lx_c2n b8 | exact lx_c2e b8 | exact lx_c1n b16 | exact lx_c1e b16 | exact lx_c2n b16 | exact lx_c2e b16 | exact lx_c1n b32 | exact lx_c1e b32 | exact lx_c2n b32 | exact lx_c2e b32 | rfl | decide) ?_ | refine ev_ask rfl rfl (hw) ?_ | refine ev_ask rfl rfl (lx_misSheet_f _ h) ?_ | refine ev_bi rfl (fun _ => rfl) ?_ | refine ev_enter rfl rfl ?_ | (refine ev_askE rfl rfl ?_; apply Exists.intro; apply Exists.intro; apply And.intro) | refine ev_tab rfl rfl ?_)
set_option maxRecDepth 100000 in
set_option maxHeartbeats 4000000 in
theorem lx_k_sheet_i_x {s b n : Int32} (hs : decide (s < 0) = false ∧ decide (3 < s) = false) (b0 : ¬ b = 0) (b8 : ¬ b = 8) (b16 : ¬ b = 16) (b32 : ¬ b = 32) : lx_like 112 213 [.int s, .int b, .int n] := by
  obtain ⟨w, hw⟩ := lx_merr_1 98
  refine ⟨-1000000001, lx_er 1, w, ?_, ?_⟩
  · refine ev_enter rfl rfl ?_
    repeat (first | exact ev_ret rfl rfl | refine ev_pure rfl rfl ?_ | refine ev_loc rfl rfl ?_ | refine ev_goto rfl ?_ | refine ev_heap rfl rfl ?_ | refine ev_cmT rfl (by first | exact lx_c1n b0 | exact lx_c1e b0 | exact lx_c2n b0 | exact lx_c2e b0 | exact lx_c1n b8 | exact lx_c1e b8 | exact lx_c2n b8 | exact lx_c2e b8 | exact lx_c1n b16 | exact lx_c1e b16 | exact lx_c2n b16 | exact lx_c2e b16 | exact lx_c1n b32 | exact lx_c1e b32 | exact lx_c2n b32 | exact lx_c2e b32 | rfl | decide) ?_ | refine ev_cmF rfl (by first | exact lx_c1n b0 | exact lx_c1e b0 | exact lx_c2n b0 | exact lx_c2e b0 | exact lx_c1n b8 | exact lx_c1e b8 | exact lx_c2n b8 | exact lx_c2e b8 | exact lx_c1n b16 | exact lx_c1e b16 | exact lx_c2n b16 | exact lx_c2e b16 | exact lx_c1n b32 | exact lx_c1e b32 | exact lx_c2n b32 | exact lx_c2e b32 | rfl | decide) ?_ | refine ev_ifT rfl (by first | exact lx_c1n b0 | exact lx_c1e b0 | exact lx_c2n b0 | exact lx_c2e b0 | exact lx_c1n b8 | exact lx_c1e b8 | exact lx_c2n b8 | exact lx_c2e b8 | exact lx_c1n b16 | exact lx_c1e b16 | exact lx_c2n b16 | exact lx_c2e b16 | exact lx_c1n b32 | exact lx_c1e b32 | exact lx_c2n b32 | exact lx_c2e b32 | rfl | decide) ?_ | refine ev_ifF rfl (by first | exact lx_c1n b0 | exact lx_c1e b0 | exact lx_c2n b0 | exact lx_c2e b0 | exact lx_c1n b8 | exact lx_c1e b8 | exact lx_c2n b8 | exact lx_c2e b8 | exact lx_c1n b16 | exact lx_c1e b16 | exact lx_c2n b16 | exact lx_c2e b16 | exact lx_c1n b32 | exact lx_c1e b32 | exact lx_c2n b32 | exact lx_c2e b32 | rfl | decide) ?_ | refine ev_ask rfl rfl (lx_isSheet_t _ hs.1 hs.2) ?_ | refine ev_ask rfl rfl (lx_xerr_1 _) ?_ | refine ev_bi rfl (fun _ => rfl) ?_ | refine ev_enter rfl rfl ?_ | (refine ev_askE rfl rfl ?_; apply Exists.intro; apply Exists.intro; apply And.intro) | refine ev_tab rfl rfl ?_)
  · refine ev_enter rfl rfl ?_
    repeat (first | exact ev_ret rfl rfl | refine ev_pure rfl rfl ?_ | refine ev_loc rfl rfl ?_ | refine ev_goto rfl ?_ | refine ev_heap rfl rfl ?_ | refine ev_cmT rfl (by first | exact lx_c1n b0 | exact lx_c1e b0 | exact lx_c2n b0 | exact lx_c2e b0 | exact lx_c1n b8 | exact lx_c1e b8 | exact lx_c2n b8 | exact lx_c2e b8 | exact lx_c1n b16 | exact lx_c1e b16 | exact lx_c2n b16 | exact lx_c2e b16 | exact lx_c1n b32 | exact lx_c1e b32 | exact lx_c2n b32 | exact lx_c2e b32 | rfl | decide) ?_ | refine ev_cmF rfl (by first | exact lx_c1n b0 | exact lx_c1e b0 | exact lx_c2n b0 | exact lx_c2e b0 | exact lx_c1n b8 | exact lx_c1e b8 | exact lx_c2n b8 | exact lx_c2e b8 | exact lx_c1n b16 | exact lx_c1e b16 | exact lx_c2n b16 | exact lx_c2e b16 | exact lx_c1n b32 | exact lx_c1e b32 | exact lx_c2n b32 | exact lx_c2e b32 | rfl | decide) ?_ | refine ev_ifT rfl (by first | exact lx_c1n b0 | exact lx_c1e b0 | exact lx_c2n b0 | exact lx_c2e b0 | exact lx_c1n b8 | exact lx_c1e b8 | exact lx_c2n b8 | exact lx_c2e b8 | exact lx_c1n b16 | exact lx_c1e b16 | exact lx_c2n b16 | exact lx_c2e b16 | exact lx_c1n b32 | exact lx_c1e b32 | exact lx_c2n b32 | exact lx_c2e b32 | rfl | decide) ?_ | refine ev_ifF rfl (by first | exact lx_c1n b0 | exact lx_c1e b0 | exact lx_c2n b0 | exact lx_c2e b0 | exact lx_c1n b8 | exact lx_c1e b8 | exact lx_c2n b8 | exact lx_c2e b8 | exact lx_c1n b16 | exact lx_c1e b16 | exact lx_c2n b16 | exact lx_c2e b16 | exact lx_c1n b32 | exact lx_c1e b32 | exact lx_c2n b32 | exact lx_c2e b32 | rfl | decide) ?_ | refine ev_ask rfl rfl (hw) ?_ | refine ev_ask rfl rfl (lx_misSheet_t _ hs.1 hs.2) ?_ | refine ev_bi rfl (fun _ => rfl) ?_ | refine ev_enter rfl rfl ?_ | (refine ev_askE rfl rfl ?_; apply Exists.intro; apply Exists.intro; apply And.intro) | refine ev_tab rfl rfl ?_)
set_option maxRecDepth 100000 in
set_option maxHeartbeats 4000000 in
theorem lx_k_sheet_n_8 {s n : Int32} (hs : decide (s < 0) = false ∧ decide (3 < s) = false) (hn : decide (n < 0) = true) : lx_like 112 213 [.int s, .int 8, .int n] := by
  obtain ⟨w, hw⟩ := lx_merr_3 98
  refine ⟨-1000000003, lx_er 3, w, ?_, ?_⟩
  · refine ev_enter rfl rfl ?_
    repeat (first | exact ev_ret rfl rfl | refine ev_pure rfl rfl ?_ | refine ev_loc rfl rfl ?_ | refine ev_goto rfl ?_ | refine ev_heap rfl rfl ?_ | refine ev_cmT rfl (by first | exact hn | exact lx_lt hn | rfl | decide) ?_ | refine ev_cmF rfl (by first | exact hn | exact lx_lt hn | rfl | decide) ?_ | refine ev_ifT rfl (by first | exact hn | exact lx_lt hn | rfl | decide) ?_ | refine ev_ifF rfl (by first | exact hn | exact lx_lt hn | rfl | decide) ?_ | refine ev_ask rfl rfl (lx_isSheet_t _ hs.1 hs.2) ?_ | refine ev_ask rfl rfl (lx_xerr_3 _) ?_ | refine ev_bi rfl (fun _ => rfl) ?_ | refine ev_enter rfl rfl ?_ | (refine ev_askE rfl rfl ?_; apply Exists.intro; apply Exists.intro; apply And.intro) | refine ev_tab rfl rfl ?_)
  · refine ev_enter rfl rfl ?_
    repeat (first | exact ev_ret rfl rfl | refine ev_pure rfl rfl ?_ | refine ev_loc rfl rfl ?_ | refine ev_goto rfl ?_ | refine ev_heap rfl rfl ?_ | refine ev_cmT rfl (by first | exact hn | exact lx_lt hn | rfl | decide) ?_ | refine ev_cmF rfl (by first | exact hn | exact lx_lt hn | rfl | decide) ?_ | refine ev_ifT rfl (by first | exact hn | exact lx_lt hn | rfl | decide) ?_ | refine ev_ifF rfl (by first | exact hn | exact lx_lt hn | rfl | decide) ?_ | refine ev_ask rfl rfl (hw) ?_ | refine ev_ask rfl rfl (lx_misSheet_t _ hs.1 hs.2) ?_ | refine ev_bi rfl (fun _ => rfl) ?_ | refine ev_enter rfl rfl ?_ | (refine ev_askE rfl rfl ?_; apply Exists.intro; apply Exists.intro; apply And.intro) | refine ev_tab rfl rfl ?_)
set_option maxRecDepth 100000 in
set_option maxHeartbeats 4000000 in
theorem lx_k_sheet_m_8 {s n : Int32} (hs : decide (s < 0) = false ∧ decide (3 < s) = false) (hn : decide (n < 0) = false) (hm : decide (40 < n) = true) : lx_like 112 213 [.int s, .int 8, .int n] := by
  obtain ⟨w, hw⟩ := lx_merr_1 98
  refine ⟨-1000000001, lx_er 1, w, ?_, ?_⟩
  · refine ev_enter rfl rfl ?_
    repeat (first | exact ev_ret rfl rfl | refine ev_pure rfl rfl ?_ | refine ev_loc rfl rfl ?_ | refine ev_goto rfl ?_ | refine ev_heap rfl rfl ?_ | refine ev_cmT rfl (by first | exact hn | exact lx_nlt hn | exact hm | exact lx_lt hm | rfl | decide) ?_ | refine ev_cmF rfl (by first | exact hn | exact lx_nlt hn | exact hm | exact lx_lt hm | rfl | decide) ?_ | refine ev_ifT rfl (by first | exact hn | exact lx_nlt hn | exact hm | exact lx_lt hm | rfl | decide) ?_ | refine ev_ifF rfl (by first | exact hn | exact lx_nlt hn | exact hm | exact lx_lt hm | rfl | decide) ?_ | refine ev_ask rfl rfl (lx_isSheet_t _ hs.1 hs.2) ?_ | refine ev_ask rfl rfl (lx_xerr_1 _) ?_ | refine ev_bi rfl (fun _ => rfl) ?_ | refine ev_enter rfl rfl ?_ | (refine ev_askE rfl rfl ?_; apply Exists.intro; apply Exists.intro; apply And.intro) | refine ev_tab rfl rfl ?_)
  · refine ev_enter rfl rfl ?_
    repeat (first | exact ev_ret rfl rfl | refine ev_pure rfl rfl ?_ | refine ev_loc rfl rfl ?_ | refine ev_goto rfl ?_ | refine ev_heap rfl rfl ?_ | refine ev_cmT rfl (by first | exact hn | exact lx_nlt hn | exact hm | exact lx_lt hm | rfl | decide) ?_ | refine ev_cmF rfl (by first | exact hn | exact lx_nlt hn | exact hm | exact lx_lt hm | rfl | decide) ?_ | refine ev_ifT rfl (by first | exact hn | exact lx_nlt hn | exact hm | exact lx_lt hm | rfl | decide) ?_ | refine ev_ifF rfl (by first | exact hn | exact lx_nlt hn | exact hm | exact lx_lt hm | rfl | decide) ?_ | refine ev_ask rfl rfl (hw) ?_ | refine ev_ask rfl rfl (lx_misSheet_t _ hs.1 hs.2) ?_ | refine ev_bi rfl (fun _ => rfl) ?_ | refine ev_enter rfl rfl ?_ | (refine ev_askE rfl rfl ?_; apply Exists.intro; apply Exists.intro; apply And.intro) | refine ev_tab rfl rfl ?_)
set_option maxRecDepth 100000 in
set_option maxHeartbeats 4000000 in
theorem lx_k_sheet_n_16 {s n : Int32} (hs : decide (s < 0) = false ∧ decide (3 < s) = false) (hn : decide (n < 0) = true) : lx_like 112 213 [.int s, .int 16, .int n] := by
  obtain ⟨w, hw⟩ := lx_merr_3 98
  refine ⟨-1000000003, lx_er 3, w, ?_, ?_⟩
  · refine ev_enter rfl rfl ?_
    repeat (first | exact ev_ret rfl rfl | refine ev_pure rfl rfl ?_ | refine ev_loc rfl rfl ?_ | refine ev_goto rfl ?_ | refine ev_heap rfl rfl ?_ | refine ev_cmT rfl (by first | exact hn | exact lx_lt hn | rfl | decide) ?_ | refine ev_cmF rfl (by first | exact hn | exact lx_lt hn | rfl | decide) ?_ | refine ev_ifT rfl (by first | exact hn | exact lx_lt hn | rfl | decide) ?_ | refine ev_ifF rfl (by first | exact hn | exact lx_lt hn | rfl | decide) ?_ | refine ev_ask rfl rfl (lx_isSheet_t _ hs.1 hs.2) ?_ | refine ev_ask rfl rfl (lx_xerr_3 _) ?_ | refine ev_bi rfl (fun _ => rfl) ?_ | refine ev_enter rfl rfl ?_ | (refine ev_askE rfl rfl ?_; apply Exists.intro; apply Exists.intro; apply And.intro) | refine ev_tab rfl rfl ?_)
  · refine ev_enter rfl rfl ?_
    repeat (first | exact ev_ret rfl rfl | refine ev_pure rfl rfl ?_ | refine ev_loc rfl rfl ?_ | refine ev_goto rfl ?_ | refine ev_heap rfl rfl ?_ | refine ev_cmT rfl (by first | exact hn | exact lx_lt hn | rfl | decide) ?_ | refine ev_cmF rfl (by first | exact hn | exact lx_lt hn | rfl | decide) ?_ | refine ev_ifT rfl (by first | exact hn | exact lx_lt hn | rfl | decide) ?_ | refine ev_ifF rfl (by first | exact hn | exact lx_lt hn | rfl | decide) ?_ | refine ev_ask rfl rfl (hw) ?_ | refine ev_ask rfl rfl (lx_misSheet_t _ hs.1 hs.2) ?_ | refine ev_bi rfl (fun _ => rfl) ?_ | refine ev_enter rfl rfl ?_ | (refine ev_askE rfl rfl ?_; apply Exists.intro; apply Exists.intro; apply And.intro) | refine ev_tab rfl rfl ?_)
set_option maxRecDepth 100000 in
set_option maxHeartbeats 4000000 in
theorem lx_k_sheet_m_16 {s n : Int32} (hs : decide (s < 0) = false ∧ decide (3 < s) = false) (hn : decide (n < 0) = false) (hm : decide (40 < n) = true) : lx_like 112 213 [.int s, .int 16, .int n] := by
  obtain ⟨w, hw⟩ := lx_merr_1 98
  refine ⟨-1000000001, lx_er 1, w, ?_, ?_⟩
  · refine ev_enter rfl rfl ?_
    repeat (first | exact ev_ret rfl rfl | refine ev_pure rfl rfl ?_ | refine ev_loc rfl rfl ?_ | refine ev_goto rfl ?_ | refine ev_heap rfl rfl ?_ | refine ev_cmT rfl (by first | exact hn | exact lx_nlt hn | exact hm | exact lx_lt hm | rfl | decide) ?_ | refine ev_cmF rfl (by first | exact hn | exact lx_nlt hn | exact hm | exact lx_lt hm | rfl | decide) ?_ | refine ev_ifT rfl (by first | exact hn | exact lx_nlt hn | exact hm | exact lx_lt hm | rfl | decide) ?_ | refine ev_ifF rfl (by first | exact hn | exact lx_nlt hn | exact hm | exact lx_lt hm | rfl | decide) ?_ | refine ev_ask rfl rfl (lx_isSheet_t _ hs.1 hs.2) ?_ | refine ev_ask rfl rfl (lx_xerr_1 _) ?_ | refine ev_bi rfl (fun _ => rfl) ?_ | refine ev_enter rfl rfl ?_ | (refine ev_askE rfl rfl ?_; apply Exists.intro; apply Exists.intro; apply And.intro) | refine ev_tab rfl rfl ?_)
  · refine ev_enter rfl rfl ?_
    repeat (first | exact ev_ret rfl rfl | refine ev_pure rfl rfl ?_ | refine ev_loc rfl rfl ?_ | refine ev_goto rfl ?_ | refine ev_heap rfl rfl ?_ | refine ev_cmT rfl (by first | exact hn | exact lx_nlt hn | exact hm | exact lx_lt hm | rfl | decide) ?_ | refine ev_cmF rfl (by first | exact hn | exact lx_nlt hn | exact hm | exact lx_lt hm | rfl | decide) ?_ | refine ev_ifT rfl (by first | exact hn | exact lx_nlt hn | exact hm | exact lx_lt hm | rfl | decide) ?_ | refine ev_ifF rfl (by first | exact hn | exact lx_nlt hn | exact hm | exact lx_lt hm | rfl | decide) ?_ | refine ev_ask rfl rfl (hw) ?_ | refine ev_ask rfl rfl (lx_misSheet_t _ hs.1 hs.2) ?_ | refine ev_bi rfl (fun _ => rfl) ?_ | refine ev_enter rfl rfl ?_ | (refine ev_askE rfl rfl ?_; apply Exists.intro; apply Exists.intro; apply And.intro) | refine ev_tab rfl rfl ?_)
set_option maxRecDepth 100000 in
set_option maxHeartbeats 4000000 in
theorem lx_k_sheet_n_32 {s n : Int32} (hs : decide (s < 0) = false ∧ decide (3 < s) = false) (hn : decide (n < 0) = true) : lx_like 112 213 [.int s, .int 32, .int n] := by
  obtain ⟨w, hw⟩ := lx_merr_3 98
  refine ⟨-1000000003, lx_er 3, w, ?_, ?_⟩
  · refine ev_enter rfl rfl ?_
    repeat (first | exact ev_ret rfl rfl | refine ev_pure rfl rfl ?_ | refine ev_loc rfl rfl ?_ | refine ev_goto rfl ?_ | refine ev_heap rfl rfl ?_ | refine ev_cmT rfl (by first | exact hn | exact lx_lt hn | rfl | decide) ?_ | refine ev_cmF rfl (by first | exact hn | exact lx_lt hn | rfl | decide) ?_ | refine ev_ifT rfl (by first | exact hn | exact lx_lt hn | rfl | decide) ?_ | refine ev_ifF rfl (by first | exact hn | exact lx_lt hn | rfl | decide) ?_ | refine ev_ask rfl rfl (lx_isSheet_t _ hs.1 hs.2) ?_ | refine ev_ask rfl rfl (lx_xerr_3 _) ?_ | refine ev_bi rfl (fun _ => rfl) ?_ | refine ev_enter rfl rfl ?_ | (refine ev_askE rfl rfl ?_; apply Exists.intro; apply Exists.intro; apply And.intro) | refine ev_tab rfl rfl ?_)
  · refine ev_enter rfl rfl ?_
    repeat (first | exact ev_ret rfl rfl | refine ev_pure rfl rfl ?_ | refine ev_loc rfl rfl ?_ | refine ev_goto rfl ?_ | refine ev_heap rfl rfl ?_ | refine ev_cmT rfl (by first | exact hn | exact lx_lt hn | rfl | decide) ?_ | refine ev_cmF rfl (by first | exact hn | exact lx_lt hn | rfl | decide) ?_ | refine ev_ifT rfl (by first | exact hn | exact lx_lt hn | rfl | decide) ?_ | refine ev_ifF rfl (by first | exact hn | exact lx_lt hn | rfl | decide) ?_ | refine ev_ask rfl rfl (hw) ?_ | refine ev_ask rfl rfl (lx_misSheet_t _ hs.1 hs.2) ?_ | refine ev_bi rfl (fun _ => rfl) ?_ | refine ev_enter rfl rfl ?_ | (refine ev_askE rfl rfl ?_; apply Exists.intro; apply Exists.intro; apply And.intro) | refine ev_tab rfl rfl ?_)
set_option maxRecDepth 100000 in
set_option maxHeartbeats 4000000 in
theorem lx_k_sheet_m_32 {s n : Int32} (hs : decide (s < 0) = false ∧ decide (3 < s) = false) (hn : decide (n < 0) = false) (hm : decide (40 < n) = true) : lx_like 112 213 [.int s, .int 32, .int n] := by
  obtain ⟨w, hw⟩ := lx_merr_1 98
  refine ⟨-1000000001, lx_er 1, w, ?_, ?_⟩
  · refine ev_enter rfl rfl ?_
    repeat (first | exact ev_ret rfl rfl | refine ev_pure rfl rfl ?_ | refine ev_loc rfl rfl ?_ | refine ev_goto rfl ?_ | refine ev_heap rfl rfl ?_ | refine ev_cmT rfl (by first | exact hn | exact lx_nlt hn | exact hm | exact lx_lt hm | rfl | decide) ?_ | refine ev_cmF rfl (by first | exact hn | exact lx_nlt hn | exact hm | exact lx_lt hm | rfl | decide) ?_ | refine ev_ifT rfl (by first | exact hn | exact lx_nlt hn | exact hm | exact lx_lt hm | rfl | decide) ?_ | refine ev_ifF rfl (by first | exact hn | exact lx_nlt hn | exact hm | exact lx_lt hm | rfl | decide) ?_ | refine ev_ask rfl rfl (lx_isSheet_t _ hs.1 hs.2) ?_ | refine ev_ask rfl rfl (lx_xerr_1 _) ?_ | refine ev_bi rfl (fun _ => rfl) ?_ | refine ev_enter rfl rfl ?_ | (refine ev_askE rfl rfl ?_; apply Exists.intro; apply Exists.intro; apply And.intro) | refine ev_tab rfl rfl ?_)
  · refine ev_enter rfl rfl ?_
    repeat (first | exact ev_ret rfl rfl | refine ev_pure rfl rfl ?_ | refine ev_loc rfl rfl ?_ | refine ev_goto rfl ?_ | refine ev_heap rfl rfl ?_ | refine ev_cmT rfl (by first | exact hn | exact lx_nlt hn | exact hm | exact lx_lt hm | rfl | decide) ?_ | refine ev_cmF rfl (by first | exact hn | exact lx_nlt hn | exact hm | exact lx_lt hm | rfl | decide) ?_ | refine ev_ifT rfl (by first | exact hn | exact lx_nlt hn | exact hm | exact lx_lt hm | rfl | decide) ?_ | refine ev_ifF rfl (by first | exact hn | exact lx_nlt hn | exact hm | exact lx_lt hm | rfl | decide) ?_ | refine ev_ask rfl rfl (hw) ?_ | refine ev_ask rfl rfl (lx_misSheet_t _ hs.1 hs.2) ?_ | refine ev_bi rfl (fun _ => rfl) ?_ | refine ev_enter rfl rfl ?_ | (refine ev_askE rfl rfl ?_; apply Exists.intro; apply Exists.intro; apply And.intro) | refine ev_tab rfl rfl ?_)
set_option maxRecDepth 100000 in
set_option maxHeartbeats 4000000 in
theorem lx_k_sheet_0_0 (n : Int32) : lx_like 112 213 [.int (nI 0), .int 0, .int n] := by
  apply Exists.intro
  apply Exists.intro
  apply Exists.intro
  apply And.intro
  · refine ev_enter rfl rfl ?_
    repeat (first | exact lx_sx_0 40 0 _ (by decide) (by decide) | exact ev_ret rfl rfl | refine ev_pure rfl rfl ?_ | refine ev_loc rfl rfl ?_ | refine ev_goto rfl ?_ | refine ev_heap rfl rfl ?_ | refine ev_cmT rfl (by first | rfl | decide) ?_ | refine ev_cmF rfl (by first | rfl | decide) ?_ | refine ev_ifT rfl (by first | rfl | decide) ?_ | refine ev_ifF rfl (by first | rfl | decide) ?_ | refine ev_bi rfl (fun _ => rfl) ?_ | refine ev_enter rfl rfl ?_ | (refine ev_askE rfl rfl ?_; apply Exists.intro; apply Exists.intro; apply And.intro) | refine ev_tab rfl rfl ?_)
  · refine ev_enter rfl rfl ?_
    repeat (first | exact lx_sm_0 40 0 _ (by decide) (by decide) | exact ev_ret rfl rfl | refine ev_pure rfl rfl ?_ | refine ev_loc rfl rfl ?_ | refine ev_goto rfl ?_ | refine ev_heap rfl rfl ?_ | refine ev_cmT rfl (by first | rfl | decide) ?_ | refine ev_cmF rfl (by first | rfl | decide) ?_ | refine ev_ifT rfl (by first | rfl | decide) ?_ | refine ev_ifF rfl (by first | rfl | decide) ?_ | refine ev_bi rfl (fun _ => rfl) ?_ | refine ev_enter rfl rfl ?_ | (refine ev_askE rfl rfl ?_; apply Exists.intro; apply Exists.intro; apply And.intro) | refine ev_tab rfl rfl ?_)
set_option maxRecDepth 100000 in
set_option maxHeartbeats 4000000 in
theorem lx_k_sheet_0_8 {n : Int32} (hn : decide (n < 0) = false) (hm : decide (40 < n) = false) : lx_like 112 213 [.int (nI 0), .int 8, .int n] := by
  apply Exists.intro
  apply Exists.intro
  apply Exists.intro
  apply And.intro
  · refine ev_enter rfl rfl ?_
    repeat (first | exact lx_sx_0 40 0 _ (by decide) (by decide) | exact ev_ret rfl rfl | refine ev_pure rfl rfl ?_ | refine ev_loc rfl rfl ?_ | refine ev_goto rfl ?_ | refine ev_heap rfl rfl ?_ | refine ev_cmT rfl (by first | exact hn | exact lx_nlt hn | exact hm | exact lx_nlt hm | rfl | decide) ?_ | refine ev_cmF rfl (by first | exact hn | exact lx_nlt hn | exact hm | exact lx_nlt hm | rfl | decide) ?_ | refine ev_ifT rfl (by first | exact hn | exact lx_nlt hn | exact hm | exact lx_nlt hm | rfl | decide) ?_ | refine ev_ifF rfl (by first | exact hn | exact lx_nlt hn | exact hm | exact lx_nlt hm | rfl | decide) ?_ | refine ev_bi rfl (fun _ => rfl) ?_ | refine ev_enter rfl rfl ?_ | (refine ev_askE rfl rfl ?_; apply Exists.intro; apply Exists.intro; apply And.intro) | refine ev_tab rfl rfl ?_)
  · refine ev_enter rfl rfl ?_
    repeat (first | exact lx_sm_0 40 0 _ (by decide) (by decide) | exact ev_ret rfl rfl | refine ev_pure rfl rfl ?_ | refine ev_loc rfl rfl ?_ | refine ev_goto rfl ?_ | refine ev_heap rfl rfl ?_ | refine ev_cmT rfl (by first | exact hn | exact lx_nlt hn | exact hm | exact lx_nlt hm | rfl | decide) ?_ | refine ev_cmF rfl (by first | exact hn | exact lx_nlt hn | exact hm | exact lx_nlt hm | rfl | decide) ?_ | refine ev_ifT rfl (by first | exact hn | exact lx_nlt hn | exact hm | exact lx_nlt hm | rfl | decide) ?_ | refine ev_ifF rfl (by first | exact hn | exact lx_nlt hn | exact hm | exact lx_nlt hm | rfl | decide) ?_ | refine ev_bi rfl (fun _ => rfl) ?_ | refine ev_enter rfl rfl ?_ | (refine ev_askE rfl rfl ?_; apply Exists.intro; apply Exists.intro; apply And.intro) | refine ev_tab rfl rfl ?_)
set_option maxRecDepth 100000 in
set_option maxHeartbeats 4000000 in
theorem lx_k_sheet_0_16 {n : Int32} (hn : decide (n < 0) = false) (hm : decide (40 < n) = false) : lx_like 112 213 [.int (nI 0), .int 16, .int n] := by
  apply Exists.intro
  apply Exists.intro
  apply Exists.intro
  apply And.intro
  · refine ev_enter rfl rfl ?_
    repeat (first | exact lx_sx_0 40 0 _ (by decide) (by decide) | exact ev_ret rfl rfl | refine ev_pure rfl rfl ?_ | refine ev_loc rfl rfl ?_ | refine ev_goto rfl ?_ | refine ev_heap rfl rfl ?_ | refine ev_cmT rfl (by first | exact hn | exact lx_nlt hn | exact hm | exact lx_nlt hm | rfl | decide) ?_ | refine ev_cmF rfl (by first | exact hn | exact lx_nlt hn | exact hm | exact lx_nlt hm | rfl | decide) ?_ | refine ev_ifT rfl (by first | exact hn | exact lx_nlt hn | exact hm | exact lx_nlt hm | rfl | decide) ?_ | refine ev_ifF rfl (by first | exact hn | exact lx_nlt hn | exact hm | exact lx_nlt hm | rfl | decide) ?_ | refine ev_bi rfl (fun _ => rfl) ?_ | refine ev_enter rfl rfl ?_ | (refine ev_askE rfl rfl ?_; apply Exists.intro; apply Exists.intro; apply And.intro) | refine ev_tab rfl rfl ?_)
  · refine ev_enter rfl rfl ?_
    repeat (first | exact lx_sm_0 40 0 _ (by decide) (by decide) | exact ev_ret rfl rfl | refine ev_pure rfl rfl ?_ | refine ev_loc rfl rfl ?_ | refine ev_goto rfl ?_ | refine ev_heap rfl rfl ?_ | refine ev_cmT rfl (by first | exact hn | exact lx_nlt hn | exact hm | exact lx_nlt hm | rfl | decide) ?_ | refine ev_cmF rfl (by first | exact hn | exact lx_nlt hn | exact hm | exact lx_nlt hm | rfl | decide) ?_ | refine ev_ifT rfl (by first | exact hn | exact lx_nlt hn | exact hm | exact lx_nlt hm | rfl | decide) ?_ | refine ev_ifF rfl (by first | exact hn | exact lx_nlt hn | exact hm | exact lx_nlt hm | rfl | decide) ?_ | refine ev_bi rfl (fun _ => rfl) ?_ | refine ev_enter rfl rfl ?_ | (refine ev_askE rfl rfl ?_; apply Exists.intro; apply Exists.intro; apply And.intro) | refine ev_tab rfl rfl ?_)
set_option maxRecDepth 100000 in
set_option maxHeartbeats 4000000 in
theorem lx_k_sheet_0_32 {n : Int32} (hn : decide (n < 0) = false) (hm : decide (40 < n) = false) : lx_like 112 213 [.int (nI 0), .int 32, .int n] := by
  apply Exists.intro
  apply Exists.intro
  apply Exists.intro
  apply And.intro
  · refine ev_enter rfl rfl ?_
    repeat (first | exact lx_sx_0 40 0 _ (by decide) (by decide) | exact ev_ret rfl rfl | refine ev_pure rfl rfl ?_ | refine ev_loc rfl rfl ?_ | refine ev_goto rfl ?_ | refine ev_heap rfl rfl ?_ | refine ev_cmT rfl (by first | exact hn | exact lx_nlt hn | exact hm | exact lx_nlt hm | rfl | decide) ?_ | refine ev_cmF rfl (by first | exact hn | exact lx_nlt hn | exact hm | exact lx_nlt hm | rfl | decide) ?_ | refine ev_ifT rfl (by first | exact hn | exact lx_nlt hn | exact hm | exact lx_nlt hm | rfl | decide) ?_ | refine ev_ifF rfl (by first | exact hn | exact lx_nlt hn | exact hm | exact lx_nlt hm | rfl | decide) ?_ | refine ev_bi rfl (fun _ => rfl) ?_ | refine ev_enter rfl rfl ?_ | (refine ev_askE rfl rfl ?_; apply Exists.intro; apply Exists.intro; apply And.intro) | refine ev_tab rfl rfl ?_)
  · refine ev_enter rfl rfl ?_
    repeat (first | exact lx_sm_0 40 0 _ (by decide) (by decide) | exact ev_ret rfl rfl | refine ev_pure rfl rfl ?_ | refine ev_loc rfl rfl ?_ | refine ev_goto rfl ?_ | refine ev_heap rfl rfl ?_ | refine ev_cmT rfl (by first | exact hn | exact lx_nlt hn | exact hm | exact lx_nlt hm | rfl | decide) ?_ | refine ev_cmF rfl (by first | exact hn | exact lx_nlt hn | exact hm | exact lx_nlt hm | rfl | decide) ?_ | refine ev_ifT rfl (by first | exact hn | exact lx_nlt hn | exact hm | exact lx_nlt hm | rfl | decide) ?_ | refine ev_ifF rfl (by first | exact hn | exact lx_nlt hn | exact hm | exact lx_nlt hm | rfl | decide) ?_ | refine ev_bi rfl (fun _ => rfl) ?_ | refine ev_enter rfl rfl ?_ | (refine ev_askE rfl rfl ?_; apply Exists.intro; apply Exists.intro; apply And.intro) | refine ev_tab rfl rfl ?_)
set_option maxRecDepth 100000 in
set_option maxHeartbeats 4000000 in
theorem lx_k_sheet_1_0 (n : Int32) : lx_like 112 213 [.int (nI 1), .int 0, .int n] := by
  apply Exists.intro
  apply Exists.intro
  apply Exists.intro
  apply And.intro
  · refine ev_enter rfl rfl ?_
    repeat (first | exact lx_sx_1 40 0 _ (by decide) (by decide) | exact ev_ret rfl rfl | refine ev_pure rfl rfl ?_ | refine ev_loc rfl rfl ?_ | refine ev_goto rfl ?_ | refine ev_heap rfl rfl ?_ | refine ev_cmT rfl (by first | rfl | decide) ?_ | refine ev_cmF rfl (by first | rfl | decide) ?_ | refine ev_ifT rfl (by first | rfl | decide) ?_ | refine ev_ifF rfl (by first | rfl | decide) ?_ | refine ev_bi rfl (fun _ => rfl) ?_ | refine ev_enter rfl rfl ?_ | (refine ev_askE rfl rfl ?_; apply Exists.intro; apply Exists.intro; apply And.intro) | refine ev_tab rfl rfl ?_)
  · refine ev_enter rfl rfl ?_
    repeat (first | exact lx_sm_1 40 0 _ (by decide) (by decide) | exact ev_ret rfl rfl | refine ev_pure rfl rfl ?_ | refine ev_loc rfl rfl ?_ | refine ev_goto rfl ?_ | refine ev_heap rfl rfl ?_ | refine ev_cmT rfl (by first | rfl | decide) ?_ | refine ev_cmF rfl (by first | rfl | decide) ?_ | refine ev_ifT rfl (by first | rfl | decide) ?_ | refine ev_ifF rfl (by first | rfl | decide) ?_ | refine ev_bi rfl (fun _ => rfl) ?_ | refine ev_enter rfl rfl ?_ | (refine ev_askE rfl rfl ?_; apply Exists.intro; apply Exists.intro; apply And.intro) | refine ev_tab rfl rfl ?_)
set_option maxRecDepth 100000 in
set_option maxHeartbeats 4000000 in
theorem lx_k_sheet_1_8 {n : Int32} (hn : decide (n < 0) = false) (hm : decide (40 < n) = false) : lx_like 112 213 [.int (nI 1), .int 8, .int n] := by
  apply Exists.intro
  apply Exists.intro
  apply Exists.intro
  apply And.intro
  · refine ev_enter rfl rfl ?_
    repeat (first | exact lx_sx_1 40 0 _ (by decide) (by decide) | exact ev_ret rfl rfl | refine ev_pure rfl rfl ?_ | refine ev_loc rfl rfl ?_ | refine ev_goto rfl ?_ | refine ev_heap rfl rfl ?_ | refine ev_cmT rfl (by first | exact hn | exact lx_nlt hn | exact hm | exact lx_nlt hm | rfl | decide) ?_ | refine ev_cmF rfl (by first | exact hn | exact lx_nlt hn | exact hm | exact lx_nlt hm | rfl | decide) ?_ | refine ev_ifT rfl (by first | exact hn | exact lx_nlt hn | exact hm | exact lx_nlt hm | rfl | decide) ?_ | refine ev_ifF rfl (by first | exact hn | exact lx_nlt hn | exact hm | exact lx_nlt hm | rfl | decide) ?_ | refine ev_bi rfl (fun _ => rfl) ?_ | refine ev_enter rfl rfl ?_ | (refine ev_askE rfl rfl ?_; apply Exists.intro; apply Exists.intro; apply And.intro) | refine ev_tab rfl rfl ?_)
  · refine ev_enter rfl rfl ?_
    repeat (first | exact lx_sm_1 40 0 _ (by decide) (by decide) | exact ev_ret rfl rfl | refine ev_pure rfl rfl ?_ | refine ev_loc rfl rfl ?_ | refine ev_goto rfl ?_ | refine ev_heap rfl rfl ?_ | refine ev_cmT rfl (by first | exact hn | exact lx_nlt hn | exact hm | exact lx_nlt hm | rfl | decide) ?_ | refine ev_cmF rfl (by first | exact hn | exact lx_nlt hn | exact hm | exact lx_nlt hm | rfl | decide) ?_ | refine ev_ifT rfl (by first | exact hn | exact lx_nlt hn | exact hm | exact lx_nlt hm | rfl | decide) ?_ | refine ev_ifF rfl (by first | exact hn | exact lx_nlt hn | exact hm | exact lx_nlt hm | rfl | decide) ?_ | refine ev_bi rfl (fun _ => rfl) ?_ | refine ev_enter rfl rfl ?_ | (refine ev_askE rfl rfl ?_; apply Exists.intro; apply Exists.intro; apply And.intro) | refine ev_tab rfl rfl ?_)
set_option maxRecDepth 100000 in
set_option maxHeartbeats 4000000 in
theorem lx_k_sheet_1_16 {n : Int32} (hn : decide (n < 0) = false) (hm : decide (40 < n) = false) : lx_like 112 213 [.int (nI 1), .int 16, .int n] := by
  apply Exists.intro
  apply Exists.intro
  apply Exists.intro
  apply And.intro
  · refine ev_enter rfl rfl ?_
    repeat (first | exact lx_sx_1 40 0 _ (by decide) (by decide) | exact ev_ret rfl rfl | refine ev_pure rfl rfl ?_ | refine ev_loc rfl rfl ?_ | refine ev_goto rfl ?_ | refine ev_heap rfl rfl ?_ | refine ev_cmT rfl (by first | exact hn | exact lx_nlt hn | exact hm | exact lx_nlt hm | rfl | decide) ?_ | refine ev_cmF rfl (by first | exact hn | exact lx_nlt hn | exact hm | exact lx_nlt hm | rfl | decide) ?_ | refine ev_ifT rfl (by first | exact hn | exact lx_nlt hn | exact hm | exact lx_nlt hm | rfl | decide) ?_ | refine ev_ifF rfl (by first | exact hn | exact lx_nlt hn | exact hm | exact lx_nlt hm | rfl | decide) ?_ | refine ev_bi rfl (fun _ => rfl) ?_ | refine ev_enter rfl rfl ?_ | (refine ev_askE rfl rfl ?_; apply Exists.intro; apply Exists.intro; apply And.intro) | refine ev_tab rfl rfl ?_)
  · refine ev_enter rfl rfl ?_
    repeat (first | exact lx_sm_1 40 0 _ (by decide) (by decide) | exact ev_ret rfl rfl | refine ev_pure rfl rfl ?_ | refine ev_loc rfl rfl ?_ | refine ev_goto rfl ?_ | refine ev_heap rfl rfl ?_ | refine ev_cmT rfl (by first | exact hn | exact lx_nlt hn | exact hm | exact lx_nlt hm | rfl | decide) ?_ | refine ev_cmF rfl (by first | exact hn | exact lx_nlt hn | exact hm | exact lx_nlt hm | rfl | decide) ?_ | refine ev_ifT rfl (by first | exact hn | exact lx_nlt hn | exact hm | exact lx_nlt hm | rfl | decide) ?_ | refine ev_ifF rfl (by first | exact hn | exact lx_nlt hn | exact hm | exact lx_nlt hm | rfl | decide) ?_ | refine ev_bi rfl (fun _ => rfl) ?_ | refine ev_enter rfl rfl ?_ | (refine ev_askE rfl rfl ?_; apply Exists.intro; apply Exists.intro; apply And.intro) | refine ev_tab rfl rfl ?_)
set_option maxRecDepth 100000 in
set_option maxHeartbeats 4000000 in
theorem lx_k_sheet_1_32 {n : Int32} (hn : decide (n < 0) = false) (hm : decide (40 < n) = false) : lx_like 112 213 [.int (nI 1), .int 32, .int n] := by
  apply Exists.intro
  apply Exists.intro
  apply Exists.intro
  apply And.intro
  · refine ev_enter rfl rfl ?_
    repeat (first | exact lx_sx_1 40 0 _ (by decide) (by decide) | exact ev_ret rfl rfl | refine ev_pure rfl rfl ?_ | refine ev_loc rfl rfl ?_ | refine ev_goto rfl ?_ | refine ev_heap rfl rfl ?_ | refine ev_cmT rfl (by first | exact hn | exact lx_nlt hn | exact hm | exact lx_nlt hm | rfl | decide) ?_ | refine ev_cmF rfl (by first | exact hn | exact lx_nlt hn | exact hm | exact lx_nlt hm | rfl | decide) ?_ | refine ev_ifT rfl (by first | exact hn | exact lx_nlt hn | exact hm | exact lx_nlt hm | rfl | decide) ?_ | refine ev_ifF rfl (by first | exact hn | exact lx_nlt hn | exact hm | exact lx_nlt hm | rfl | decide) ?_ | refine ev_bi rfl (fun _ => rfl) ?_ | refine ev_enter rfl rfl ?_ | (refine ev_askE rfl rfl ?_; apply Exists.intro; apply Exists.intro; apply And.intro) | refine ev_tab rfl rfl ?_)
  · refine ev_enter rfl rfl ?_
    repeat (first | exact lx_sm_1 40 0 _ (by decide) (by decide) | exact ev_ret rfl rfl | refine ev_pure rfl rfl ?_ | refine ev_loc rfl rfl ?_ | refine ev_goto rfl ?_ | refine ev_heap rfl rfl ?_ | refine ev_cmT rfl (by first | exact hn | exact lx_nlt hn | exact hm | exact lx_nlt hm | rfl | decide) ?_ | refine ev_cmF rfl (by first | exact hn | exact lx_nlt hn | exact hm | exact lx_nlt hm | rfl | decide) ?_ | refine ev_ifT rfl (by first | exact hn | exact lx_nlt hn | exact hm | exact lx_nlt hm | rfl | decide) ?_ | refine ev_ifF rfl (by first | exact hn | exact lx_nlt hn | exact hm | exact lx_nlt hm | rfl | decide) ?_ | refine ev_bi rfl (fun _ => rfl) ?_ | refine ev_enter rfl rfl ?_ | (refine ev_askE rfl rfl ?_; apply Exists.intro; apply Exists.intro; apply And.intro) | refine ev_tab rfl rfl ?_)
set_option maxRecDepth 100000 in
set_option maxHeartbeats 4000000 in
theorem lx_k_sheet_2_0 (n : Int32) : lx_like 112 213 [.int (nI 2), .int 0, .int n] := by
  apply Exists.intro
  apply Exists.intro
  apply Exists.intro
  apply And.intro
  · refine ev_enter rfl rfl ?_
    repeat (first | exact lx_sx_2 40 0 _ (by decide) (by decide) | exact ev_ret rfl rfl | refine ev_pure rfl rfl ?_ | refine ev_loc rfl rfl ?_ | refine ev_goto rfl ?_ | refine ev_heap rfl rfl ?_ | refine ev_cmT rfl (by first | rfl | decide) ?_ | refine ev_cmF rfl (by first | rfl | decide) ?_ | refine ev_ifT rfl (by first | rfl | decide) ?_ | refine ev_ifF rfl (by first | rfl | decide) ?_ | refine ev_bi rfl (fun _ => rfl) ?_ | refine ev_enter rfl rfl ?_ | (refine ev_askE rfl rfl ?_; apply Exists.intro; apply Exists.intro; apply And.intro) | refine ev_tab rfl rfl ?_)
  · refine ev_enter rfl rfl ?_
    repeat (first | exact lx_sm_2 40 0 _ (by decide) (by decide) | exact ev_ret rfl rfl | refine ev_pure rfl rfl ?_ | refine ev_loc rfl rfl ?_ | refine ev_goto rfl ?_ | refine ev_heap rfl rfl ?_ | refine ev_cmT rfl (by first | rfl | decide) ?_ | refine ev_cmF rfl (by first | rfl | decide) ?_ | refine ev_ifT rfl (by first | rfl | decide) ?_ | refine ev_ifF rfl (by first | rfl | decide) ?_ | refine ev_bi rfl (fun _ => rfl) ?_ | refine ev_enter rfl rfl ?_ | (refine ev_askE rfl rfl ?_; apply Exists.intro; apply Exists.intro; apply And.intro) | refine ev_tab rfl rfl ?_)
set_option maxRecDepth 100000 in
set_option maxHeartbeats 4000000 in
theorem lx_k_sheet_2_8 {n : Int32} (hn : decide (n < 0) = false) (hm : decide (40 < n) = false) : lx_like 112 213 [.int (nI 2), .int 8, .int n] := by
  apply Exists.intro
  apply Exists.intro
  apply Exists.intro
  apply And.intro
  · refine ev_enter rfl rfl ?_
    repeat (first | exact lx_sx_2 40 0 _ (by decide) (by decide) | exact ev_ret rfl rfl | refine ev_pure rfl rfl ?_ | refine ev_loc rfl rfl ?_ | refine ev_goto rfl ?_ | refine ev_heap rfl rfl ?_ | refine ev_cmT rfl (by first | exact hn | exact lx_nlt hn | exact hm | exact lx_nlt hm | rfl | decide) ?_ | refine ev_cmF rfl (by first | exact hn | exact lx_nlt hn | exact hm | exact lx_nlt hm | rfl | decide) ?_ | refine ev_ifT rfl (by first | exact hn | exact lx_nlt hn | exact hm | exact lx_nlt hm | rfl | decide) ?_ | refine ev_ifF rfl (by first | exact hn | exact lx_nlt hn | exact hm | exact lx_nlt hm | rfl | decide) ?_ | refine ev_bi rfl (fun _ => rfl) ?_ | refine ev_enter rfl rfl ?_ | (refine ev_askE rfl rfl ?_; apply Exists.intro; apply Exists.intro; apply And.intro) | refine ev_tab rfl rfl ?_)
  · refine ev_enter rfl rfl ?_
    repeat (first | exact lx_sm_2 40 0 _ (by decide) (by decide) | exact ev_ret rfl rfl | refine ev_pure rfl rfl ?_ | refine ev_loc rfl rfl ?_ | refine ev_goto rfl ?_ | refine ev_heap rfl rfl ?_ | refine ev_cmT rfl (by first | exact hn | exact lx_nlt hn | exact hm | exact lx_nlt hm | rfl | decide) ?_ | refine ev_cmF rfl (by first | exact hn | exact lx_nlt hn | exact hm | exact lx_nlt hm | rfl | decide) ?_ | refine ev_ifT rfl (by first | exact hn | exact lx_nlt hn | exact hm | exact lx_nlt hm | rfl | decide) ?_ | refine ev_ifF rfl (by first | exact hn | exact lx_nlt hn | exact hm | exact lx_nlt hm | rfl | decide) ?_ | refine ev_bi rfl (fun _ => rfl) ?_ | refine ev_enter rfl rfl ?_ | (refine ev_askE rfl rfl ?_; apply Exists.intro; apply Exists.intro; apply And.intro) | refine ev_tab rfl rfl ?_)
set_option maxRecDepth 100000 in
set_option maxHeartbeats 4000000 in
theorem lx_k_sheet_2_16 {n : Int32} (hn : decide (n < 0) = false) (hm : decide (40 < n) = false) : lx_like 112 213 [.int (nI 2), .int 16, .int n] := by
  apply Exists.intro
  apply Exists.intro
  apply Exists.intro
  apply And.intro
  · refine ev_enter rfl rfl ?_
    repeat (first | exact lx_sx_2 40 0 _ (by decide) (by decide) | exact ev_ret rfl rfl | refine ev_pure rfl rfl ?_ | refine ev_loc rfl rfl ?_ | refine ev_goto rfl ?_ | refine ev_heap rfl rfl ?_ | refine ev_cmT rfl (by first | exact hn | exact lx_nlt hn | exact hm | exact lx_nlt hm | rfl | decide) ?_ | refine ev_cmF rfl (by first | exact hn | exact lx_nlt hn | exact hm | exact lx_nlt hm | rfl | decide) ?_ | refine ev_ifT rfl (by first | exact hn | exact lx_nlt hn | exact hm | exact lx_nlt hm | rfl | decide) ?_ | refine ev_ifF rfl (by first | exact hn | exact lx_nlt hn | exact hm | exact lx_nlt hm | rfl | decide) ?_ | refine ev_bi rfl (fun _ => rfl) ?_ | refine ev_enter rfl rfl ?_ | (refine ev_askE rfl rfl ?_; apply Exists.intro; apply Exists.intro; apply And.intro) | refine ev_tab rfl rfl ?_)
  · refine ev_enter rfl rfl ?_
    repeat (first | exact lx_sm_2 40 0 _ (by decide) (by decide) | exact ev_ret rfl rfl | refine ev_pure rfl rfl ?_ | refine ev_loc rfl rfl ?_ | refine ev_goto rfl ?_ | refine ev_heap rfl rfl ?_ | refine ev_cmT rfl (by first | exact hn | exact lx_nlt hn | exact hm | exact lx_nlt hm | rfl | decide) ?_ | refine ev_cmF rfl (by first | exact hn | exact lx_nlt hn | exact hm | exact lx_nlt hm | rfl | decide) ?_ | refine ev_ifT rfl (by first | exact hn | exact lx_nlt hn | exact hm | exact lx_nlt hm | rfl | decide) ?_ | refine ev_ifF rfl (by first | exact hn | exact lx_nlt hn | exact hm | exact lx_nlt hm | rfl | decide) ?_ | refine ev_bi rfl (fun _ => rfl) ?_ | refine ev_enter rfl rfl ?_ | (refine ev_askE rfl rfl ?_; apply Exists.intro; apply Exists.intro; apply And.intro) | refine ev_tab rfl rfl ?_)
set_option maxRecDepth 100000 in
set_option maxHeartbeats 4000000 in
theorem lx_k_sheet_2_32 {n : Int32} (hn : decide (n < 0) = false) (hm : decide (40 < n) = false) : lx_like 112 213 [.int (nI 2), .int 32, .int n] := by
  apply Exists.intro
  apply Exists.intro
  apply Exists.intro
  apply And.intro
  · refine ev_enter rfl rfl ?_
    repeat (first | exact lx_sx_2 40 0 _ (by decide) (by decide) | exact ev_ret rfl rfl | refine ev_pure rfl rfl ?_ | refine ev_loc rfl rfl ?_ | refine ev_goto rfl ?_ | refine ev_heap rfl rfl ?_ | refine ev_cmT rfl (by first | exact hn | exact lx_nlt hn | exact hm | exact lx_nlt hm | rfl | decide) ?_ | refine ev_cmF rfl (by first | exact hn | exact lx_nlt hn | exact hm | exact lx_nlt hm | rfl | decide) ?_ | refine ev_ifT rfl (by first | exact hn | exact lx_nlt hn | exact hm | exact lx_nlt hm | rfl | decide) ?_ | refine ev_ifF rfl (by first | exact hn | exact lx_nlt hn | exact hm | exact lx_nlt hm | rfl | decide) ?_ | refine ev_bi rfl (fun _ => rfl) ?_ | refine ev_enter rfl rfl ?_ | (refine ev_askE rfl rfl ?_; apply Exists.intro; apply Exists.intro; apply And.intro) | refine ev_tab rfl rfl ?_)
  · refine ev_enter rfl rfl ?_
    repeat (first | exact lx_sm_2 40 0 _ (by decide) (by decide) | exact ev_ret rfl rfl | refine ev_pure rfl rfl ?_ | refine ev_loc rfl rfl ?_ | refine ev_goto rfl ?_ | refine ev_heap rfl rfl ?_ | refine ev_cmT rfl (by first | exact hn | exact lx_nlt hn | exact hm | exact lx_nlt hm | rfl | decide) ?_ | refine ev_cmF rfl (by first | exact hn | exact lx_nlt hn | exact hm | exact lx_nlt hm | rfl | decide) ?_ | refine ev_ifT rfl (by first | exact hn | exact lx_nlt hn | exact hm | exact lx_nlt hm | rfl | decide) ?_ | refine ev_ifF rfl (by first | exact hn | exact lx_nlt hn | exact hm | exact lx_nlt hm | rfl | decide) ?_ | refine ev_bi rfl (fun _ => rfl) ?_ | refine ev_enter rfl rfl ?_ | (refine ev_askE rfl rfl ?_; apply Exists.intro; apply Exists.intro; apply And.intro) | refine ev_tab rfl rfl ?_)
set_option maxRecDepth 100000 in
set_option maxHeartbeats 4000000 in
theorem lx_k_sheet_3_0 (n : Int32) : lx_like 112 213 [.int (nI 3), .int 0, .int n] := by
  apply Exists.intro
  apply Exists.intro
  apply Exists.intro
  apply And.intro
  · refine ev_enter rfl rfl ?_
    repeat (first | exact lx_sx_3 40 0 _ (by decide) (by decide) | exact ev_ret rfl rfl | refine ev_pure rfl rfl ?_ | refine ev_loc rfl rfl ?_ | refine ev_goto rfl ?_ | refine ev_heap rfl rfl ?_ | refine ev_cmT rfl (by first | rfl | decide) ?_ | refine ev_cmF rfl (by first | rfl | decide) ?_ | refine ev_ifT rfl (by first | rfl | decide) ?_ | refine ev_ifF rfl (by first | rfl | decide) ?_ | refine ev_bi rfl (fun _ => rfl) ?_ | refine ev_enter rfl rfl ?_ | (refine ev_askE rfl rfl ?_; apply Exists.intro; apply Exists.intro; apply And.intro) | refine ev_tab rfl rfl ?_)
  · refine ev_enter rfl rfl ?_
    repeat (first | exact lx_sm_3 40 0 _ (by decide) (by decide) | exact ev_ret rfl rfl | refine ev_pure rfl rfl ?_ | refine ev_loc rfl rfl ?_ | refine ev_goto rfl ?_ | refine ev_heap rfl rfl ?_ | refine ev_cmT rfl (by first | rfl | decide) ?_ | refine ev_cmF rfl (by first | rfl | decide) ?_ | refine ev_ifT rfl (by first | rfl | decide) ?_ | refine ev_ifF rfl (by first | rfl | decide) ?_ | refine ev_bi rfl (fun _ => rfl) ?_ | refine ev_enter rfl rfl ?_ | (refine ev_askE rfl rfl ?_; apply Exists.intro; apply Exists.intro; apply And.intro) | refine ev_tab rfl rfl ?_)
set_option maxRecDepth 100000 in
set_option maxHeartbeats 4000000 in
theorem lx_k_sheet_3_8 {n : Int32} (hn : decide (n < 0) = false) (hm : decide (40 < n) = false) : lx_like 112 213 [.int (nI 3), .int 8, .int n] := by
  apply Exists.intro
  apply Exists.intro
  apply Exists.intro
  apply And.intro
  · refine ev_enter rfl rfl ?_
    repeat (first | exact lx_sx_3 40 0 _ (by decide) (by decide) | exact ev_ret rfl rfl | refine ev_pure rfl rfl ?_ | refine ev_loc rfl rfl ?_ | refine ev_goto rfl ?_ | refine ev_heap rfl rfl ?_ | refine ev_cmT rfl (by first | exact hn | exact lx_nlt hn | exact hm | exact lx_nlt hm | rfl | decide) ?_ | refine ev_cmF rfl (by first | exact hn | exact lx_nlt hn | exact hm | exact lx_nlt hm | rfl | decide) ?_ | refine ev_ifT rfl (by first | exact hn | exact lx_nlt hn | exact hm | exact lx_nlt hm | rfl | decide) ?_ | refine ev_ifF rfl (by first | exact hn | exact lx_nlt hn | exact hm | exact lx_nlt hm | rfl | decide) ?_ | refine ev_bi rfl (fun _ => rfl) ?_ | refine ev_enter rfl rfl ?_ | (refine ev_askE rfl rfl ?_; apply Exists.intro; apply Exists.intro; apply And.intro) | refine ev_tab rfl rfl ?_)
  · refine ev_enter rfl rfl ?_
    repeat (first | exact lx_sm_3 40 0 _ (by decide) (by decide) | exact ev_ret rfl rfl | refine ev_pure rfl rfl ?_ | refine ev_loc rfl rfl ?_ | refine ev_goto rfl ?_ | refine ev_heap rfl rfl ?_ | refine ev_cmT rfl (by first | exact hn | exact lx_nlt hn | exact hm | exact lx_nlt hm | rfl | decide) ?_ | refine ev_cmF rfl (by first | exact hn | exact lx_nlt hn | exact hm | exact lx_nlt hm | rfl | decide) ?_ | refine ev_ifT rfl (by first | exact hn | exact lx_nlt hn | exact hm | exact lx_nlt hm | rfl | decide) ?_ | refine ev_ifF rfl (by first | exact hn | exact lx_nlt hn | exact hm | exact lx_nlt hm | rfl | decide) ?_ | refine ev_bi rfl (fun _ => rfl) ?_ | refine ev_enter rfl rfl ?_ | (refine ev_askE rfl rfl ?_; apply Exists.intro; apply Exists.intro; apply And.intro) | refine ev_tab rfl rfl ?_)
set_option maxRecDepth 100000 in
set_option maxHeartbeats 4000000 in
theorem lx_k_sheet_3_16 {n : Int32} (hn : decide (n < 0) = false) (hm : decide (40 < n) = false) : lx_like 112 213 [.int (nI 3), .int 16, .int n] := by
  apply Exists.intro
  apply Exists.intro
  apply Exists.intro
  apply And.intro
  · refine ev_enter rfl rfl ?_
    repeat (first | exact lx_sx_3 40 0 _ (by decide) (by decide) | exact ev_ret rfl rfl | refine ev_pure rfl rfl ?_ | refine ev_loc rfl rfl ?_ | refine ev_goto rfl ?_ | refine ev_heap rfl rfl ?_ | refine ev_cmT rfl (by first | exact hn | exact lx_nlt hn | exact hm | exact lx_nlt hm | rfl | decide) ?_ | refine ev_cmF rfl (by first | exact hn | exact lx_nlt hn | exact hm | exact lx_nlt hm | rfl | decide) ?_ | refine ev_ifT rfl (by first | exact hn | exact lx_nlt hn | exact hm | exact lx_nlt hm | rfl | decide) ?_ | refine ev_ifF rfl (by first | exact hn | exact lx_nlt hn | exact hm | exact lx_nlt hm | rfl | decide) ?_ | refine ev_bi rfl (fun _ => rfl) ?_ | refine ev_enter rfl rfl ?_ | (refine ev_askE rfl rfl ?_; apply Exists.intro; apply Exists.intro; apply And.intro) | refine ev_tab rfl rfl ?_)
  · refine ev_enter rfl rfl ?_
    repeat (first | exact lx_sm_3 40 0 _ (by decide) (by decide) | exact ev_ret rfl rfl | refine ev_pure rfl rfl ?_ | refine ev_loc rfl rfl ?_ | refine ev_goto rfl ?_ | refine ev_heap rfl rfl ?_ | refine ev_cmT rfl (by first | exact hn | exact lx_nlt hn | exact hm | exact lx_nlt hm | rfl | decide) ?_ | refine ev_cmF rfl (by first | exact hn | exact lx_nlt hn | exact hm | exact lx_nlt hm | rfl | decide) ?_ | refine ev_ifT rfl (by first | exact hn | exact lx_nlt hn | exact hm | exact lx_nlt hm | rfl | decide) ?_ | refine ev_ifF rfl (by first | exact hn | exact lx_nlt hn | exact hm | exact lx_nlt hm | rfl | decide) ?_ | refine ev_bi rfl (fun _ => rfl) ?_ | refine ev_enter rfl rfl ?_ | (refine ev_askE rfl rfl ?_; apply Exists.intro; apply Exists.intro; apply And.intro) | refine ev_tab rfl rfl ?_)
set_option maxRecDepth 100000 in
set_option maxHeartbeats 4000000 in
theorem lx_k_sheet_3_32 {n : Int32} (hn : decide (n < 0) = false) (hm : decide (40 < n) = false) : lx_like 112 213 [.int (nI 3), .int 32, .int n] := by
  apply Exists.intro
  apply Exists.intro
  apply Exists.intro
  apply And.intro
  · refine ev_enter rfl rfl ?_
    repeat (first | exact lx_sx_3 40 0 _ (by decide) (by decide) | exact ev_ret rfl rfl | refine ev_pure rfl rfl ?_ | refine ev_loc rfl rfl ?_ | refine ev_goto rfl ?_ | refine ev_heap rfl rfl ?_ | refine ev_cmT rfl (by first | exact hn | exact lx_nlt hn | exact hm | exact lx_nlt hm | rfl | decide) ?_ | refine ev_cmF rfl (by first | exact hn | exact lx_nlt hn | exact hm | exact lx_nlt hm | rfl | decide) ?_ | refine ev_ifT rfl (by first | exact hn | exact lx_nlt hn | exact hm | exact lx_nlt hm | rfl | decide) ?_ | refine ev_ifF rfl (by first | exact hn | exact lx_nlt hn | exact hm | exact lx_nlt hm | rfl | decide) ?_ | refine ev_bi rfl (fun _ => rfl) ?_ | refine ev_enter rfl rfl ?_ | (refine ev_askE rfl rfl ?_; apply Exists.intro; apply Exists.intro; apply And.intro) | refine ev_tab rfl rfl ?_)
  · refine ev_enter rfl rfl ?_
    repeat (first | exact lx_sm_3 40 0 _ (by decide) (by decide) | exact ev_ret rfl rfl | refine ev_pure rfl rfl ?_ | refine ev_loc rfl rfl ?_ | refine ev_goto rfl ?_ | refine ev_heap rfl rfl ?_ | refine ev_cmT rfl (by first | exact hn | exact lx_nlt hn | exact hm | exact lx_nlt hm | rfl | decide) ?_ | refine ev_cmF rfl (by first | exact hn | exact lx_nlt hn | exact hm | exact lx_nlt hm | rfl | decide) ?_ | refine ev_ifT rfl (by first | exact hn | exact lx_nlt hn | exact hm | exact lx_nlt hm | rfl | decide) ?_ | refine ev_ifF rfl (by first | exact hn | exact lx_nlt hn | exact hm | exact lx_nlt hm | rfl | decide) ?_ | refine ev_bi rfl (fun _ => rfl) ?_ | refine ev_enter rfl rfl ?_ | (refine ev_askE rfl rfl ?_; apply Exists.intro; apply Exists.intro; apply And.intro) | refine ev_tab rfl rfl ?_)
set_option maxRecDepth 100000 in
set_option maxHeartbeats 4000000 in
theorem lx_o_sheet (s b n : Int32) : lx_like 112 213 [.int s, .int b, .int n] := by
  by_cases hs : decide (s < 0) = false ∧ decide (3 < s) = false
  · by_cases b0 : b = 0
    · subst b0
      obtain ⟨j, hj, rfl⟩ := lx_rng 3 (by decide) hs.1 hs.2
      rcases (show j = 0 ∨ j = 1 ∨ j = 2 ∨ j = 3 by omega) with rfl | rfl | rfl | rfl
      · exact lx_k_sheet_0_0 n
      · exact lx_k_sheet_1_0 n
      · exact lx_k_sheet_2_0 n
      · exact lx_k_sheet_3_0 n
    · by_cases b8 : b = 8
      · subst b8
        cases hn : decide (n < 0) with
        | true => exact lx_k_sheet_n_8 hs hn
        | false =>
          cases hm : decide (40 < n) with
          | true => exact lx_k_sheet_m_8 hs hn hm
          | false =>
            obtain ⟨j, hj, rfl⟩ := lx_rng 3 (by decide) hs.1 hs.2
            rcases (show j = 0 ∨ j = 1 ∨ j = 2 ∨ j = 3 by omega) with rfl | rfl | rfl | rfl
            · exact lx_k_sheet_0_8 hn hm
            · exact lx_k_sheet_1_8 hn hm
            · exact lx_k_sheet_2_8 hn hm
            · exact lx_k_sheet_3_8 hn hm
      · by_cases b16 : b = 16
        · subst b16
          cases hn : decide (n < 0) with
          | true => exact lx_k_sheet_n_16 hs hn
          | false =>
            cases hm : decide (40 < n) with
            | true => exact lx_k_sheet_m_16 hs hn hm
            | false =>
              obtain ⟨j, hj, rfl⟩ := lx_rng 3 (by decide) hs.1 hs.2
              rcases (show j = 0 ∨ j = 1 ∨ j = 2 ∨ j = 3 by omega) with rfl | rfl | rfl | rfl
              · exact lx_k_sheet_0_16 hn hm
              · exact lx_k_sheet_1_16 hn hm
              · exact lx_k_sheet_2_16 hn hm
              · exact lx_k_sheet_3_16 hn hm
        · by_cases b32 : b = 32
          · subst b32
            cases hn : decide (n < 0) with
            | true => exact lx_k_sheet_n_32 hs hn
            | false =>
              cases hm : decide (40 < n) with
              | true => exact lx_k_sheet_m_32 hs hn hm
              | false =>
                obtain ⟨j, hj, rfl⟩ := lx_rng 3 (by decide) hs.1 hs.2
                rcases (show j = 0 ∨ j = 1 ∨ j = 2 ∨ j = 3 by omega) with rfl | rfl | rfl | rfl
                · exact lx_k_sheet_0_32 hn hm
                · exact lx_k_sheet_1_32 hn hm
                · exact lx_k_sheet_2_32 hn hm
                · exact lx_k_sheet_3_32 hn hm
          · exact lx_k_sheet_i_x hs b0 b8 b16 b32
  · have h := lx_out hs
    by_cases b0 : b = 0
    · subst b0; exact lx_k_sheet_o_0 h
    · by_cases b8 : b = 8
      · subst b8; exact lx_k_sheet_o_8 h
      · by_cases b16 : b = 16
        · subst b16; exact lx_k_sheet_o_16 h
        · by_cases b32 : b = 32
          · subst b32; exact lx_k_sheet_o_32 h
          · exact lx_k_sheet_o_x h b0 b8 b16 b32

