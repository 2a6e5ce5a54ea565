theorem lx_al0 (rest : List Value) (w : ab_W) (lk : Nat) : ab_heap tb [lx_above, []] .arraylength lk (.ref (ab_B + 1) :: rest) w = some (.int 0 :: rest, w) := rfl
theorem lx_al1 {a0 : Int32} (rest : List Value) (w : ab_W) (lk : Nat) : ab_heap tb [lx_above, [a0]] .arraylength lk (.ref (ab_B + 1) :: rest) w = some (.int 1 :: rest, w) := rfl
theorem lx_al2 {a0 a1 : Int32} (rest : List Value) (w : ab_W) (lk : Nat) : ab_heap tb [lx_above, [a0, a1]] .arraylength lk (.ref (ab_B + 1) :: rest) w = some (.int 2 :: rest, w) := rfl
theorem lx_al3 {a0 a1 a2 : Int32} (rest : List Value) (w : ab_W) (lk : Nat) : ab_heap tb [lx_above, [a0, a1, a2]] .arraylength lk (.ref (ab_B + 1) :: rest) w = some (.int 3 :: rest, w) := rfl
theorem lx_al4 {a0 a1 a2 a3 : Int32} (rest : List Value) (w : ab_W) (lk : Nat) : ab_heap tb [lx_above, [a0, a1, a2, a3]] .arraylength lk (.ref (ab_B + 1) :: rest) w = some (.int 4 :: rest, w) := rfl
theorem lx_al5 {a0 a1 a2 a3 a4 : Int32} (rest : List Value) (w : ab_W) (lk : Nat) : ab_heap tb [lx_above, [a0, a1, a2, a3, a4]] .arraylength lk (.ref (ab_B + 1) :: rest) w = some (.int 5 :: rest, w) := rfl
theorem lx_al6 {a0 a1 a2 a3 a4 a5 : Int32} (rest : List Value) (w : ab_W) (lk : Nat) : ab_heap tb [lx_above, [a0, a1, a2, a3, a4, a5]] .arraylength lk (.ref (ab_B + 1) :: rest) w = some (.int 6 :: rest, w) := rfl
set_option maxRecDepth 100000 in
set_option maxHeartbeats 4000000 in
theorem lx_hd {a0 a1 a2 a3 a4 a5 : Int32} {r : ab_R} (k : ev_Run tb [lx_above] [lx_above, [a0, a1, a2, a3, a4, a5]] lx_d tb_mL (33, lx_L, [.int (a0 &&& (Int8.ofInt 63).toInt32)], lx_w2, 79, 3295) r) : ev_Run tb [lx_above] [lx_above, [a0, a1, a2, a3, a4, a5]] lx_d tb_mL (18, lx_L, [], lx_w2, 79, 3295) r := by
  repeat (first | exact k | refine ev_heap rfl (lx_al6 _ _ _) ?_ | refine ev_pure rfl rfl ?_ | refine ev_loc rfl rfl ?_ | refine ev_heap rfl rfl ?_ | refine ev_goto rfl ?_ | refine ev_cmT rfl (by first | exact decide_eq_true rfl | rfl | decide) ?_ | refine ev_cmF rfl (by first | exact decide_eq_true rfl | rfl | decide) ?_ | refine ev_bi rfl (fun _ => rfl) ?_ | exact ev_ret rfl rfl)
set_option maxRecDepth 100000 in
set_option maxHeartbeats 4000000 in
theorem lx_tl {a0 a1 a2 a3 a4 a5 : Int32} {w : ab_W} : ev_Run tb [lx_above] [lx_above, [a0, a1, a2, a3, a4, a5]] lx_d tb_mL (1260, lx_L, [], w, 79, 3295) (some (.int 1), w) := by
  repeat (first | refine ev_heap rfl (lx_al6 _ _ _) ?_ | refine ev_pure rfl rfl ?_ | refine ev_loc rfl rfl ?_ | refine ev_heap rfl rfl ?_ | refine ev_goto rfl ?_ | refine ev_cmT rfl (by first | exact decide_eq_true rfl | rfl | decide) ?_ | refine ev_cmF rfl (by first | exact decide_eq_true rfl | rfl | decide) ?_ | refine ev_bi rfl (fun _ => rfl) ?_ | exact ev_ret rfl rfl)
set_option maxRecDepth 100000 in
set_option maxHeartbeats 4000000 in
theorem lx_q_0 {a0 a1 a2 a3 a4 a5 : Int32} (h : lx_like 75 126 [.int a1, .int a2, .int a3]) : ∃ w, ev_Run tb [lx_above] [lx_above, [a0, a1, a2, a3, a4, a5]] lx_d tb_mL (33, lx_L, [.int (nI 0)], lx_w2, 79, 3295) (some (.int 1), w) := by
  obtain ⟨v, w1, w2, hx, hm⟩ := h
  refine ⟨w2, ?_⟩
  refine ev_tab rfl rfl ?_
  repeat (first | refine ev_ask rfl rfl hx ?_ | refine ev_ask rfl (lx_ask (lx_gr_Call hx) rfl) hm ?_ | exact lx_tl | refine ev_heap rfl (lx_al6 _ _ _) ?_ | refine ev_pure rfl rfl ?_ | refine ev_loc rfl rfl ?_ | refine ev_heap rfl rfl ?_ | refine ev_goto rfl ?_ | refine ev_cmT rfl (by first | exact decide_eq_true rfl | rfl | decide) ?_ | refine ev_cmF rfl (by first | exact decide_eq_true rfl | rfl | decide) ?_ | refine ev_bi rfl (fun _ => rfl) ?_ | exact ev_ret rfl rfl)
set_option maxRecDepth 100000 in
set_option maxHeartbeats 4000000 in
theorem lx_q_1 {a0 a1 a2 a3 a4 a5 : Int32} (h : lx_like 78 131 [.int a1, .int a2]) : ∃ w, ev_Run tb [lx_above] [lx_above, [a0, a1, a2, a3, a4, a5]] lx_d tb_mL (33, lx_L, [.int (nI 1)], lx_w2, 79, 3295) (some (.int 1), w) := by
  obtain ⟨v, w1, w2, hx, hm⟩ := h
  refine ⟨w2, ?_⟩
  refine ev_tab rfl rfl ?_
  repeat (first | refine ev_ask rfl rfl hx ?_ | refine ev_ask rfl (lx_ask (lx_gr_Call hx) rfl) hm ?_ | exact lx_tl | refine ev_heap rfl (lx_al6 _ _ _) ?_ | refine ev_pure rfl rfl ?_ | refine ev_loc rfl rfl ?_ | refine ev_heap rfl rfl ?_ | refine ev_goto rfl ?_ | refine ev_cmT rfl (by first | exact decide_eq_true rfl | rfl | decide) ?_ | refine ev_cmF rfl (by first | exact decide_eq_true rfl | rfl | decide) ?_ | refine ev_bi rfl (fun _ => rfl) ?_ | exact ev_ret rfl rfl)
set_option maxRecDepth 100000 in
set_option maxHeartbeats 4000000 in
theorem lx_q_2 {a0 a1 a2 a3 a4 a5 : Int32} (h : lx_like 80 146 [.int a1, .int a2, .int a3]) : ∃ w, ev_Run tb [lx_above] [lx_above, [a0, a1, a2, a3, a4, a5]] lx_d tb_mL (33, lx_L, [.int (nI 2)], lx_w2, 79, 3295) (some (.int 1), w) := by
  obtain ⟨v, w1, w2, hx, hm⟩ := h
  refine ⟨w2, ?_⟩
  refine ev_tab rfl rfl ?_
  repeat (first | refine ev_ask rfl rfl hx ?_ | refine ev_ask rfl (lx_ask (lx_gr_Call hx) rfl) hm ?_ | exact lx_tl | refine ev_heap rfl (lx_al6 _ _ _) ?_ | refine ev_pure rfl rfl ?_ | refine ev_loc rfl rfl ?_ | refine ev_heap rfl rfl ?_ | refine ev_goto rfl ?_ | refine ev_cmT rfl (by first | exact decide_eq_true rfl | rfl | decide) ?_ | refine ev_cmF rfl (by first | exact decide_eq_true rfl | rfl | decide) ?_ | refine ev_bi rfl (fun _ => rfl) ?_ | exact ev_ret rfl rfl)
set_option maxRecDepth 100000 in
set_option maxHeartbeats 4000000 in
theorem lx_q_3 {a0 a1 a2 a3 a4 a5 : Int32} (h : lx_like 83 148 [.int a1, .int a2]) : ∃ w, ev_Run tb [lx_above] [lx_above, [a0, a1, a2, a3, a4, a5]] lx_d tb_mL (33, lx_L, [.int (nI 3)], lx_w2, 79, 3295) (some (.int 1), w) := by
  obtain ⟨v, w1, w2, hx, hm⟩ := h
  refine ⟨w2, ?_⟩
  refine ev_tab rfl rfl ?_
  repeat (first | refine ev_ask rfl rfl hx ?_ | refine ev_ask rfl (lx_ask (lx_gr_Call hx) rfl) hm ?_ | exact lx_tl | refine ev_heap rfl (lx_al6 _ _ _) ?_ | refine ev_pure rfl rfl ?_ | refine ev_loc rfl rfl ?_ | refine ev_heap rfl rfl ?_ | refine ev_goto rfl ?_ | refine ev_cmT rfl (by first | exact decide_eq_true rfl | rfl | decide) ?_ | refine ev_cmF rfl (by first | exact decide_eq_true rfl | rfl | decide) ?_ | refine ev_bi rfl (fun _ => rfl) ?_ | exact ev_ret rfl rfl)
set_option maxRecDepth 100000 in
set_option maxHeartbeats 4000000 in
theorem lx_q_4 {a0 a1 a2 a3 a4 a5 : Int32} (h : lx_like 84 149 [.int a1, .int a2]) : ∃ w, ev_Run tb [lx_above] [lx_above, [a0, a1, a2, a3, a4, a5]] lx_d tb_mL (33, lx_L, [.int (nI 4)], lx_w2, 79, 3295) (some (.int 1), w) := by
  obtain ⟨v, w1, w2, hx, hm⟩ := h
  refine ⟨w2, ?_⟩
  refine ev_tab rfl rfl ?_
  repeat (first | refine ev_ask rfl rfl hx ?_ | refine ev_ask rfl (lx_ask (lx_gr_Call hx) rfl) hm ?_ | exact lx_tl | refine ev_heap rfl (lx_al6 _ _ _) ?_ | refine ev_pure rfl rfl ?_ | refine ev_loc rfl rfl ?_ | refine ev_heap rfl rfl ?_ | refine ev_goto rfl ?_ | refine ev_cmT rfl (by first | exact decide_eq_true rfl | rfl | decide) ?_ | refine ev_cmF rfl (by first | exact decide_eq_true rfl | rfl | decide) ?_ | refine ev_bi rfl (fun _ => rfl) ?_ | exact ev_ret rfl rfl)
set_option maxRecDepth 100000 in
set_option maxHeartbeats 4000000 in
theorem lx_q_5 {a0 a1 a2 a3 a4 a5 : Int32} (h : lx_like 85 150 [.int a1, .int a2]) : ∃ w, ev_Run tb [lx_above] [lx_above, [a0, a1, a2, a3, a4, a5]] lx_d tb_mL (33, lx_L, [.int (nI 5)], lx_w2, 79, 3295) (some (.int 1), w) := by
  obtain ⟨v, w1, w2, hx, hm⟩ := h
  refine ⟨w2, ?_⟩
  refine ev_tab rfl rfl ?_
  repeat (first | refine ev_ask rfl rfl hx ?_ | refine ev_ask rfl (lx_ask (lx_gr_Call hx) rfl) hm ?_ | exact lx_tl | refine ev_heap rfl (lx_al6 _ _ _) ?_ | refine ev_pure rfl rfl ?_ | refine ev_loc rfl rfl ?_ | refine ev_heap rfl rfl ?_ | refine ev_goto rfl ?_ | refine ev_cmT rfl (by first | exact decide_eq_true rfl | rfl | decide) ?_ | refine ev_cmF rfl (by first | exact decide_eq_true rfl | rfl | decide) ?_ | refine ev_bi rfl (fun _ => rfl) ?_ | exact ev_ret rfl rfl)
set_option maxRecDepth 100000 in
set_option maxHeartbeats 4000000 in
theorem lx_q_6 {a0 a1 a2 a3 a4 a5 : Int32} (h : lx_like 87 151 [.long ((a1.toInt64 <<< ((Int8.ofInt 32).toInt32.toInt64 &&& 63)) ||| (a2.toInt64 &&& 4294967295)), .int a3]) : ∃ w, ev_Run tb [lx_above] [lx_above, [a0, a1, a2, a3, a4, a5]] lx_d tb_mL (33, lx_L, [.int (nI 6)], lx_w2, 79, 3295) (some (.int 1), w) := by
  obtain ⟨v, w1, w2, hx, hm⟩ := h
  refine ⟨w2, ?_⟩
  refine ev_tab rfl rfl ?_
  repeat (first | refine ev_ask rfl rfl hx ?_ | refine ev_ask rfl (lx_ask (lx_gr_Call hx) rfl) hm ?_ | exact lx_tl | refine ev_heap rfl (lx_al6 _ _ _) ?_ | refine ev_pure rfl rfl ?_ | refine ev_loc rfl rfl ?_ | refine ev_heap rfl rfl ?_ | refine ev_goto rfl ?_ | refine ev_cmT rfl (by first | exact decide_eq_true rfl | rfl | decide) ?_ | refine ev_cmF rfl (by first | exact decide_eq_true rfl | rfl | decide) ?_ | refine ev_bi rfl (fun _ => rfl) ?_ | exact ev_ret rfl rfl)
set_option maxRecDepth 100000 in
set_option maxHeartbeats 4000000 in
theorem lx_q_7 {a0 a1 a2 a3 a4 a5 : Int32} (h : lx_like 88 152 [.int a1]) : ∃ w, ev_Run tb [lx_above] [lx_above, [a0, a1, a2, a3, a4, a5]] lx_d tb_mL (33, lx_L, [.int (nI 7)], lx_w2, 79, 3295) (some (.int 1), w) := by
  obtain ⟨v, w1, w2, hx, hm⟩ := h
  refine ⟨w2, ?_⟩
  refine ev_tab rfl rfl ?_
  repeat (first | refine ev_ask rfl rfl hx ?_ | refine ev_ask rfl (lx_ask (lx_gr_Call hx) rfl) hm ?_ | exact lx_tl | refine ev_heap rfl (lx_al6 _ _ _) ?_ | refine ev_pure rfl rfl ?_ | refine ev_loc rfl rfl ?_ | refine ev_heap rfl rfl ?_ | refine ev_goto rfl ?_ | refine ev_cmT rfl (by first | exact decide_eq_true rfl | rfl | decide) ?_ | refine ev_cmF rfl (by first | exact decide_eq_true rfl | rfl | decide) ?_ | refine ev_bi rfl (fun _ => rfl) ?_ | exact ev_ret rfl rfl)
set_option maxRecDepth 100000 in
set_option maxHeartbeats 4000000 in
theorem lx_q_8 {a0 a1 a2 a3 a4 a5 : Int32} (h : lx_like 90 164 [.int a1, .int a2, .int a3, .int a4]) : ∃ w, ev_Run tb [lx_above] [lx_above, [a0, a1, a2, a3, a4, a5]] lx_d tb_mL (33, lx_L, [.int (nI 8)], lx_w2, 79, 3295) (some (.int 1), w) := by
  obtain ⟨v, w1, w2, hx, hm⟩ := h
  refine ⟨w2, ?_⟩
  refine ev_tab rfl rfl ?_
  repeat (first | refine ev_ask rfl rfl hx ?_ | refine ev_ask rfl (lx_ask (lx_gr_Call hx) rfl) hm ?_ | exact lx_tl | refine ev_heap rfl (lx_al6 _ _ _) ?_ | refine ev_pure rfl rfl ?_ | refine ev_loc rfl rfl ?_ | refine ev_heap rfl rfl ?_ | refine ev_goto rfl ?_ | refine ev_cmT rfl (by first | exact decide_eq_true rfl | rfl | decide) ?_ | refine ev_cmF rfl (by first | exact decide_eq_true rfl | rfl | decide) ?_ | refine ev_bi rfl (fun _ => rfl) ?_ | exact ev_ret rfl rfl)
set_option maxRecDepth 100000 in
set_option maxHeartbeats 4000000 in
theorem lx_q_9 {a0 a1 a2 a3 a4 a5 : Int32} (h : lx_like 91 165 [.int a1]) : ∃ w, ev_Run tb [lx_above] [lx_above, [a0, a1, a2, a3, a4, a5]] lx_d tb_mL (33, lx_L, [.int (nI 9)], lx_w2, 79, 3295) (some (.int 1), w) := by
  obtain ⟨v, w1, w2, hx, hm⟩ := h
  refine ⟨w2, ?_⟩
  refine ev_tab rfl rfl ?_
  repeat (first | refine ev_ask rfl rfl hx ?_ | refine ev_ask rfl (lx_ask (lx_gr_Call hx) rfl) hm ?_ | exact lx_tl | refine ev_heap rfl (lx_al6 _ _ _) ?_ | refine ev_pure rfl rfl ?_ | refine ev_loc rfl rfl ?_ | refine ev_heap rfl rfl ?_ | refine ev_goto rfl ?_ | refine ev_cmT rfl (by first | exact decide_eq_true rfl | rfl | decide) ?_ | refine ev_cmF rfl (by first | exact decide_eq_true rfl | rfl | decide) ?_ | refine ev_bi rfl (fun _ => rfl) ?_ | exact ev_ret rfl rfl)
set_option maxRecDepth 100000 in
set_option maxHeartbeats 4000000 in
theorem lx_q_10 {a0 a1 a2 a3 a4 a5 : Int32} (h : lx_like 92 168 [.int a1]) : ∃ w, ev_Run tb [lx_above] [lx_above, [a0, a1, a2, a3, a4, a5]] lx_d tb_mL (33, lx_L, [.int (nI 10)], lx_w2, 79, 3295) (some (.int 1), w) := by
  obtain ⟨v, w1, w2, hx, hm⟩ := h
  refine ⟨w2, ?_⟩
  refine ev_tab rfl rfl ?_
  repeat (first | refine ev_ask rfl rfl hx ?_ | refine ev_ask rfl (lx_ask (lx_gr_Call hx) rfl) hm ?_ | exact lx_tl | refine ev_heap rfl (lx_al6 _ _ _) ?_ | refine ev_pure rfl rfl ?_ | refine ev_loc rfl rfl ?_ | refine ev_heap rfl rfl ?_ | refine ev_goto rfl ?_ | refine ev_cmT rfl (by first | exact decide_eq_true rfl | rfl | decide) ?_ | refine ev_cmF rfl (by first | exact decide_eq_true rfl | rfl | decide) ?_ | refine ev_bi rfl (fun _ => rfl) ?_ | exact ev_ret rfl rfl)
set_option maxRecDepth 100000 in
set_option maxHeartbeats 4000000 in
theorem lx_q_11 {a0 a1 a2 a3 a4 a5 : Int32} (h : lx_like 93 170 [.int a1]) : ∃ w, ev_Run tb [lx_above] [lx_above, [a0, a1, a2, a3, a4, a5]] lx_d tb_mL (33, lx_L, [.int (nI 11)], lx_w2, 79, 3295) (some (.int 1), w) := by
  obtain ⟨v, w1, w2, hx, hm⟩ := h
  refine ⟨w2, ?_⟩
  refine ev_tab rfl rfl ?_
  repeat (first | refine ev_ask rfl rfl hx ?_ | refine ev_ask rfl (lx_ask (lx_gr_Call hx) rfl) hm ?_ | exact lx_tl | refine ev_heap rfl (lx_al6 _ _ _) ?_ | refine ev_pure rfl rfl ?_ | refine ev_loc rfl rfl ?_ | refine ev_heap rfl rfl ?_ | refine ev_goto rfl ?_ | refine ev_cmT rfl (by first | exact decide_eq_true rfl | rfl | decide) ?_ | refine ev_cmF rfl (by first | exact decide_eq_true rfl | rfl | decide) ?_ | refine ev_bi rfl (fun _ => rfl) ?_ | exact ev_ret rfl rfl)
set_option maxRecDepth 100000 in
set_option maxHeartbeats 4000000 in
theorem lx_q_12 {a0 a1 a2 a3 a4 a5 : Int32} (h : lx_like 94 173 [.int a1]) : ∃ w, ev_Run tb [lx_above] [lx_above, [a0, a1, a2, a3, a4, a5]] lx_d tb_mL (33, lx_L, [.int (nI 12)], lx_w2, 79, 3295) (some (.int 1), w) := by
  obtain ⟨v, w1, w2, hx, hm⟩ := h
  refine ⟨w2, ?_⟩
  refine ev_tab rfl rfl ?_
  repeat (first | refine ev_ask rfl rfl hx ?_ | refine ev_ask rfl (lx_ask (lx_gr_Call hx) rfl) hm ?_ | exact lx_tl | refine ev_heap rfl (lx_al6 _ _ _) ?_ | refine ev_pure rfl rfl ?_ | refine ev_loc rfl rfl ?_ | refine ev_heap rfl rfl ?_ | refine ev_goto rfl ?_ | refine ev_cmT rfl (by first | exact decide_eq_true rfl | rfl | decide) ?_ | refine ev_cmF rfl (by first | exact decide_eq_true rfl | rfl | decide) ?_ | refine ev_bi rfl (fun _ => rfl) ?_ | exact ev_ret rfl rfl)
set_option maxRecDepth 100000 in
set_option maxHeartbeats 4000000 in
theorem lx_q_13 {a0 a1 a2 a3 a4 a5 : Int32} (h : lx_like 95 175 [.int a1]) : ∃ w, ev_Run tb [lx_above] [lx_above, [a0, a1, a2, a3, a4, a5]] lx_d tb_mL (33, lx_L, [.int (nI 13)], lx_w2, 79, 3295) (some (.int 1), w) := by
  obtain ⟨v, w1, w2, hx, hm⟩ := h
  refine ⟨w2, ?_⟩
  refine ev_tab rfl rfl ?_
  repeat (first | refine ev_ask rfl rfl hx ?_ | refine ev_ask rfl (lx_ask (lx_gr_Call hx) rfl) hm ?_ | exact lx_tl | refine ev_heap rfl (lx_al6 _ _ _) ?_ | refine ev_pure rfl rfl ?_ | refine ev_loc rfl rfl ?_ | refine ev_heap rfl rfl ?_ | refine ev_goto rfl ?_ | refine ev_cmT rfl (by first | exact decide_eq_true rfl | rfl | decide) ?_ | refine ev_cmF rfl (by first | exact decide_eq_true rfl | rfl | decide) ?_ | refine ev_bi rfl (fun _ => rfl) ?_ | exact ev_ret rfl rfl)
set_option maxRecDepth 100000 in
set_option maxHeartbeats 4000000 in
theorem lx_q_14 {a0 a1 a2 a3 a4 a5 : Int32} (h : lx_like 96 182 [.int a1]) : ∃ w, ev_Run tb [lx_above] [lx_above, [a0, a1, a2, a3, a4, a5]] lx_d tb_mL (33, lx_L, [.int (nI 14)], lx_w2, 79, 3295) (some (.int 1), w) := by
  obtain ⟨v, w1, w2, hx, hm⟩ := h
  refine ⟨w2, ?_⟩
  refine ev_tab rfl rfl ?_
  repeat (first | refine ev_ask rfl rfl hx ?_ | refine ev_ask rfl (lx_ask (lx_gr_Call hx) rfl) hm ?_ | exact lx_tl | refine ev_heap rfl (lx_al6 _ _ _) ?_ | refine ev_pure rfl rfl ?_ | refine ev_loc rfl rfl ?_ | refine ev_heap rfl rfl ?_ | refine ev_goto rfl ?_ | refine ev_cmT rfl (by first | exact decide_eq_true rfl | rfl | decide) ?_ | refine ev_cmF rfl (by first | exact decide_eq_true rfl | rfl | decide) ?_ | refine ev_bi rfl (fun _ => rfl) ?_ | exact ev_ret rfl rfl)
set_option maxRecDepth 100000 in
set_option maxHeartbeats 4000000 in
theorem lx_q_15 {a0 a1 a2 a3 a4 a5 : Int32} (h : lx_like 98 186 [.int a1]) : ∃ w, ev_Run tb [lx_above] [lx_above, [a0, a1, a2, a3, a4, a5]] lx_d tb_mL (33, lx_L, [.int (nI 15)], lx_w2, 79, 3295) (some (.int 1), w) := by
  obtain ⟨v, w1, w2, hx, hm⟩ := h
  refine ⟨w2, ?_⟩
  refine ev_tab rfl rfl ?_
  repeat (first | refine ev_ask rfl rfl hx ?_ | refine ev_ask rfl (lx_ask (lx_gr_Call hx) rfl) hm ?_ | exact lx_tl | refine ev_heap rfl (lx_al6 _ _ _) ?_ | refine ev_pure rfl rfl ?_ | refine ev_loc rfl rfl ?_ | refine ev_heap rfl rfl ?_ | refine ev_goto rfl ?_ | refine ev_cmT rfl (by first | exact decide_eq_true rfl | rfl | decide) ?_ | refine ev_cmF rfl (by first | exact decide_eq_true rfl | rfl | decide) ?_ | refine ev_bi rfl (fun _ => rfl) ?_ | exact ev_ret rfl rfl)
set_option maxRecDepth 100000 in
set_option maxHeartbeats 4000000 in
theorem lx_q_16 {a0 a1 a2 a3 a4 a5 : Int32} (h : lx_like 99 188 [.int a1, .int a2]) : ∃ w, ev_Run tb [lx_above] [lx_above, [a0, a1, a2, a3, a4, a5]] lx_d tb_mL (33, lx_L, [.int (nI 16)], lx_w2, 79, 3295) (some (.int 1), w) := by
  obtain ⟨v, w1, w2, hx, hm⟩ := h
  refine ⟨w2, ?_⟩
  refine ev_tab rfl rfl ?_
  repeat (first | refine ev_ask rfl rfl hx ?_ | refine ev_ask rfl (lx_ask (lx_gr_Call hx) rfl) hm ?_ | exact lx_tl | refine ev_heap rfl (lx_al6 _ _ _) ?_ | refine ev_pure rfl rfl ?_ | refine ev_loc rfl rfl ?_ | refine ev_heap rfl rfl ?_ | refine ev_goto rfl ?_ | refine ev_cmT rfl (by first | exact decide_eq_true rfl | rfl | decide) ?_ | refine ev_cmF rfl (by first | exact decide_eq_true rfl | rfl | decide) ?_ | refine ev_bi rfl (fun _ => rfl) ?_ | exact ev_ret rfl rfl)
set_option maxRecDepth 100000 in
set_option maxHeartbeats 4000000 in
theorem lx_q_17 {a0 a1 a2 a3 a4 a5 : Int32} (h : lx_like 102 191 []) : ∃ w, ev_Run tb [lx_above] [lx_above, [a0, a1, a2, a3, a4, a5]] lx_d tb_mL (33, lx_L, [.int (nI 17)], lx_w2, 79, 3295) (some (.int 1), w) := by
  obtain ⟨v, w1, w2, hx, hm⟩ := h
  refine ⟨w2, ?_⟩
  refine ev_tab rfl rfl ?_
  repeat (first | refine ev_ask rfl rfl hx ?_ | refine ev_ask rfl (lx_ask (lx_gr_Call hx) rfl) hm ?_ | exact lx_tl | refine ev_heap rfl (lx_al6 _ _ _) ?_ | refine ev_pure rfl rfl ?_ | refine ev_loc rfl rfl ?_ | refine ev_heap rfl rfl ?_ | refine ev_goto rfl ?_ | refine ev_cmT rfl (by first | exact decide_eq_true rfl | rfl | decide) ?_ | refine ev_cmF rfl (by first | exact decide_eq_true rfl | rfl | decide) ?_ | refine ev_bi rfl (fun _ => rfl) ?_ | exact ev_ret rfl rfl)
set_option maxRecDepth 100000 in
set_option maxHeartbeats 4000000 in
theorem lx_q_18 {a0 a1 a2 a3 a4 a5 : Int32} (h : lx_like 103 192 [.int a1, .int a2]) : ∃ w, ev_Run tb [lx_above] [lx_above, [a0, a1, a2, a3, a4, a5]] lx_d tb_mL (33, lx_L, [.int (nI 18)], lx_w2, 79, 3295) (some (.int 1), w) := by
  obtain ⟨v, w1, w2, hx, hm⟩ := h
  refine ⟨w2, ?_⟩
  refine ev_tab rfl rfl ?_
  repeat (first | refine ev_ask rfl rfl hx ?_ | refine ev_ask rfl (lx_ask (lx_gr_Call hx) rfl) hm ?_ | exact lx_tl | refine ev_heap rfl (lx_al6 _ _ _) ?_ | refine ev_pure rfl rfl ?_ | refine ev_loc rfl rfl ?_ | refine ev_heap rfl rfl ?_ | refine ev_goto rfl ?_ | refine ev_cmT rfl (by first | exact decide_eq_true rfl | rfl | decide) ?_ | refine ev_cmF rfl (by first | exact decide_eq_true rfl | rfl | decide) ?_ | refine ev_bi rfl (fun _ => rfl) ?_ | exact ev_ret rfl rfl)
set_option maxRecDepth 100000 in
set_option maxHeartbeats 4000000 in
theorem lx_q_19 {a0 a1 a2 a3 a4 a5 : Int32} (h : lx_like 104 194 []) : ∃ w, ev_Run tb [lx_above] [lx_above, [a0, a1, a2, a3, a4, a5]] lx_d tb_mL (33, lx_L, [.int (nI 19)], lx_w2, 79, 3295) (some (.int 1), w) := by
  obtain ⟨v, w1, w2, hx, hm⟩ := h
  refine ⟨w2, ?_⟩
  refine ev_tab rfl rfl ?_
  repeat (first | refine ev_ask rfl rfl hx ?_ | refine ev_ask rfl (lx_ask (lx_gr_Call hx) rfl) hm ?_ | exact lx_tl | refine ev_heap rfl (lx_al6 _ _ _) ?_ | refine ev_pure rfl rfl ?_ | refine ev_loc rfl rfl ?_ | refine ev_heap rfl rfl ?_ | refine ev_goto rfl ?_ | refine ev_cmT rfl (by first | exact decide_eq_true rfl | rfl | decide) ?_ | refine ev_cmF rfl (by first | exact decide_eq_true rfl | rfl | decide) ?_ | refine ev_bi rfl (fun _ => rfl) ?_ | exact ev_ret rfl rfl)
set_option maxRecDepth 100000 in
set_option maxHeartbeats 4000000 in
theorem lx_q_20 {a0 a1 a2 a3 a4 a5 : Int32} (h : lx_like 105 195 [.int a1, .int a2]) : ∃ w, ev_Run tb [lx_above] [lx_above, [a0, a1, a2, a3, a4, a5]] lx_d tb_mL (33, lx_L, [.int (nI 20)], lx_w2, 79, 3295) (some (.int 1), w) := by
  obtain ⟨v, w1, w2, hx, hm⟩ := h
  refine ⟨w2, ?_⟩
  refine ev_tab rfl rfl ?_
  repeat (first | refine ev_ask rfl rfl hx ?_ | refine ev_ask rfl (lx_ask (lx_gr_Call hx) rfl) hm ?_ | exact lx_tl | refine ev_heap rfl (lx_al6 _ _ _) ?_ | refine ev_pure rfl rfl ?_ | refine ev_loc rfl rfl ?_ | refine ev_heap rfl rfl ?_ | refine ev_goto rfl ?_ | refine ev_cmT rfl (by first | exact decide_eq_true rfl | rfl | decide) ?_ | refine ev_cmF rfl (by first | exact decide_eq_true rfl | rfl | decide) ?_ | refine ev_bi rfl (fun _ => rfl) ?_ | exact ev_ret rfl rfl)
set_option maxRecDepth 100000 in
set_option maxHeartbeats 4000000 in
theorem lx_q_21 {a0 a1 a2 a3 a4 a5 : Int32} (h : lx_like 108 198 [.int a1, .int a2]) : ∃ w, ev_Run tb [lx_above] [lx_above, [a0, a1, a2, a3, a4, a5]] lx_d tb_mL (33, lx_L, [.int (nI 21)], lx_w2, 79, 3295) (some (.int 1), w) := by
  obtain ⟨v, w1, w2, hx, hm⟩ := h
  refine ⟨w2, ?_⟩
  refine ev_tab rfl rfl ?_
  repeat (first | refine ev_ask rfl rfl hx ?_ | refine ev_ask rfl (lx_ask (lx_gr_Call hx) rfl) hm ?_ | exact lx_tl | refine ev_heap rfl (lx_al6 _ _ _) ?_ | refine ev_pure rfl rfl ?_ | refine ev_loc rfl rfl ?_ | refine ev_heap rfl rfl ?_ | refine ev_goto rfl ?_ | refine ev_cmT rfl (by first | exact decide_eq_true rfl | rfl | decide) ?_ | refine ev_cmF rfl (by first | exact decide_eq_true rfl | rfl | decide) ?_ | refine ev_bi rfl (fun _ => rfl) ?_ | exact ev_ret rfl rfl)
set_option maxRecDepth 100000 in
set_option maxHeartbeats 4000000 in
theorem lx_q_22 {a0 a1 a2 a3 a4 a5 : Int32} (h : lx_like 109 199 [.int a1]) : ∃ w, ev_Run tb [lx_above] [lx_above, [a0, a1, a2, a3, a4, a5]] lx_d tb_mL (33, lx_L, [.int (nI 22)], lx_w2, 79, 3295) (some (.int 1), w) := by
  obtain ⟨v, w1, w2, hx, hm⟩ := h
  refine ⟨w2, ?_⟩
  refine ev_tab rfl rfl ?_
  repeat (first | refine ev_ask rfl rfl hx ?_ | refine ev_ask rfl (lx_ask (lx_gr_Call hx) rfl) hm ?_ | exact lx_tl | refine ev_heap rfl (lx_al6 _ _ _) ?_ | refine ev_pure rfl rfl ?_ | refine ev_loc rfl rfl ?_ | refine ev_heap rfl rfl ?_ | refine ev_goto rfl ?_ | refine ev_cmT rfl (by first | exact decide_eq_true rfl | rfl | decide) ?_ | refine ev_cmF rfl (by first | exact decide_eq_true rfl | rfl | decide) ?_ | refine ev_bi rfl (fun _ => rfl) ?_ | exact ev_ret rfl rfl)
set_option maxRecDepth 100000 in
set_option maxHeartbeats 4000000 in
theorem lx_q_23 {a0 a1 a2 a3 a4 a5 : Int32} (h : lx_like 110 200 [.int a1, .int a2, .int a3]) : ∃ w, ev_Run tb [lx_above] [lx_above, [a0, a1, a2, a3, a4, a5]] lx_d tb_mL (33, lx_L, [.int (nI 23)], lx_w2, 79, 3295) (some (.int 1), w) := by
  obtain ⟨v, w1, w2, hx, hm⟩ := h
  refine ⟨w2, ?_⟩
  refine ev_tab rfl rfl ?_
  repeat (first | refine ev_ask rfl rfl hx ?_ | refine ev_ask rfl (lx_ask (lx_gr_Call hx) rfl) hm ?_ | exact lx_tl | refine ev_heap rfl (lx_al6 _ _ _) ?_ | refine ev_pure rfl rfl ?_ | refine ev_loc rfl rfl ?_ | refine ev_heap rfl rfl ?_ | refine ev_goto rfl ?_ | refine ev_cmT rfl (by first | exact decide_eq_true rfl | rfl | decide) ?_ | refine ev_cmF rfl (by first | exact decide_eq_true rfl | rfl | decide) ?_ | refine ev_bi rfl (fun _ => rfl) ?_ | exact ev_ret rfl rfl)
set_option maxRecDepth 100000 in
set_option maxHeartbeats 4000000 in
theorem lx_q_24 {a0 a1 a2 a3 a4 a5 : Int32} (h : lx_like 111 212 [.int a1]) : ∃ w, ev_Run tb [lx_above] [lx_above, [a0, a1, a2, a3, a4, a5]] lx_d tb_mL (33, lx_L, [.int (nI 24)], lx_w2, 79, 3295) (some (.int 1), w) := by
  obtain ⟨v, w1, w2, hx, hm⟩ := h
  refine ⟨w2, ?_⟩
  refine ev_tab rfl rfl ?_
  repeat (first | refine ev_ask rfl rfl hx ?_ | refine ev_ask rfl (lx_ask (lx_gr_Call hx) rfl) hm ?_ | exact lx_tl | refine ev_heap rfl (lx_al6 _ _ _) ?_ | refine ev_pure rfl rfl ?_ | refine ev_loc rfl rfl ?_ | refine ev_heap rfl rfl ?_ | refine ev_goto rfl ?_ | refine ev_cmT rfl (by first | exact decide_eq_true rfl | rfl | decide) ?_ | refine ev_cmF rfl (by first | exact decide_eq_true rfl | rfl | decide) ?_ | refine ev_bi rfl (fun _ => rfl) ?_ | exact ev_ret rfl rfl)
set_option maxRecDepth 100000 in
set_option maxHeartbeats 4000000 in
theorem lx_q_25 {a0 a1 a2 a3 a4 a5 : Int32} (h : lx_like 112 213 [.int a1, .int a2, .int a3]) : ∃ w, ev_Run tb [lx_above] [lx_above, [a0, a1, a2, a3, a4, a5]] lx_d tb_mL (33, lx_L, [.int (nI 25)], lx_w2, 79, 3295) (some (.int 1), w) := by
  obtain ⟨v, w1, w2, hx, hm⟩ := h
  refine ⟨w2, ?_⟩
  refine ev_tab rfl rfl ?_
  repeat (first | refine ev_ask rfl rfl hx ?_ | refine ev_ask rfl (lx_ask (lx_gr_Call hx) rfl) hm ?_ | exact lx_tl | refine ev_heap rfl (lx_al6 _ _ _) ?_ | refine ev_pure rfl rfl ?_ | refine ev_loc rfl rfl ?_ | refine ev_heap rfl rfl ?_ | refine ev_goto rfl ?_ | refine ev_cmT rfl (by first | exact decide_eq_true rfl | rfl | decide) ?_ | refine ev_cmF rfl (by first | exact decide_eq_true rfl | rfl | decide) ?_ | refine ev_bi rfl (fun _ => rfl) ?_ | exact ev_ret rfl rfl)
set_option maxRecDepth 100000 in
set_option maxHeartbeats 4000000 in
theorem lx_q_26 {a0 a1 a2 a3 a4 a5 : Int32} (h : lx_like 113 214 [.int a1, .int a2, .int a3]) : ∃ w, ev_Run tb [lx_above] [lx_above, [a0, a1, a2, a3, a4, a5]] lx_d tb_mL (33, lx_L, [.int (nI 26)], lx_w2, 79, 3295) (some (.int 1), w) := by
  obtain ⟨v, w1, w2, hx, hm⟩ := h
  refine ⟨w2, ?_⟩
  refine ev_tab rfl rfl ?_
  repeat (first | refine ev_ask rfl rfl hx ?_ | refine ev_ask rfl (lx_ask (lx_gr_Call hx) rfl) hm ?_ | exact lx_tl | refine ev_heap rfl (lx_al6 _ _ _) ?_ | refine ev_pure rfl rfl ?_ | refine ev_loc rfl rfl ?_ | refine ev_heap rfl rfl ?_ | refine ev_goto rfl ?_ | refine ev_cmT rfl (by first | exact decide_eq_true rfl | rfl | decide) ?_ | refine ev_cmF rfl (by first | exact decide_eq_true rfl | rfl | decide) ?_ | refine ev_bi rfl (fun _ => rfl) ?_ | exact ev_ret rfl rfl)
set_option maxRecDepth 100000 in
set_option maxHeartbeats 4000000 in
theorem lx_q_27 {a0 a1 a2 a3 a4 a5 : Int32} (h : lx_like 115 216 [.int a1, .int a2, .int a3, .int a4, .int a5]) : ∃ w, ev_Run tb [lx_above] [lx_above, [a0, a1, a2, a3, a4, a5]] lx_d tb_mL (33, lx_L, [.int (nI 27)], lx_w2, 79, 3295) (some (.int 1), w) := by
  obtain ⟨v, w1, w2, hx, hm⟩ := h
  refine ⟨w2, ?_⟩
  refine ev_tab rfl rfl ?_
  repeat (first | refine ev_ask rfl rfl hx ?_ | refine ev_ask rfl (lx_ask (lx_gr_Call hx) rfl) hm ?_ | exact lx_tl | refine ev_heap rfl (lx_al6 _ _ _) ?_ | refine ev_pure rfl rfl ?_ | refine ev_loc rfl rfl ?_ | refine ev_heap rfl rfl ?_ | refine ev_goto rfl ?_ | refine ev_cmT rfl (by first | exact decide_eq_true rfl | rfl | decide) ?_ | refine ev_cmF rfl (by first | exact decide_eq_true rfl | rfl | decide) ?_ | refine ev_bi rfl (fun _ => rfl) ?_ | exact ev_ret rfl rfl)
set_option maxRecDepth 100000 in
set_option maxHeartbeats 4000000 in
theorem lx_q_28 {a0 a1 a2 a3 a4 a5 : Int32} (h : lx_like 117 218 [.int a1]) : ∃ w, ev_Run tb [lx_above] [lx_above, [a0, a1, a2, a3, a4, a5]] lx_d tb_mL (33, lx_L, [.int (nI 28)], lx_w2, 79, 3295) (some (.int 1), w) := by
  obtain ⟨v, w1, w2, hx, hm⟩ := h
  refine ⟨w2, ?_⟩
  refine ev_tab rfl rfl ?_
  repeat (first | refine ev_ask rfl rfl hx ?_ | refine ev_ask rfl (lx_ask (lx_gr_Call hx) rfl) hm ?_ | exact lx_tl | refine ev_heap rfl (lx_al6 _ _ _) ?_ | refine ev_pure rfl rfl ?_ | refine ev_loc rfl rfl ?_ | refine ev_heap rfl rfl ?_ | refine ev_goto rfl ?_ | refine ev_cmT rfl (by first | exact decide_eq_true rfl | rfl | decide) ?_ | refine ev_cmF rfl (by first | exact decide_eq_true rfl | rfl | decide) ?_ | refine ev_bi rfl (fun _ => rfl) ?_ | exact ev_ret rfl rfl)
set_option maxRecDepth 100000 in
set_option maxHeartbeats 4000000 in
theorem lx_q_29 {a0 a1 a2 a3 a4 a5 : Int32} (h : lx_like 118 219 [.int a1]) : ∃ w, ev_Run tb [lx_above] [lx_above, [a0, a1, a2, a3, a4, a5]] lx_d tb_mL (33, lx_L, [.int (nI 29)], lx_w2, 79, 3295) (some (.int 1), w) := by
  obtain ⟨v, w1, w2, hx, hm⟩ := h
  refine ⟨w2, ?_⟩
  refine ev_tab rfl rfl ?_
  repeat (first | refine ev_ask rfl rfl hx ?_ | refine ev_ask rfl (lx_ask (lx_gr_Call hx) rfl) hm ?_ | exact lx_tl | refine ev_heap rfl (lx_al6 _ _ _) ?_ | refine ev_pure rfl rfl ?_ | refine ev_loc rfl rfl ?_ | refine ev_heap rfl rfl ?_ | refine ev_goto rfl ?_ | refine ev_cmT rfl (by first | exact decide_eq_true rfl | rfl | decide) ?_ | refine ev_cmF rfl (by first | exact decide_eq_true rfl | rfl | decide) ?_ | refine ev_bi rfl (fun _ => rfl) ?_ | exact ev_ret rfl rfl)
set_option maxRecDepth 100000 in
set_option maxHeartbeats 4000000 in
theorem lx_q_30 {a0 a1 a2 a3 a4 a5 : Int32} (h : lx_like 119 220 []) : ∃ w, ev_Run tb [lx_above] [lx_above, [a0, a1, a2, a3, a4, a5]] lx_d tb_mL (33, lx_L, [.int (nI 30)], lx_w2, 79, 3295) (some (.int 1), w) := by
  obtain ⟨v, w1, w2, hx, hm⟩ := h
  refine ⟨w2, ?_⟩
  refine ev_tab rfl rfl ?_
  repeat (first | refine ev_ask rfl rfl hx ?_ | refine ev_ask rfl (lx_ask (lx_gr_Call hx) rfl) hm ?_ | exact lx_tl | refine ev_heap rfl (lx_al6 _ _ _) ?_ | refine ev_pure rfl rfl ?_ | refine ev_loc rfl rfl ?_ | refine ev_heap rfl rfl ?_ | refine ev_goto rfl ?_ | refine ev_cmT rfl (by first | exact decide_eq_true rfl | rfl | decide) ?_ | refine ev_cmF rfl (by first | exact decide_eq_true rfl | rfl | decide) ?_ | refine ev_bi rfl (fun _ => rfl) ?_ | exact ev_ret rfl rfl)
set_option maxRecDepth 100000 in
set_option maxHeartbeats 4000000 in
theorem lx_q_31 {a0 a1 a2 a3 a4 a5 : Int32} (h : lx_like 120 221 []) : ∃ w, ev_Run tb [lx_above] [lx_above, [a0, a1, a2, a3, a4, a5]] lx_d tb_mL (33, lx_L, [.int (nI 31)], lx_w2, 79, 3295) (some (.int 1), w) := by
  obtain ⟨v, w1, w2, hx, hm⟩ := h
  refine ⟨w2, ?_⟩
  refine ev_tab rfl rfl ?_
  repeat (first | refine ev_ask rfl rfl hx ?_ | refine ev_ask rfl (lx_ask (lx_gr_Call hx) rfl) hm ?_ | exact lx_tl | refine ev_heap rfl (lx_al6 _ _ _) ?_ | refine ev_pure rfl rfl ?_ | refine ev_loc rfl rfl ?_ | refine ev_heap rfl rfl ?_ | refine ev_goto rfl ?_ | refine ev_cmT rfl (by first | exact decide_eq_true rfl | rfl | decide) ?_ | refine ev_cmF rfl (by first | exact decide_eq_true rfl | rfl | decide) ?_ | refine ev_bi rfl (fun _ => rfl) ?_ | exact ev_ret rfl rfl)
set_option maxRecDepth 100000 in
set_option maxHeartbeats 4000000 in
theorem lx_q_32 {a0 a1 a2 a3 a4 a5 : Int32} (h : lx_like 121 222 [.int a1]) : ∃ w, ev_Run tb [lx_above] [lx_above, [a0, a1, a2, a3, a4, a5]] lx_d tb_mL (33, lx_L, [.int (nI 32)], lx_w2, 79, 3295) (some (.int 1), w) := by
  obtain ⟨v, w1, w2, hx, hm⟩ := h
  refine ⟨w2, ?_⟩
  refine ev_tab rfl rfl ?_
  repeat (first | refine ev_ask rfl rfl hx ?_ | refine ev_ask rfl (lx_ask (lx_gr_Call hx) rfl) hm ?_ | exact lx_tl | refine ev_heap rfl (lx_al6 _ _ _) ?_ | refine ev_pure rfl rfl ?_ | refine ev_loc rfl rfl ?_ | refine ev_heap rfl rfl ?_ | refine ev_goto rfl ?_ | refine ev_cmT rfl (by first | exact decide_eq_true rfl | rfl | decide) ?_ | refine ev_cmF rfl (by first | exact decide_eq_true rfl | rfl | decide) ?_ | refine ev_bi rfl (fun _ => rfl) ?_ | exact ev_ret rfl rfl)
set_option maxRecDepth 100000 in
set_option maxHeartbeats 4000000 in
theorem lx_q_33 {a0 a1 a2 a3 a4 a5 : Int32} (h : lx_like 122 223 []) : ∃ w, ev_Run tb [lx_above] [lx_above, [a0, a1, a2, a3, a4, a5]] lx_d tb_mL (33, lx_L, [.int (nI 33)], lx_w2, 79, 3295) (some (.int 1), w) := by
  obtain ⟨v, w1, w2, hx, hm⟩ := h
  refine ⟨w2, ?_⟩
  refine ev_tab rfl rfl ?_
  repeat (first | refine ev_ask rfl rfl hx ?_ | refine ev_ask rfl (lx_ask (lx_gr_Call hx) rfl) hm ?_ | exact lx_tl | refine ev_heap rfl (lx_al6 _ _ _) ?_ | refine ev_pure rfl rfl ?_ | refine ev_loc rfl rfl ?_ | refine ev_heap rfl rfl ?_ | refine ev_goto rfl ?_ | refine ev_cmT rfl (by first | exact decide_eq_true rfl | rfl | decide) ?_ | refine ev_cmF rfl (by first | exact decide_eq_true rfl | rfl | decide) ?_ | refine ev_bi rfl (fun _ => rfl) ?_ | exact ev_ret rfl rfl)
set_option maxRecDepth 100000 in
set_option maxHeartbeats 4000000 in
theorem lx_q_34 {a0 a1 a2 a3 a4 a5 : Int32} (h : lx_like 123 224 [.int a1]) : ∃ w, ev_Run tb [lx_above] [lx_above, [a0, a1, a2, a3, a4, a5]] lx_d tb_mL (33, lx_L, [.int (nI 34)], lx_w2, 79, 3295) (some (.int 1), w) := by
  obtain ⟨v, w1, w2, hx, hm⟩ := h
  refine ⟨w2, ?_⟩
  refine ev_tab rfl rfl ?_
  repeat (first | refine ev_ask rfl rfl hx ?_ | refine ev_ask rfl (lx_ask (lx_gr_Call hx) rfl) hm ?_ | exact lx_tl | refine ev_heap rfl (lx_al6 _ _ _) ?_ | refine ev_pure rfl rfl ?_ | refine ev_loc rfl rfl ?_ | refine ev_heap rfl rfl ?_ | refine ev_goto rfl ?_ | refine ev_cmT rfl (by first | exact decide_eq_true rfl | rfl | decide) ?_ | refine ev_cmF rfl (by first | exact decide_eq_true rfl | rfl | decide) ?_ | refine ev_bi rfl (fun _ => rfl) ?_ | exact ev_ret rfl rfl)
set_option maxRecDepth 100000 in
set_option maxHeartbeats 4000000 in
theorem lx_q_35 {a0 a1 a2 a3 a4 a5 : Int32} (h : lx_like 124 225 [.int a1]) : ∃ w, ev_Run tb [lx_above] [lx_above, [a0, a1, a2, a3, a4, a5]] lx_d tb_mL (33, lx_L, [.int (nI 35)], lx_w2, 79, 3295) (some (.int 1), w) := by
  obtain ⟨v, w1, w2, hx, hm⟩ := h
  refine ⟨w2, ?_⟩
  refine ev_tab rfl rfl ?_
  repeat (first | refine ev_ask rfl rfl hx ?_ | refine ev_ask rfl (lx_ask (lx_gr_Call hx) rfl) hm ?_ | exact lx_tl | refine ev_heap rfl (lx_al6 _ _ _) ?_ | refine ev_pure rfl rfl ?_ | refine ev_loc rfl rfl ?_ | refine ev_heap rfl rfl ?_ | refine ev_goto rfl ?_ | refine ev_cmT rfl (by first | exact decide_eq_true rfl | rfl | decide) ?_ | refine ev_cmF rfl (by first | exact decide_eq_true rfl | rfl | decide) ?_ | refine ev_bi rfl (fun _ => rfl) ?_ | exact ev_ret rfl rfl)
set_option maxRecDepth 100000 in
set_option maxHeartbeats 4000000 in
theorem lx_qD {a0 a1 a2 a3 a4 a5 x : Int32} (h : x.toInt < 0 ∨ 35 < x.toInt) : ev_Run tb [lx_above] [lx_above, [a0, a1, a2, a3, a4, a5]] lx_d tb_mL (33, lx_L, [.int x], lx_w2, 79, 3295) (some (.int 1), lx_w2) := by
  refine ev_tabD rfl h rfl ?_
  exact lx_tl
set_option maxRecDepth 100000 in
set_option maxHeartbeats 4000000 in
theorem lx_six {a0 a1 a2 a3 a4 a5 : Int32} : lx_true [a0, a1, a2, a3, a4, a5] := by
  have h : ∃ w, ev_Run tb [lx_above] [lx_above, [a0, a1, a2, a3, a4, a5]] lx_d tb_mL (33, lx_L, [.int (a0 &&& (Int8.ofInt 63).toInt32)], lx_w2, 79, 3295) (some (.int 1), w) := by
    obtain ⟨j, hj, e⟩ := pk_andE a0 (m := (Int8.ofInt 63).toInt32) 6 (by decide)
    rw [e]
    by_cases hk : j < 36
    · rcases (show j = 0 ∨ j = 1 ∨ j = 2 ∨ j = 3 ∨ j = 4 ∨ j = 5 ∨ j = 6 ∨ j = 7 ∨ j = 8 ∨ j = 9 ∨ j = 10 ∨ j = 11 ∨ j = 12 ∨ j = 13 ∨ j = 14 ∨ j = 15 ∨ j = 16 ∨ j = 17 ∨ j = 18 ∨ j = 19 ∨ j = 20 ∨ j = 21 ∨ j = 22 ∨ j = 23 ∨ j = 24 ∨ j = 25 ∨ j = 26 ∨ j = 27 ∨ j = 28 ∨ j = 29 ∨ j = 30 ∨ j = 31 ∨ j = 32 ∨ j = 33 ∨ j = 34 ∨ j = 35 by omega) with rfl | rfl | rfl | rfl | rfl | rfl | rfl | rfl | rfl | rfl | rfl | rfl | rfl | rfl | rfl | rfl | rfl | rfl | rfl | rfl | rfl | rfl | rfl | rfl | rfl | rfl | rfl | rfl | rfl | rfl | rfl | rfl | rfl | rfl | rfl | rfl
      · exact lx_q_0 (lx_o_step a1 a2 a3)
      · exact lx_q_1 (lx_o_ofStep a1 a2)
      · exact lx_q_2 (lx_o_change a1 a2 a3)
      · exact lx_q_3 (lx_o_set a1 a2)
      · exact lx_q_4 (lx_o_become a1 a2)
      · exact lx_q_5 (lx_o_as a1 a2)
      · exact lx_q_6 (lx_o_feed _ a3)
      · exact lx_q_7 (lx_o_text a1)
      · exact lx_q_8 (lx_o_law a1 a2 a3 a4)
      · exact lx_q_9 (lx_o_does a1)
      · exact lx_q_10 (lx_o_undo a1)
      · exact lx_q_11 (lx_o_loose a1)
      · exact lx_q_12 (lx_o_next a1)
      · exact lx_q_13 (lx_o_all a1)
      · exact lx_q_14 (lx_o_order a1)
      · exact lx_q_15 (lx_o_under a1)
      · exact lx_q_16 (lx_o_goBack a1 a2)
      · exact lx_q_17 lx_o_left
      · exact lx_q_18 (lx_o_whose a1 a2)
      · exact lx_q_19 lx_o_lookAt
      · exact lx_q_20 (lx_o_orders a1 a2)
      · exact lx_q_21 (lx_o_odds a1 a2)
      · exact lx_q_22 (lx_o_seed a1)
      · exact lx_q_23 (lx_o_voice a1 a2 a3)
      · exact lx_q_24 (lx_o_trace a1)
      · exact lx_q_25 (lx_o_sheet a1 a2 a3)
      · exact lx_q_26 (lx_o_put a1 a2 a3)
      · exact lx_q_27 (lx_o_move a1 a2 a3 a4 a5)
      · exact lx_q_28 (lx_o_screws a1)
      · exact lx_q_29 (lx_o_judge a1)
      · exact lx_q_30 lx_o_image
      · exact lx_q_31 lx_o_restore
      · exact lx_q_32 (lx_o_tell a1)
      · exact lx_q_33 lx_o_check
      · exact lx_q_34 (lx_o_count a1)
      · exact lx_q_35 (lx_o_told a1)
    · exact ⟨lx_w2, lx_qD (Or.inr (by rw [nI_toInt (by omega)]; omega))⟩
  obtain ⟨w, h⟩ := h
  exact ⟨w, lx_pre (lx_hd h)⟩
set_option maxRecDepth 100000 in
set_option maxHeartbeats 4000000 in
theorem lx_len_0 : lx_true [] := by
  refine ⟨lx_w2, lx_pre ?_⟩
  repeat (first | refine ev_heap rfl (lx_al0 _ _ _) ?_ | refine ev_pure rfl rfl ?_ | refine ev_loc rfl rfl ?_ | refine ev_heap rfl rfl ?_ | refine ev_goto rfl ?_ | refine ev_cmT rfl (by first | exact decide_eq_true rfl | rfl | decide) ?_ | refine ev_cmF rfl (by first | exact decide_eq_true rfl | rfl | decide) ?_ | refine ev_bi rfl (fun _ => rfl) ?_ | exact ev_ret rfl rfl)
set_option maxRecDepth 100000 in
set_option maxHeartbeats 4000000 in
theorem lx_len_1 {a0 : Int32} : lx_true [a0] := by
  refine ⟨lx_w2, lx_pre ?_⟩
  repeat (first | refine ev_heap rfl (lx_al1 _ _ _) ?_ | refine ev_pure rfl rfl ?_ | refine ev_loc rfl rfl ?_ | refine ev_heap rfl rfl ?_ | refine ev_goto rfl ?_ | refine ev_cmT rfl (by first | exact decide_eq_true rfl | rfl | decide) ?_ | refine ev_cmF rfl (by first | exact decide_eq_true rfl | rfl | decide) ?_ | refine ev_bi rfl (fun _ => rfl) ?_ | exact ev_ret rfl rfl)
set_option maxRecDepth 100000 in
set_option maxHeartbeats 4000000 in
theorem lx_len_2 {a0 a1 : Int32} : lx_true [a0, a1] := by
  refine ⟨lx_w2, lx_pre ?_⟩
  repeat (first | refine ev_heap rfl (lx_al2 _ _ _) ?_ | refine ev_pure rfl rfl ?_ | refine ev_loc rfl rfl ?_ | refine ev_heap rfl rfl ?_ | refine ev_goto rfl ?_ | refine ev_cmT rfl (by first | exact decide_eq_true rfl | rfl | decide) ?_ | refine ev_cmF rfl (by first | exact decide_eq_true rfl | rfl | decide) ?_ | refine ev_bi rfl (fun _ => rfl) ?_ | exact ev_ret rfl rfl)
set_option maxRecDepth 100000 in
set_option maxHeartbeats 4000000 in
theorem lx_len_3 {a0 a1 a2 : Int32} : lx_true [a0, a1, a2] := by
  refine ⟨lx_w2, lx_pre ?_⟩
  repeat (first | refine ev_heap rfl (lx_al3 _ _ _) ?_ | refine ev_pure rfl rfl ?_ | refine ev_loc rfl rfl ?_ | refine ev_heap rfl rfl ?_ | refine ev_goto rfl ?_ | refine ev_cmT rfl (by first | exact decide_eq_true rfl | rfl | decide) ?_ | refine ev_cmF rfl (by first | exact decide_eq_true rfl | rfl | decide) ?_ | refine ev_bi rfl (fun _ => rfl) ?_ | exact ev_ret rfl rfl)
set_option maxRecDepth 100000 in
set_option maxHeartbeats 4000000 in
theorem lx_len_4 {a0 a1 a2 a3 : Int32} : lx_true [a0, a1, a2, a3] := by
  refine ⟨lx_w2, lx_pre ?_⟩
  repeat (first | refine ev_heap rfl (lx_al4 _ _ _) ?_ | refine ev_pure rfl rfl ?_ | refine ev_loc rfl rfl ?_ | refine ev_heap rfl rfl ?_ | refine ev_goto rfl ?_ | refine ev_cmT rfl (by first | exact decide_eq_true rfl | rfl | decide) ?_ | refine ev_cmF rfl (by first | exact decide_eq_true rfl | rfl | decide) ?_ | refine ev_bi rfl (fun _ => rfl) ?_ | exact ev_ret rfl rfl)
set_option maxRecDepth 100000 in
set_option maxHeartbeats 4000000 in
theorem lx_len_5 {a0 a1 a2 a3 a4 : Int32} : lx_true [a0, a1, a2, a3, a4] := by
  refine ⟨lx_w2, lx_pre ?_⟩
  repeat (first | refine ev_heap rfl (lx_al5 _ _ _) ?_ | refine ev_pure rfl rfl ?_ | refine ev_loc rfl rfl ?_ | refine ev_heap rfl rfl ?_ | refine ev_goto rfl ?_ | refine ev_cmT rfl (by first | exact decide_eq_true rfl | rfl | decide) ?_ | refine ev_cmF rfl (by first | exact decide_eq_true rfl | rfl | decide) ?_ | refine ev_bi rfl (fun _ => rfl) ?_ | exact ev_ret rfl rfl)
theorem lx_all : ∀ xs : List Int32, xs.length ≤ 6 → lx_true xs
  | [], _ => lx_len_0
  | [_], _ => lx_len_1
  | [_, _], _ => lx_len_2
  | [_, _, _], _ => lx_len_3
  | [_, _, _, _], _ => lx_len_4
  | [_, _, _, _, _], _ => lx_len_5
  | [_, _, _, _, _, _], _ => lx_six
  | _ :: _ :: _ :: _ :: _ :: _ :: _ :: xs, h => by
    rw [List.length_cons, List.length_cons, List.length_cons, List.length_cons, List.length_cons, List.length_cons, List.length_cons] at h
    omega
theorem whole_start {p : Program} {e : Env} {s : State} {m : MethodId} {below : List Frame} {meth : Method} {c : Code} (l : Launch) (hflags : l.flags = flags0) {b L : Nat} {xs : Nat → Int32} (hL : L ≤ 6) (C0 : lw_At p s m meth c b L xs) : W p l e room_1 s m #[Value.ref b] below meth c s.heap [] 0 0 (lw_Z below #[Value.ref b] s) (entryFrame m ([Value.ref b] : List Value).toArray 4) := lx_start l C0 (lx_all _ (by rw [lx_range]; exact hL))
