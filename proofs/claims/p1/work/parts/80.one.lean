/-! WHAT A CALL ON FRESH OBJECTS ANSWERS, by the abstract machine (wip/gen/p1.py) -/
set_option maxRecDepth 100000 in
set_option maxHeartbeats 4000000 in
theorem lx_within_t (d : Nat) {v a b : Int32} {w : ab_W} (h1 : decide (v < a) = false) (h2 : decide (b < v) = false) : ev_Call tb [lx_above] (d + 1) 76 [.int v, .int a, .int b] w (some (.int 1), w) := by
  refine ev_enter rfl rfl ?_
  repeat (first | exact ev_ret rfl rfl | refine ev_pure rfl rfl ?_ | refine ev_loc rfl rfl ?_ | refine ev_goto rfl ?_ | refine ev_heap rfl rfl ?_ | refine ev_cmT rfl (by first | exact h1 | exact h2 | rfl | decide) ?_ | refine ev_cmF rfl (by first | exact h1 | exact h2 | rfl | decide) ?_ | refine ev_ifT rfl (by first | exact h1 | exact h2 | rfl | decide) ?_ | refine ev_ifF rfl (by first | exact h1 | exact h2 | rfl | decide) ?_ | refine ev_bi rfl (fun _ => rfl) ?_)
set_option maxRecDepth 100000 in
set_option maxHeartbeats 4000000 in
theorem lx_within_l (d : Nat) {v a b : Int32} {w : ab_W} (h1 : decide (v < a) = true) : ev_Call tb [lx_above] (d + 1) 76 [.int v, .int a, .int b] w (some (.int 0), w) := by
  refine ev_enter rfl rfl ?_
  repeat (first | exact ev_ret rfl rfl | refine ev_pure rfl rfl ?_ | refine ev_loc rfl rfl ?_ | refine ev_goto rfl ?_ | refine ev_heap rfl rfl ?_ | refine ev_cmT rfl (by first | exact h1 | rfl | decide) ?_ | refine ev_cmF rfl (by first | exact h1 | rfl | decide) ?_ | refine ev_ifT rfl (by first | exact h1 | rfl | decide) ?_ | refine ev_ifF rfl (by first | exact h1 | rfl | decide) ?_ | refine ev_bi rfl (fun _ => rfl) ?_)
set_option maxRecDepth 100000 in
set_option maxHeartbeats 4000000 in
theorem lx_within_g (d : Nat) {v a b : Int32} {w : ab_W} (h1 : decide (v < a) = false) (h2 : decide (b < v) = true) : ev_Call tb [lx_above] (d + 1) 76 [.int v, .int a, .int b] w (some (.int 0), w) := by
  refine ev_enter rfl rfl ?_
  repeat (first | exact ev_ret rfl rfl | refine ev_pure rfl rfl ?_ | refine ev_loc rfl rfl ?_ | refine ev_goto rfl ?_ | refine ev_heap rfl rfl ?_ | refine ev_cmT rfl (by first | exact h1 | exact h2 | rfl | decide) ?_ | refine ev_cmF rfl (by first | exact h1 | exact h2 | rfl | decide) ?_ | refine ev_ifT rfl (by first | exact h1 | exact h2 | rfl | decide) ?_ | refine ev_ifF rfl (by first | exact h1 | exact h2 | rfl | decide) ?_ | refine ev_bi rfl (fun _ => rfl) ?_)
theorem lx_within_f (d : Nat) {v a b : Int32} {w : ab_W} (h : decide (v < a) = true ∨ decide (b < v) = true) : ev_Call tb [lx_above] (d + 1) 76 [.int v, .int a, .int b] w (some (.int 0), w) := by
  cases h1 : decide (v < a) with
  | true => exact lx_within_l d h1
  | false => exact lx_within_g d h1 (h.resolve_left (by rw [h1]; exact Bool.false_ne_true))
set_option maxRecDepth 100000 in
set_option maxHeartbeats 4000000 in
theorem lx_in_t (d : Nat) {v a b : Int32} {w : ab_W} (h1 : decide (v < a) = false) (h2 : decide (b < v) = false) : ev_Call tb [lx_above] (d + 1) 128 [.int v, .int a, .int b] w (some (.int 1), w) := by
  refine ev_enter rfl rfl ?_
  repeat (first | exact ev_ret rfl rfl | refine ev_pure rfl rfl ?_ | refine ev_loc rfl rfl ?_ | refine ev_goto rfl ?_ | refine ev_heap rfl rfl ?_ | refine ev_cmT rfl (by first | exact h1 | exact h2 | rfl | decide) ?_ | refine ev_cmF rfl (by first | exact h1 | exact h2 | rfl | decide) ?_ | refine ev_ifT rfl (by first | exact h1 | exact h2 | rfl | decide) ?_ | refine ev_ifF rfl (by first | exact h1 | exact h2 | rfl | decide) ?_ | refine ev_bi rfl (fun _ => rfl) ?_)
set_option maxRecDepth 100000 in
set_option maxHeartbeats 4000000 in
theorem lx_in_l (d : Nat) {v a b : Int32} {w : ab_W} (h1 : decide (v < a) = true) : ev_Call tb [lx_above] (d + 1) 128 [.int v, .int a, .int b] w (some (.int 0), w) := by
  refine ev_enter rfl rfl ?_
  repeat (first | exact ev_ret rfl rfl | refine ev_pure rfl rfl ?_ | refine ev_loc rfl rfl ?_ | refine ev_goto rfl ?_ | refine ev_heap rfl rfl ?_ | refine ev_cmT rfl (by first | exact h1 | rfl | decide) ?_ | refine ev_cmF rfl (by first | exact h1 | rfl | decide) ?_ | refine ev_ifT rfl (by first | exact h1 | rfl | decide) ?_ | refine ev_ifF rfl (by first | exact h1 | rfl | decide) ?_ | refine ev_bi rfl (fun _ => rfl) ?_)
set_option maxRecDepth 100000 in
set_option maxHeartbeats 4000000 in
theorem lx_in_g (d : Nat) {v a b : Int32} {w : ab_W} (h1 : decide (v < a) = false) (h2 : decide (b < v) = true) : ev_Call tb [lx_above] (d + 1) 128 [.int v, .int a, .int b] w (some (.int 0), w) := by
  refine ev_enter rfl rfl ?_
  repeat (first | exact ev_ret rfl rfl | refine ev_pure rfl rfl ?_ | refine ev_loc rfl rfl ?_ | refine ev_goto rfl ?_ | refine ev_heap rfl rfl ?_ | refine ev_cmT rfl (by first | exact h1 | exact h2 | rfl | decide) ?_ | refine ev_cmF rfl (by first | exact h1 | exact h2 | rfl | decide) ?_ | refine ev_ifT rfl (by first | exact h1 | exact h2 | rfl | decide) ?_ | refine ev_ifF rfl (by first | exact h1 | exact h2 | rfl | decide) ?_ | refine ev_bi rfl (fun _ => rfl) ?_)
theorem lx_in_f (d : Nat) {v a b : Int32} {w : ab_W} (h : decide (v < a) = true ∨ decide (b < v) = true) : ev_Call tb [lx_above] (d + 1) 128 [.int v, .int a, .int b] w (some (.int 0), w) := by
  cases h1 : decide (v < a) with
  | true => exact lx_in_l d h1
  | false => exact lx_in_g d h1 (h.resolve_left (by rw [h1]; exact Bool.false_ne_true))
def lx_fst (x : Option ab_R) (v : Int32) : Bool := match x with
  | some (some (.int u), _) => decide (u = v)
  | _ => false
theorem lx_fst_of {x : Option ab_R} {v : Int32} (h : lx_fst x v = true) : ∃ w, x = some (some (.int v), w) := by
  unfold lx_fst at h
  split at h
  · rename_i u w
    exact ⟨w, by rw [of_decide_eq_true h]⟩
  · cases h
def lx_two (jx jm : Nat) (as : List Value) : Bool := match ab_call tb [lx_above] 5000 20 jx (.ref 0 :: as) lx_w2 with
  | some (some (.int v), w1) => lx_fst (ab_call tb [lx_above] 5000 20 jm (.ref 63 :: as) w1) v
  | _ => false
/-- class and reference answer alike, one behind the other -/
def lx_like (jx jm : Nat) (as : List Value) : Prop := ∃ (v : Int32) (w1 w2 : ab_W), ev_Call tb [lx_above] lx_d jx (.ref 0 :: as) lx_w2 (some (.int v), w1) ∧ ev_Call tb [lx_above] lx_d jm (.ref 63 :: as) w1 (some (.int v), w2)
theorem lx_two_of {jx jm : Nat} {as : List Value} (h : lx_two jx jm as = true) : lx_like jx jm as := by
  unfold lx_two at h
  split at h
  · rename_i v w1 h1
    obtain ⟨w2, h2⟩ := lx_fst_of h
    exact ⟨v, w1, w2, ev_closed h1 (by decide), ev_closed h2 (by decide)⟩
  · cases h
def lx_er (k : Nat) : ab_W := lx_w2.set 53 (.inr (.inl (([0, 0, 0, 0, 0, 0] : List Int32).set k 1)))
set_option maxRecDepth 100000 in
set_option maxHeartbeats 4000000 in
theorem lx_xerr_1 (d : Nat) : ev_Call tb [lx_above] (d + 2) 77 [.ref 0, .int 1] lx_w2 (some (.int (-1000000001)), lx_er 1) := ev_closed (n := 200) (d := 2) (ab_eqr_of (by decide +kernel)) (by omega)
set_option maxRecDepth 100000 in
set_option maxHeartbeats 4000000 in
theorem lx_xerr_2 (d : Nat) : ev_Call tb [lx_above] (d + 2) 77 [.ref 0, .int 2] lx_w2 (some (.int (-1000000002)), lx_er 2) := ev_closed (n := 200) (d := 2) (ab_eqr_of (by decide +kernel)) (by omega)
set_option maxRecDepth 100000 in
set_option maxHeartbeats 4000000 in
theorem lx_xerr_3 (d : Nat) : ev_Call tb [lx_above] (d + 2) 77 [.ref 0, .int 3] lx_w2 (some (.int (-1000000003)), lx_er 3) := ev_closed (n := 200) (d := 2) (ab_eqr_of (by decide +kernel)) (by omega)
set_option maxRecDepth 100000 in
set_option maxHeartbeats 4000000 in
theorem lx_xerr_4 (d : Nat) : ev_Call tb [lx_above] (d + 2) 77 [.ref 0, .int 4] lx_w2 (some (.int (-1000000004)), lx_er 4) := ev_closed (n := 200) (d := 2) (ab_eqr_of (by decide +kernel)) (by omega)
set_option maxRecDepth 100000 in
set_option maxHeartbeats 4000000 in
theorem lx_xerr_5 (d : Nat) : ev_Call tb [lx_above] (d + 2) 77 [.ref 0, .int 5] lx_w2 (some (.int (-1000000005)), lx_er 5) := ev_closed (n := 200) (d := 2) (ab_eqr_of (by decide +kernel)) (by omega)
set_option maxRecDepth 100000 in
set_option maxHeartbeats 4000000 in
theorem lx_merr_1 (d : Nat) : ∃ w, ev_Call tb [lx_above] (d + 1) 129 [.ref 63, .int (-1000000001)] (lx_er 1) (some (.int (-1000000001)), w) := by
  obtain ⟨w, h⟩ := lx_fst_of (x := ab_call tb [lx_above] 200 1 129 [.ref 63, .int (-1000000001)] (lx_er 1)) (v := -1000000001) (by decide +kernel)
  exact ⟨w, ev_closed h (by omega)⟩
set_option maxRecDepth 100000 in
set_option maxHeartbeats 4000000 in
theorem lx_merr_2 (d : Nat) : ∃ w, ev_Call tb [lx_above] (d + 1) 129 [.ref 63, .int (-1000000002)] (lx_er 2) (some (.int (-1000000002)), w) := by
  obtain ⟨w, h⟩ := lx_fst_of (x := ab_call tb [lx_above] 200 1 129 [.ref 63, .int (-1000000002)] (lx_er 2)) (v := -1000000002) (by decide +kernel)
  exact ⟨w, ev_closed h (by omega)⟩
set_option maxRecDepth 100000 in
set_option maxHeartbeats 4000000 in
theorem lx_merr_3 (d : Nat) : ∃ w, ev_Call tb [lx_above] (d + 1) 129 [.ref 63, .int (-1000000003)] (lx_er 3) (some (.int (-1000000003)), w) := by
  obtain ⟨w, h⟩ := lx_fst_of (x := ab_call tb [lx_above] 200 1 129 [.ref 63, .int (-1000000003)] (lx_er 3)) (v := -1000000003) (by decide +kernel)
  exact ⟨w, ev_closed h (by omega)⟩
set_option maxRecDepth 100000 in
set_option maxHeartbeats 4000000 in
theorem lx_merr_4 (d : Nat) : ∃ w, ev_Call tb [lx_above] (d + 1) 129 [.ref 63, .int (-1000000004)] (lx_er 4) (some (.int (-1000000004)), w) := by
  obtain ⟨w, h⟩ := lx_fst_of (x := ab_call tb [lx_above] 200 1 129 [.ref 63, .int (-1000000004)] (lx_er 4)) (v := -1000000004) (by decide +kernel)
  exact ⟨w, ev_closed h (by omega)⟩
set_option maxRecDepth 100000 in
set_option maxHeartbeats 4000000 in
theorem lx_merr_5 (d : Nat) : ∃ w, ev_Call tb [lx_above] (d + 1) 129 [.ref 63, .int (-1000000005)] (lx_er 5) (some (.int (-1000000005)), w) := by
  obtain ⟨w, h⟩ := lx_fst_of (x := ab_call tb [lx_above] 200 1 129 [.ref 63, .int (-1000000005)] (lx_er 5)) (v := -1000000005) (by decide +kernel)
  exact ⟨w, ev_closed h (by omega)⟩
set_option maxRecDepth 100000 in
set_option maxHeartbeats 4000000 in
theorem lx_has (d : Nat) {v : Int32} : ev_Call tb [lx_above] (d + 1) 33 [.ref 9, .int v] lx_w2 (some (.int 0), lx_w2) := by
  cases h1 : decide (v < 0) with
  | true =>
    refine ev_enter rfl rfl ?_
    repeat (first | exact ev_ret rfl rfl | refine ev_pure rfl rfl ?_ | refine ev_loc rfl rfl ?_ | refine ev_goto rfl ?_ | refine ev_heap rfl rfl ?_ | refine ev_cmT rfl (by first | exact h1 | rfl | decide) ?_ | refine ev_cmF rfl (by first | exact h1 | rfl | decide) ?_ | refine ev_ifT rfl (by first | exact h1 | rfl | decide) ?_ | refine ev_ifF rfl (by first | exact h1 | rfl | decide) ?_ | refine ev_bi rfl (fun _ => rfl) ?_)
  | false =>
    have h2 : decide ((0 : Int32) ≤ v) = true := decide_eq_true (Int32.not_lt.mp (of_decide_eq_false h1))
    refine ev_enter rfl rfl ?_
    repeat (first | exact ev_ret rfl rfl | refine ev_pure rfl rfl ?_ | refine ev_loc rfl rfl ?_ | refine ev_goto rfl ?_ | refine ev_heap rfl rfl ?_ | refine ev_cmT rfl (by first | exact h1 | exact h2 | rfl | decide) ?_ | refine ev_cmF rfl (by first | exact h1 | exact h2 | rfl | decide) ?_ | refine ev_ifT rfl (by first | exact h1 | exact h2 | rfl | decide) ?_ | refine ev_ifF rfl (by first | exact h1 | exact h2 | rfl | decide) ?_ | refine ev_bi rfl (fun _ => rfl) ?_)
theorem lx_void (v : Int32) : decide (v < 0) = true ∨ decide ((0 : Int32) - 1 < v) = true := by
  by_cases h : v < 0
  · exact Or.inl (decide_eq_true h)
  · refine Or.inr (decide_eq_true ?_)
    rw [Int32.lt_iff_toInt_lt] at h ⊢
    rw [show ((0 : Int32) - 1).toInt = -1 by decide]
    rw [show (0 : Int32).toInt = 0 by decide] at h
    omega
set_option maxRecDepth 100000 in
set_option maxHeartbeats 4000000 in
theorem lx_isStep (d : Nat) {v : Int32} : ev_Call tb [lx_above] (d + 2) 132 [.ref 63, .int v] (lx_er 1) (some (.int 0), lx_er 1) := by
  refine ev_enter rfl rfl ?_
  repeat (first | exact ev_ret rfl rfl | refine ev_pure rfl rfl ?_ | refine ev_loc rfl rfl ?_ | refine ev_goto rfl ?_ | refine ev_heap rfl rfl ?_ | refine ev_cmT rfl (by first | rfl | decide) ?_ | refine ev_cmF rfl (by first | rfl | decide) ?_ | refine ev_ifT rfl (by first | rfl | decide) ?_ | refine ev_ifF rfl (by first | rfl | decide) ?_ | refine ev_ask rfl rfl (lx_in_f _ (lx_void v)) ?_ | refine ev_bi rfl (fun _ => rfl) ?_)
set_option maxRecDepth 100000 in
set_option maxHeartbeats 4000000 in
theorem lx_o_ofStep (v v2 : Int32) : lx_like 78 131 [.int v, .int v2] := by
  obtain ⟨w, hw⟩ := lx_merr_1 98
  refine ⟨-1000000001, lx_er 1, w, ?_, ?_⟩
  · refine ev_enter rfl rfl ?_
    repeat (first | exact ev_ret rfl rfl | refine ev_pure rfl rfl ?_ | refine ev_loc rfl rfl ?_ | refine ev_goto rfl ?_ | refine ev_heap rfl rfl ?_ | refine ev_cmT rfl (by first | rfl | decide) ?_ | refine ev_cmF rfl (by first | rfl | decide) ?_ | refine ev_ifT rfl (by first | rfl | decide) ?_ | refine ev_ifF rfl (by first | rfl | decide) ?_ | refine ev_ask rfl rfl (lx_has _) ?_ | refine ev_ask rfl rfl (lx_xerr_1 _) ?_ | refine ev_bi rfl (fun _ => rfl) ?_)
  · refine ev_enter rfl rfl ?_
    repeat (first | exact ev_ret rfl rfl | refine ev_pure rfl rfl ?_ | refine ev_loc rfl rfl ?_ | refine ev_goto rfl ?_ | refine ev_heap rfl rfl ?_ | refine ev_cmT rfl (by first | rfl | decide) ?_ | refine ev_cmF rfl (by first | rfl | decide) ?_ | refine ev_ifT rfl (by first | rfl | decide) ?_ | refine ev_ifF rfl (by first | rfl | decide) ?_ | refine ev_ask rfl rfl (lx_isStep _) ?_ | refine ev_ask rfl rfl (hw) ?_ | refine ev_bi rfl (fun _ => rfl) ?_)
set_option maxRecDepth 100000 in
set_option maxHeartbeats 4000000 in
theorem lx_o_change (v v2 v3 : Int32) : lx_like 80 146 [.int v, .int v2, .int v3] := by
  obtain ⟨w, hw⟩ := lx_merr_1 98
  refine ⟨-1000000001, lx_er 1, w, ?_, ?_⟩
  · refine ev_enter rfl rfl ?_
    repeat (first | exact ev_ret rfl rfl | refine ev_pure rfl rfl ?_ | refine ev_loc rfl rfl ?_ | refine ev_goto rfl ?_ | refine ev_heap rfl rfl ?_ | refine ev_cmT rfl (by first | rfl | decide) ?_ | refine ev_cmF rfl (by first | rfl | decide) ?_ | refine ev_ifT rfl (by first | rfl | decide) ?_ | refine ev_ifF rfl (by first | rfl | decide) ?_ | refine ev_ask rfl rfl (lx_has _) ?_ | refine ev_ask rfl rfl (lx_xerr_1 _) ?_ | refine ev_bi rfl (fun _ => rfl) ?_)
  · refine ev_enter rfl rfl ?_
    repeat (first | exact ev_ret rfl rfl | refine ev_pure rfl rfl ?_ | refine ev_loc rfl rfl ?_ | refine ev_goto rfl ?_ | refine ev_heap rfl rfl ?_ | refine ev_cmT rfl (by first | rfl | decide) ?_ | refine ev_cmF rfl (by first | rfl | decide) ?_ | refine ev_ifT rfl (by first | rfl | decide) ?_ | refine ev_ifF rfl (by first | rfl | decide) ?_ | refine ev_ask rfl rfl (lx_isStep _) ?_ | refine ev_ask rfl rfl (hw) ?_ | refine ev_bi rfl (fun _ => rfl) ?_)
set_option maxRecDepth 100000 in
set_option maxHeartbeats 4000000 in
theorem lx_o_become (v v2 : Int32) : lx_like 84 149 [.int v, .int v2] := by
  obtain ⟨w, hw⟩ := lx_merr_1 98
  refine ⟨-1000000001, lx_er 1, w, ?_, ?_⟩
  · refine ev_enter rfl rfl ?_
    repeat (first | exact ev_ret rfl rfl | refine ev_pure rfl rfl ?_ | refine ev_loc rfl rfl ?_ | refine ev_goto rfl ?_ | refine ev_heap rfl rfl ?_ | refine ev_cmT rfl (by first | rfl | decide) ?_ | refine ev_cmF rfl (by first | rfl | decide) ?_ | refine ev_ifT rfl (by first | rfl | decide) ?_ | refine ev_ifF rfl (by first | rfl | decide) ?_ | refine ev_ask rfl rfl (lx_has _) ?_ | refine ev_ask rfl rfl (lx_xerr_1 _) ?_ | refine ev_bi rfl (fun _ => rfl) ?_)
  · refine ev_enter rfl rfl ?_
    repeat (first | exact ev_ret rfl rfl | refine ev_pure rfl rfl ?_ | refine ev_loc rfl rfl ?_ | refine ev_goto rfl ?_ | refine ev_heap rfl rfl ?_ | refine ev_cmT rfl (by first | rfl | decide) ?_ | refine ev_cmF rfl (by first | rfl | decide) ?_ | refine ev_ifT rfl (by first | rfl | decide) ?_ | refine ev_ifF rfl (by first | rfl | decide) ?_ | refine ev_ask rfl rfl (lx_isStep _) ?_ | refine ev_ask rfl rfl (hw) ?_ | refine ev_bi rfl (fun _ => rfl) ?_)
set_option maxRecDepth 100000 in
set_option maxHeartbeats 4000000 in
theorem lx_o_as (v v2 : Int32) : lx_like 85 150 [.int v, .int v2] := by
  obtain ⟨w, hw⟩ := lx_merr_1 98
  refine ⟨-1000000001, lx_er 1, w, ?_, ?_⟩
  · refine ev_enter rfl rfl ?_
    repeat (first | exact ev_ret rfl rfl | refine ev_pure rfl rfl ?_ | refine ev_loc rfl rfl ?_ | refine ev_goto rfl ?_ | refine ev_heap rfl rfl ?_ | refine ev_cmT rfl (by first | rfl | decide) ?_ | refine ev_cmF rfl (by first | rfl | decide) ?_ | refine ev_ifT rfl (by first | rfl | decide) ?_ | refine ev_ifF rfl (by first | rfl | decide) ?_ | refine ev_ask rfl rfl (lx_has _) ?_ | refine ev_ask rfl rfl (lx_xerr_1 _) ?_ | refine ev_bi rfl (fun _ => rfl) ?_)
  · refine ev_enter rfl rfl ?_
    repeat (first | exact ev_ret rfl rfl | refine ev_pure rfl rfl ?_ | refine ev_loc rfl rfl ?_ | refine ev_goto rfl ?_ | refine ev_heap rfl rfl ?_ | refine ev_cmT rfl (by first | rfl | decide) ?_ | refine ev_cmF rfl (by first | rfl | decide) ?_ | refine ev_ifT rfl (by first | rfl | decide) ?_ | refine ev_ifF rfl (by first | rfl | decide) ?_ | refine ev_ask rfl rfl (lx_isStep _) ?_ | refine ev_ask rfl rfl (hw) ?_ | refine ev_bi rfl (fun _ => rfl) ?_)
set_option maxRecDepth 100000 in
set_option maxHeartbeats 4000000 in
theorem lx_o_does (v : Int32) : lx_like 91 165 [.int v] := by
  obtain ⟨w, hw⟩ := lx_merr_1 98
  refine ⟨-1000000001, lx_er 1, w, ?_, ?_⟩
  · refine ev_enter rfl rfl ?_
    repeat (first | exact ev_ret rfl rfl | refine ev_pure rfl rfl ?_ | refine ev_loc rfl rfl ?_ | refine ev_goto rfl ?_ | refine ev_heap rfl rfl ?_ | refine ev_cmT rfl (by first | rfl | decide) ?_ | refine ev_cmF rfl (by first | rfl | decide) ?_ | refine ev_ifT rfl (by first | rfl | decide) ?_ | refine ev_ifF rfl (by first | rfl | decide) ?_ | refine ev_ask rfl rfl (lx_has _) ?_ | refine ev_ask rfl rfl (lx_xerr_1 _) ?_ | refine ev_bi rfl (fun _ => rfl) ?_)
  · refine ev_enter rfl rfl ?_
    repeat (first | exact ev_ret rfl rfl | refine ev_pure rfl rfl ?_ | refine ev_loc rfl rfl ?_ | refine ev_goto rfl ?_ | refine ev_heap rfl rfl ?_ | refine ev_cmT rfl (by first | rfl | decide) ?_ | refine ev_cmF rfl (by first | rfl | decide) ?_ | refine ev_ifT rfl (by first | rfl | decide) ?_ | refine ev_ifF rfl (by first | rfl | decide) ?_ | refine ev_ask rfl rfl (lx_isStep _) ?_ | refine ev_ask rfl rfl (hw) ?_ | refine ev_bi rfl (fun _ => rfl) ?_)
set_option maxRecDepth 100000 in
set_option maxHeartbeats 4000000 in
theorem lx_o_undo (v : Int32) : lx_like 92 168 [.int v] := by
  obtain ⟨w, hw⟩ := lx_merr_1 98
  refine ⟨-1000000001, lx_er 1, w, ?_, ?_⟩
  · refine ev_enter rfl rfl ?_
    repeat (first | exact ev_ret rfl rfl | refine ev_pure rfl rfl ?_ | refine ev_loc rfl rfl ?_ | refine ev_goto rfl ?_ | refine ev_heap rfl rfl ?_ | refine ev_cmT rfl (by first | rfl | decide) ?_ | refine ev_cmF rfl (by first | rfl | decide) ?_ | refine ev_ifT rfl (by first | rfl | decide) ?_ | refine ev_ifF rfl (by first | rfl | decide) ?_ | refine ev_ask rfl rfl (lx_has _) ?_ | refine ev_ask rfl rfl (lx_xerr_1 _) ?_ | refine ev_bi rfl (fun _ => rfl) ?_)
  · refine ev_enter rfl rfl ?_
    repeat (first | exact ev_ret rfl rfl | refine ev_pure rfl rfl ?_ | refine ev_loc rfl rfl ?_ | refine ev_goto rfl ?_ | refine ev_heap rfl rfl ?_ | refine ev_cmT rfl (by first | rfl | decide) ?_ | refine ev_cmF rfl (by first | rfl | decide) ?_ | refine ev_ifT rfl (by first | rfl | decide) ?_ | refine ev_ifF rfl (by first | rfl | decide) ?_ | refine ev_ask rfl rfl (lx_isStep _) ?_ | refine ev_ask rfl rfl (hw) ?_ | refine ev_bi rfl (fun _ => rfl) ?_)
set_option maxRecDepth 100000 in
set_option maxHeartbeats 4000000 in
theorem lx_o_under (v : Int32) : lx_like 98 186 [.int v] := by
  obtain ⟨w, hw⟩ := lx_merr_1 98
  refine ⟨-1000000001, lx_er 1, w, ?_, ?_⟩
  · refine ev_enter rfl rfl ?_
    repeat (first | exact ev_ret rfl rfl | refine ev_pure rfl rfl ?_ | refine ev_loc rfl rfl ?_ | refine ev_goto rfl ?_ | refine ev_heap rfl rfl ?_ | refine ev_cmT rfl (by first | rfl | decide) ?_ | refine ev_cmF rfl (by first | rfl | decide) ?_ | refine ev_ifT rfl (by first | rfl | decide) ?_ | refine ev_ifF rfl (by first | rfl | decide) ?_ | refine ev_ask rfl rfl (lx_has _) ?_ | refine ev_ask rfl rfl (lx_xerr_1 _) ?_ | refine ev_bi rfl (fun _ => rfl) ?_)
  · refine ev_enter rfl rfl ?_
    repeat (first | exact ev_ret rfl rfl | refine ev_pure rfl rfl ?_ | refine ev_loc rfl rfl ?_ | refine ev_goto rfl ?_ | refine ev_heap rfl rfl ?_ | refine ev_cmT rfl (by first | rfl | decide) ?_ | refine ev_cmF rfl (by first | rfl | decide) ?_ | refine ev_ifT rfl (by first | rfl | decide) ?_ | refine ev_ifF rfl (by first | rfl | decide) ?_ | refine ev_ask rfl rfl (lx_isStep _) ?_ | refine ev_ask rfl rfl (hw) ?_ | refine ev_bi rfl (fun _ => rfl) ?_)
set_option maxRecDepth 100000 in
set_option maxHeartbeats 4000000 in
theorem lx_o_goBack (v v2 : Int32) : lx_like 99 188 [.int v, .int v2] := by
  obtain ⟨w, hw⟩ := lx_merr_1 98
  refine ⟨-1000000001, lx_er 1, w, ?_, ?_⟩
  · refine ev_enter rfl rfl ?_
    repeat (first | exact ev_ret rfl rfl | refine ev_pure rfl rfl ?_ | refine ev_loc rfl rfl ?_ | refine ev_goto rfl ?_ | refine ev_heap rfl rfl ?_ | refine ev_cmT rfl (by first | rfl | decide) ?_ | refine ev_cmF rfl (by first | rfl | decide) ?_ | refine ev_ifT rfl (by first | rfl | decide) ?_ | refine ev_ifF rfl (by first | rfl | decide) ?_ | refine ev_ask rfl rfl (lx_has _) ?_ | refine ev_ask rfl rfl (lx_xerr_1 _) ?_ | refine ev_bi rfl (fun _ => rfl) ?_)
  · refine ev_enter rfl rfl ?_
    repeat (first | exact ev_ret rfl rfl | refine ev_pure rfl rfl ?_ | refine ev_loc rfl rfl ?_ | refine ev_goto rfl ?_ | refine ev_heap rfl rfl ?_ | refine ev_cmT rfl (by first | rfl | decide) ?_ | refine ev_cmF rfl (by first | rfl | decide) ?_ | refine ev_ifT rfl (by first | rfl | decide) ?_ | refine ev_ifF rfl (by first | rfl | decide) ?_ | refine ev_ask rfl rfl (lx_isStep _) ?_ | refine ev_ask rfl rfl (hw) ?_ | refine ev_bi rfl (fun _ => rfl) ?_)
set_option maxRecDepth 100000 in
set_option maxHeartbeats 4000000 in
theorem lx_o_odds (v v2 : Int32) : lx_like 108 198 [.int v, .int v2] := by
  obtain ⟨w, hw⟩ := lx_merr_1 98
  refine ⟨-1000000001, lx_er 1, w, ?_, ?_⟩
  · refine ev_enter rfl rfl ?_
    repeat (first | exact ev_ret rfl rfl | refine ev_pure rfl rfl ?_ | refine ev_loc rfl rfl ?_ | refine ev_goto rfl ?_ | refine ev_heap rfl rfl ?_ | refine ev_cmT rfl (by first | rfl | decide) ?_ | refine ev_cmF rfl (by first | rfl | decide) ?_ | refine ev_ifT rfl (by first | rfl | decide) ?_ | refine ev_ifF rfl (by first | rfl | decide) ?_ | refine ev_ask rfl rfl (lx_has _) ?_ | refine ev_ask rfl rfl (lx_xerr_1 _) ?_ | refine ev_bi rfl (fun _ => rfl) ?_)
  · refine ev_enter rfl rfl ?_
    repeat (first | exact ev_ret rfl rfl | refine ev_pure rfl rfl ?_ | refine ev_loc rfl rfl ?_ | refine ev_goto rfl ?_ | refine ev_heap rfl rfl ?_ | refine ev_cmT rfl (by first | rfl | decide) ?_ | refine ev_cmF rfl (by first | rfl | decide) ?_ | refine ev_ifT rfl (by first | rfl | decide) ?_ | refine ev_ifF rfl (by first | rfl | decide) ?_ | refine ev_ask rfl rfl (lx_isStep _) ?_ | refine ev_ask rfl rfl (hw) ?_ | refine ev_bi rfl (fun _ => rfl) ?_)
set_option maxRecDepth 100000 in
set_option maxHeartbeats 4000000 in
theorem lx_o_voice (v v2 v3 : Int32) : lx_like 110 200 [.int v, .int v2, .int v3] := by
  obtain ⟨w, hw⟩ := lx_merr_1 98
  refine ⟨-1000000001, lx_er 1, w, ?_, ?_⟩
  · refine ev_enter rfl rfl ?_
    repeat (first | exact ev_ret rfl rfl | refine ev_pure rfl rfl ?_ | refine ev_loc rfl rfl ?_ | refine ev_goto rfl ?_ | refine ev_heap rfl rfl ?_ | refine ev_cmT rfl (by first | rfl | decide) ?_ | refine ev_cmF rfl (by first | rfl | decide) ?_ | refine ev_ifT rfl (by first | rfl | decide) ?_ | refine ev_ifF rfl (by first | rfl | decide) ?_ | refine ev_ask rfl rfl (lx_has _) ?_ | refine ev_ask rfl rfl (lx_xerr_1 _) ?_ | refine ev_bi rfl (fun _ => rfl) ?_)
  · refine ev_enter rfl rfl ?_
    repeat (first | exact ev_ret rfl rfl | refine ev_pure rfl rfl ?_ | refine ev_loc rfl rfl ?_ | refine ev_goto rfl ?_ | refine ev_heap rfl rfl ?_ | refine ev_cmT rfl (by first | rfl | decide) ?_ | refine ev_cmF rfl (by first | rfl | decide) ?_ | refine ev_ifT rfl (by first | rfl | decide) ?_ | refine ev_ifF rfl (by first | rfl | decide) ?_ | refine ev_ask rfl rfl (lx_isStep _) ?_ | refine ev_ask rfl rfl (hw) ?_ | refine ev_bi rfl (fun _ => rfl) ?_)
