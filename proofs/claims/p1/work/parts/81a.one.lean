/-! WHAT A CALL ON FRESH OBJECTS ANSWERS, going on (wip/gen/p1.py) -/
theorem lx_nlt {a b : Int32} (h : decide (a < b) = false) : decide (b ≤ a) = true := decide_eq_true (Int32.not_lt.mp (of_decide_eq_false h))
theorem lx_lt {a b : Int32} (h : decide (a < b) = true) : decide (b ≤ a) = false := decide_eq_false (fun q => absurd (of_decide_eq_true h) (Int32.not_lt.mpr q))
theorem lx_eqF {x : Int32} {k : Int32} (h : ¬ x = k) : decide (x = k) = false := decide_eq_false h
theorem lx_c1n {x : Int32} (h : ¬ x = 0) : ab_c1 .ne x = true := by unfold ab_c1; rw [decide_eq_false h]; rfl
theorem lx_c1e {x : Int32} (h : ¬ x = 0) : ab_c1 .eq x = false := decide_eq_false h
theorem lx_c2n {x y : Int32} (h : ¬ x = y) : ab_c2 .ne x y = true := by unfold ab_c2; rw [decide_eq_false h]; rfl
theorem lx_c2e {x y : Int32} (h : ¬ x = y) : ab_c2 .eq x y = false := decide_eq_false h
theorem lx_rng {v M : Int32} (n : Nat) (hM : M.toInt = n) (h1 : decide (v < 0) = false) (h2 : decide (M < v) = false) : ∃ j : Nat, j ≤ n ∧ v = nI j := nI_of2 hM (of_decide_eq_false h1) (Int32.not_lt.mp (of_decide_eq_false h2))
theorem lx_rng1 {v M : Int32} (n : Nat) (hM : M.toInt = n) (h1 : decide (v < 1) = false) (h2 : decide (M < v) = false) : ∃ j : Nat, 1 ≤ j ∧ j ≤ n ∧ v = nI j := by
  have h0 : decide (v < 0) = false := by
    refine decide_eq_false (fun q => of_decide_eq_false h1 ?_)
    rw [Int32.lt_iff_toInt_lt] at q ⊢
    rw [show (1 : Int32).toInt = 1 by decide]
    rw [show (0 : Int32).toInt = 0 by decide] at q
    omega
  obtain ⟨j, hj, rfl⟩ := lx_rng n hM h0 h2
  refine ⟨j, ?_, hj, rfl⟩
  rcases Nat.eq_zero_or_pos j with rfl | q
  · exact absurd h1 (by decide)
  · exact q
theorem lx_out {v a b : Int32} (h : ¬ (decide (v < a) = false ∧ decide (b < v) = false)) : decide (v < a) = true ∨ decide (b < v) = true := by
  cases h1 : decide (v < a) with
  | true => exact Or.inl rfl
  | false =>
    cases h2 : decide (b < v) with
    | true => exact Or.inr rfl
    | false => exact absurd ⟨h1, h2⟩ h
section EW
variable {tb : ab_TB} {M : ab_M} {L : ab_Lo} {st st' : List Value} {w : ab_W} {cn sn : Nat} {sp sp0 : List (List Int32)} {d pc lk : Nat} {r : ab_R}
theorem ev_tab {a b c : Int} {offs : Array Int} {x : Int32} {pc' : Nat} (hf : ab_fetch M.2.2.2.2.2.2.2 pc = some (.tableswitch a b c offs, lk)) (h : ab_br (.tableswitch a b c offs) pc lk (.int x :: st) = some (pc', st')) (k : ev_Run tb sp0 sp d M (pc', L, st', w, cn, sn) r) : ev_Run tb sp0 sp d M (pc, L, .int x :: st, w, cn, sn) r := ev_br hf h k
theorem ev_tabD {a b c : Int} {offs : Array Int} {x : Int32} {pc' : Nat} (hf : ab_fetch M.2.2.2.2.2.2.2 pc = some (.tableswitch a b c offs, lk)) (hx : x.toInt < b ∨ c < x.toInt) (h : ab_tgt pc a st = some (pc', st')) (k : ev_Run tb sp0 sp d M (pc', L, st', w, cn, sn) r) : ev_Run tb sp0 sp d M (pc, L, .int x :: st, w, cn, sn) r := by
  refine ev_br hf ?_ k
  have e : (decide (x.toInt < b) || decide (c < x.toInt)) = true := by
    rcases hx with q | q
    · rw [decide_eq_true q]; rfl
    · rw [decide_eq_true q, Bool.or_true]
  show cond (decide (x.toInt < b) || decide (c < x.toInt)) (ab_tgt pc a st) _ = _
  rw [e]
  exact h
end EW
theorem lx_outI {v b : Int32} {n : Int} (hb : b.toInt = n) (h : decide (v < 0) = true ∨ decide (b < v) = true) : v.toInt < 0 ∨ n < v.toInt := by
  rcases h with q | q
  · have := Int32.lt_iff_toInt_lt.mp (of_decide_eq_true q)
    rw [show (0 : Int32).toInt = 0 by decide] at this
    exact Or.inl this
  · have := Int32.lt_iff_toInt_lt.mp (of_decide_eq_true q)
    rw [hb] at this
    exact Or.inr this
set_option maxRecDepth 100000 in
set_option maxHeartbeats 4000000 in
theorem lx_isSheet_f (d : Nat) {v : Int32} {w : ab_W} (h : decide (v < 0) = true ∨ decide (3 < v) = true) : ev_Call tb [lx_above] (d + 2) 106 [.int v] w (some (.int 0), w) := by
  refine ev_enter rfl rfl ?_
  repeat (first | exact ev_ret rfl rfl | refine ev_pure rfl rfl ?_ | refine ev_loc rfl rfl ?_ | refine ev_goto rfl ?_ | refine ev_heap rfl rfl ?_ | refine ev_cmT rfl (by first | rfl | decide) ?_ | refine ev_cmF rfl (by first | rfl | decide) ?_ | refine ev_ifT rfl (by first | rfl | decide) ?_ | refine ev_ifF rfl (by first | rfl | decide) ?_ | refine ev_ask rfl rfl (lx_within_f _ h) ?_ | refine ev_bi rfl (fun _ => rfl) ?_)
set_option maxRecDepth 100000 in
set_option maxHeartbeats 4000000 in
theorem lx_misSheet_f (d : Nat) {v : Int32} {w : ab_W} (h : decide (v < 0) = true ∨ decide (3 < v) = true) : ev_Call tb [lx_above] (d + 2) 196 [.int v] w (some (.int 0), w) := by
  refine ev_enter rfl rfl ?_
  repeat (first | exact ev_ret rfl rfl | refine ev_pure rfl rfl ?_ | refine ev_loc rfl rfl ?_ | refine ev_goto rfl ?_ | refine ev_heap rfl rfl ?_ | refine ev_cmT rfl (by first | rfl | decide) ?_ | refine ev_cmF rfl (by first | rfl | decide) ?_ | refine ev_ifT rfl (by first | rfl | decide) ?_ | refine ev_ifF rfl (by first | rfl | decide) ?_ | refine ev_ask rfl rfl (lx_in_f _ h) ?_ | refine ev_bi rfl (fun _ => rfl) ?_)
set_option maxRecDepth 100000 in
set_option maxHeartbeats 4000000 in
theorem lx_o_left : lx_like 102 191 [] := by
  apply Exists.intro
  apply Exists.intro
  apply Exists.intro
  apply And.intro
  · refine ev_enter rfl rfl ?_
    repeat (first | exact ev_ret rfl rfl | refine ev_pure rfl rfl ?_ | refine ev_loc rfl rfl ?_ | refine ev_goto rfl ?_ | refine ev_heap rfl rfl ?_ | refine ev_cmT rfl (by first | rfl | decide) ?_ | refine ev_cmF rfl (by first | rfl | decide) ?_ | refine ev_ifT rfl (by first | rfl | decide) ?_ | refine ev_ifF rfl (by first | rfl | decide) ?_ | refine ev_bi rfl (fun _ => rfl) ?_ | refine ev_enter rfl rfl ?_ | (refine ev_askE rfl rfl ?_; apply Exists.intro; apply Exists.intro; apply And.intro) | refine ev_tab rfl rfl ?_)
  · refine ev_enter rfl rfl ?_
    repeat (first | exact ev_ret rfl rfl | refine ev_pure rfl rfl ?_ | refine ev_loc rfl rfl ?_ | refine ev_goto rfl ?_ | refine ev_heap rfl rfl ?_ | refine ev_cmT rfl (by first | rfl | decide) ?_ | refine ev_cmF rfl (by first | rfl | decide) ?_ | refine ev_ifT rfl (by first | rfl | decide) ?_ | refine ev_ifF rfl (by first | rfl | decide) ?_ | refine ev_ask rfl rfl (lx_copyAll _ (by decide) rfl rfl rfl rfl) ?_ | refine ev_bi rfl (fun _ => rfl) ?_ | refine ev_enter rfl rfl ?_ | (refine ev_askE rfl rfl ?_; apply Exists.intro; apply Exists.intro; apply And.intro) | refine ev_tab rfl rfl ?_)
set_option maxRecDepth 100000 in
set_option maxHeartbeats 4000000 in
theorem lx_o_lookAt : lx_like 104 194 [] := by
  apply Exists.intro
  apply Exists.intro
  apply Exists.intro
  apply And.intro
  · refine ev_enter rfl rfl ?_
    repeat (first | exact ev_ret rfl rfl | refine ev_pure rfl rfl ?_ | refine ev_loc rfl rfl ?_ | refine ev_goto rfl ?_ | refine ev_heap rfl rfl ?_ | refine ev_cmT rfl (by first | rfl | decide) ?_ | refine ev_cmF rfl (by first | rfl | decide) ?_ | refine ev_ifT rfl (by first | rfl | decide) ?_ | refine ev_ifF rfl (by first | rfl | decide) ?_ | refine ev_bi rfl (fun _ => rfl) ?_ | refine ev_enter rfl rfl ?_ | (refine ev_askE rfl rfl ?_; apply Exists.intro; apply Exists.intro; apply And.intro) | refine ev_tab rfl rfl ?_)
  · refine ev_enter rfl rfl ?_
    repeat (first | exact ev_ret rfl rfl | refine ev_pure rfl rfl ?_ | refine ev_loc rfl rfl ?_ | refine ev_goto rfl ?_ | refine ev_heap rfl rfl ?_ | refine ev_cmT rfl (by first | rfl | decide) ?_ | refine ev_cmF rfl (by first | rfl | decide) ?_ | refine ev_ifT rfl (by first | rfl | decide) ?_ | refine ev_ifF rfl (by first | rfl | decide) ?_ | refine ev_ask rfl rfl (lx_copyAll _ (by decide) rfl rfl rfl rfl) ?_ | refine ev_bi rfl (fun _ => rfl) ?_ | refine ev_enter rfl rfl ?_ | (refine ev_askE rfl rfl ?_; apply Exists.intro; apply Exists.intro; apply And.intro) | refine ev_tab rfl rfl ?_)
set_option maxRecDepth 100000 in
set_option maxHeartbeats 4000000 in
theorem lx_o_image : lx_like 119 220 [] := by
  apply Exists.intro
  apply Exists.intro
  apply Exists.intro
  apply And.intro
  · refine ev_enter rfl rfl ?_
    repeat (first | exact ev_ret rfl rfl | refine ev_pure rfl rfl ?_ | refine ev_loc rfl rfl ?_ | refine ev_goto rfl ?_ | refine ev_heap rfl rfl ?_ | refine ev_cmT rfl (by first | rfl | decide) ?_ | refine ev_cmF rfl (by first | rfl | decide) ?_ | refine ev_ifT rfl (by first | rfl | decide) ?_ | refine ev_ifF rfl (by first | rfl | decide) ?_ | refine ev_bi rfl (fun _ => rfl) ?_ | refine ev_enter rfl rfl ?_ | (refine ev_askE rfl rfl ?_; apply Exists.intro; apply Exists.intro; apply And.intro) | refine ev_tab rfl rfl ?_)
  · refine ev_enter rfl rfl ?_
    repeat (first | exact ev_ret rfl rfl | refine ev_pure rfl rfl ?_ | refine ev_loc rfl rfl ?_ | refine ev_goto rfl ?_ | refine ev_heap rfl rfl ?_ | refine ev_cmT rfl (by first | rfl | decide) ?_ | refine ev_cmF rfl (by first | rfl | decide) ?_ | refine ev_ifT rfl (by first | rfl | decide) ?_ | refine ev_ifF rfl (by first | rfl | decide) ?_ | refine ev_ask rfl rfl (lx_copyAll _ (by decide) rfl rfl rfl rfl) ?_ | refine ev_bi rfl (fun _ => rfl) ?_ | refine ev_enter rfl rfl ?_ | (refine ev_askE rfl rfl ?_; apply Exists.intro; apply Exists.intro; apply And.intro) | refine ev_tab rfl rfl ?_)
set_option maxRecDepth 100000 in
set_option maxHeartbeats 4000000 in
theorem lx_o_restore : lx_like 120 221 [] := by
  apply Exists.intro
  apply Exists.intro
  apply Exists.intro
  apply And.intro
  · refine ev_enter rfl rfl ?_
    repeat (first | exact ev_ret rfl rfl | refine ev_pure rfl rfl ?_ | refine ev_loc rfl rfl ?_ | refine ev_goto rfl ?_ | refine ev_heap rfl rfl ?_ | refine ev_cmT rfl (by first | rfl | decide) ?_ | refine ev_cmF rfl (by first | rfl | decide) ?_ | refine ev_ifT rfl (by first | rfl | decide) ?_ | refine ev_ifF rfl (by first | rfl | decide) ?_ | refine ev_bi rfl (fun _ => rfl) ?_ | refine ev_enter rfl rfl ?_ | (refine ev_askE rfl rfl ?_; apply Exists.intro; apply Exists.intro; apply And.intro) | refine ev_tab rfl rfl ?_)
  · refine ev_enter rfl rfl ?_
    repeat (first | exact ev_ret rfl rfl | refine ev_pure rfl rfl ?_ | refine ev_loc rfl rfl ?_ | refine ev_goto rfl ?_ | refine ev_heap rfl rfl ?_ | refine ev_cmT rfl (by first | rfl | decide) ?_ | refine ev_cmF rfl (by first | rfl | decide) ?_ | refine ev_ifT rfl (by first | rfl | decide) ?_ | refine ev_ifF rfl (by first | rfl | decide) ?_ | refine ev_ask rfl rfl (lx_copyAll _ (by decide) rfl rfl rfl rfl) ?_ | refine ev_bi rfl (fun _ => rfl) ?_ | refine ev_enter rfl rfl ?_ | (refine ev_askE rfl rfl ?_; apply Exists.intro; apply Exists.intro; apply And.intro) | refine ev_tab rfl rfl ?_)
set_option maxRecDepth 100000 in
set_option maxHeartbeats 4000000 in
theorem lx_o_check : lx_like 122 223 [] := by
  apply Exists.intro
  apply Exists.intro
  apply Exists.intro
  apply And.intro
  · refine ev_enter rfl rfl ?_
    repeat (first | exact ev_ret rfl rfl | refine ev_pure rfl rfl ?_ | refine ev_loc rfl rfl ?_ | refine ev_goto rfl ?_ | refine ev_heap rfl rfl ?_ | refine ev_cmT rfl (by first | rfl | decide) ?_ | refine ev_cmF rfl (by first | rfl | decide) ?_ | refine ev_ifT rfl (by first | rfl | decide) ?_ | refine ev_ifF rfl (by first | rfl | decide) ?_ | refine ev_bi rfl (fun _ => rfl) ?_ | refine ev_enter rfl rfl ?_ | (refine ev_askE rfl rfl ?_; apply Exists.intro; apply Exists.intro; apply And.intro) | refine ev_tab rfl rfl ?_)
  · refine ev_enter rfl rfl ?_
    repeat (first | exact ev_ret rfl rfl | refine ev_pure rfl rfl ?_ | refine ev_loc rfl rfl ?_ | refine ev_goto rfl ?_ | refine ev_heap rfl rfl ?_ | refine ev_cmT rfl (by first | rfl | decide) ?_ | refine ev_cmF rfl (by first | rfl | decide) ?_ | refine ev_ifT rfl (by first | rfl | decide) ?_ | refine ev_ifF rfl (by first | rfl | decide) ?_ | refine ev_ask rfl rfl (lx_copyAll _ (by decide) rfl rfl rfl rfl) ?_ | refine ev_bi rfl (fun _ => rfl) ?_ | refine ev_enter rfl rfl ?_ | (refine ev_askE rfl rfl ?_; apply Exists.intro; apply Exists.intro; apply And.intro) | refine ev_tab rfl rfl ?_)
set_option maxRecDepth 100000 in
set_option maxHeartbeats 4000000 in
theorem lx_o_seed (v : Int32) : lx_like 109 199 [.int v] := by
  apply Exists.intro
  apply Exists.intro
  apply Exists.intro
  apply And.intro
  · refine ev_enter rfl rfl ?_
    repeat (first | exact ev_ret rfl rfl | refine ev_pure rfl rfl ?_ | refine ev_loc rfl rfl ?_ | refine ev_goto rfl ?_ | refine ev_heap rfl rfl ?_ | refine ev_cmT rfl (by first | rfl | decide) ?_ | refine ev_cmF rfl (by first | rfl | decide) ?_ | refine ev_ifT rfl (by first | rfl | decide) ?_ | refine ev_ifF rfl (by first | rfl | decide) ?_ | refine ev_bi rfl (fun _ => rfl) ?_ | refine ev_enter rfl rfl ?_ | (refine ev_askE rfl rfl ?_; apply Exists.intro; apply Exists.intro; apply And.intro) | refine ev_tab rfl rfl ?_)
  · refine ev_enter rfl rfl ?_
    repeat (first | exact ev_ret rfl rfl | refine ev_pure rfl rfl ?_ | refine ev_loc rfl rfl ?_ | refine ev_goto rfl ?_ | refine ev_heap rfl rfl ?_ | refine ev_cmT rfl (by first | rfl | decide) ?_ | refine ev_cmF rfl (by first | rfl | decide) ?_ | refine ev_ifT rfl (by first | rfl | decide) ?_ | refine ev_ifF rfl (by first | rfl | decide) ?_ | refine ev_ask rfl rfl (lx_copyAll _ (by decide) rfl rfl rfl rfl) ?_ | refine ev_bi rfl (fun _ => rfl) ?_ | refine ev_enter rfl rfl ?_ | (refine ev_askE rfl rfl ?_; apply Exists.intro; apply Exists.intro; apply And.intro) | refine ev_tab rfl rfl ?_)
set_option maxRecDepth 100000 in
set_option maxHeartbeats 4000000 in
theorem lx_o_tell (v : Int32) : lx_like 121 222 [.int v] := by
  apply Exists.intro
  apply Exists.intro
  apply Exists.intro
  apply And.intro
  · refine ev_enter rfl rfl ?_
    repeat (first | exact ev_ret rfl rfl | refine ev_pure rfl rfl ?_ | refine ev_loc rfl rfl ?_ | refine ev_goto rfl ?_ | refine ev_heap rfl rfl ?_ | refine ev_cmT rfl (by first | rfl | decide) ?_ | refine ev_cmF rfl (by first | rfl | decide) ?_ | refine ev_ifT rfl (by first | rfl | decide) ?_ | refine ev_ifF rfl (by first | rfl | decide) ?_ | refine ev_bi rfl (fun _ => rfl) ?_ | refine ev_enter rfl rfl ?_ | (refine ev_askE rfl rfl ?_; apply Exists.intro; apply Exists.intro; apply And.intro) | refine ev_tab rfl rfl ?_)
  · refine ev_enter rfl rfl ?_
    repeat (first | exact ev_ret rfl rfl | refine ev_pure rfl rfl ?_ | refine ev_loc rfl rfl ?_ | refine ev_goto rfl ?_ | refine ev_heap rfl rfl ?_ | refine ev_cmT rfl (by first | rfl | decide) ?_ | refine ev_cmF rfl (by first | rfl | decide) ?_ | refine ev_ifT rfl (by first | rfl | decide) ?_ | refine ev_ifF rfl (by first | rfl | decide) ?_ | refine ev_ask rfl rfl (lx_copyAll _ (by decide) rfl rfl rfl rfl) ?_ | refine ev_bi rfl (fun _ => rfl) ?_ | refine ev_enter rfl rfl ?_ | (refine ev_askE rfl rfl ?_; apply Exists.intro; apply Exists.intro; apply And.intro) | refine ev_tab rfl rfl ?_)
set_option maxRecDepth 100000 in
set_option maxHeartbeats 4000000 in
theorem lx_o_trace (v : Int32) : lx_like 111 212 [.int v] := by
  obtain ⟨w, hw⟩ := lx_merr_2 98
  refine ⟨-1000000002, lx_er 2, w, ?_, ?_⟩
  · refine ev_enter rfl rfl ?_
    repeat (first | exact ev_ret rfl rfl | refine ev_pure rfl rfl ?_ | refine ev_loc rfl rfl ?_ | refine ev_goto rfl ?_ | refine ev_heap rfl rfl ?_ | refine ev_cmT rfl (by first | rfl | decide) ?_ | refine ev_cmF rfl (by first | rfl | decide) ?_ | refine ev_ifT rfl (by first | rfl | decide) ?_ | refine ev_ifF rfl (by first | rfl | decide) ?_ | refine ev_ask rfl rfl (lx_within_f _ (lx_void v)) ?_ | refine ev_ask rfl rfl (lx_xerr_2 _) ?_ | refine ev_bi rfl (fun _ => rfl) ?_ | refine ev_enter rfl rfl ?_ | (refine ev_askE rfl rfl ?_; apply Exists.intro; apply Exists.intro; apply And.intro) | refine ev_tab rfl rfl ?_)
  · refine ev_enter rfl rfl ?_
    repeat (first | exact ev_ret rfl rfl | refine ev_pure rfl rfl ?_ | refine ev_loc rfl rfl ?_ | refine ev_goto rfl ?_ | refine ev_heap rfl rfl ?_ | refine ev_cmT rfl (by first | rfl | decide) ?_ | refine ev_cmF rfl (by first | rfl | decide) ?_ | refine ev_ifT rfl (by first | rfl | decide) ?_ | refine ev_ifF rfl (by first | rfl | decide) ?_ | refine ev_ask rfl rfl (hw) ?_ | refine ev_ask rfl rfl (lx_in_f _ (lx_void v)) ?_ | refine ev_bi rfl (fun _ => rfl) ?_ | refine ev_enter rfl rfl ?_ | (refine ev_askE rfl rfl ?_; apply Exists.intro; apply Exists.intro; apply And.intro) | refine ev_tab rfl rfl ?_)
set_option maxRecDepth 100000 in
set_option maxHeartbeats 4000000 in
theorem lx_k_next_0 : lx_like 94 173 [.int (nI 0)] := by
  apply Exists.intro
  apply Exists.intro
  apply Exists.intro
  apply And.intro
  · refine ev_enter rfl rfl ?_
    repeat (first | exact ev_ret rfl rfl | refine ev_pure rfl rfl ?_ | refine ev_loc rfl rfl ?_ | refine ev_goto rfl ?_ | refine ev_heap rfl rfl ?_ | refine ev_cmT rfl (by first | rfl | decide) ?_ | refine ev_cmF rfl (by first | rfl | decide) ?_ | refine ev_ifT rfl (by first | rfl | decide) ?_ | refine ev_ifF rfl (by first | rfl | decide) ?_ | refine ev_bi rfl (fun _ => rfl) ?_ | refine ev_enter rfl rfl ?_ | (refine ev_askE rfl rfl ?_; apply Exists.intro; apply Exists.intro; apply And.intro) | refine ev_tab rfl rfl ?_)
  · refine ev_enter rfl rfl ?_
    repeat (first | exact ev_ret rfl rfl | refine ev_pure rfl rfl ?_ | refine ev_loc rfl rfl ?_ | refine ev_goto rfl ?_ | refine ev_heap rfl rfl ?_ | refine ev_cmT rfl (by first | rfl | decide) ?_ | refine ev_cmF rfl (by first | rfl | decide) ?_ | refine ev_ifT rfl (by first | rfl | decide) ?_ | refine ev_ifF rfl (by first | rfl | decide) ?_ | refine ev_ask rfl rfl (lx_copyAll _ (by decide) rfl rfl rfl rfl) ?_ | refine ev_bi rfl (fun _ => rfl) ?_ | refine ev_enter rfl rfl ?_ | (refine ev_askE rfl rfl ?_; apply Exists.intro; apply Exists.intro; apply And.intro) | refine ev_tab rfl rfl ?_)
set_option maxRecDepth 100000 in
set_option maxHeartbeats 4000000 in
theorem lx_k_next_1 : lx_like 94 173 [.int (nI 1)] := by
  apply Exists.intro
  apply Exists.intro
  apply Exists.intro
  apply And.intro
  · refine ev_enter rfl rfl ?_
    repeat (first | exact ev_ret rfl rfl | refine ev_pure rfl rfl ?_ | refine ev_loc rfl rfl ?_ | refine ev_goto rfl ?_ | refine ev_heap rfl rfl ?_ | refine ev_cmT rfl (by first | rfl | decide) ?_ | refine ev_cmF rfl (by first | rfl | decide) ?_ | refine ev_ifT rfl (by first | rfl | decide) ?_ | refine ev_ifF rfl (by first | rfl | decide) ?_ | refine ev_bi rfl (fun _ => rfl) ?_ | refine ev_enter rfl rfl ?_ | (refine ev_askE rfl rfl ?_; apply Exists.intro; apply Exists.intro; apply And.intro) | refine ev_tab rfl rfl ?_)
  · refine ev_enter rfl rfl ?_
    repeat (first | exact ev_ret rfl rfl | refine ev_pure rfl rfl ?_ | refine ev_loc rfl rfl ?_ | refine ev_goto rfl ?_ | refine ev_heap rfl rfl ?_ | refine ev_cmT rfl (by first | rfl | decide) ?_ | refine ev_cmF rfl (by first | rfl | decide) ?_ | refine ev_ifT rfl (by first | rfl | decide) ?_ | refine ev_ifF rfl (by first | rfl | decide) ?_ | refine ev_ask rfl rfl (lx_copyAll _ (by decide) rfl rfl rfl rfl) ?_ | refine ev_bi rfl (fun _ => rfl) ?_ | refine ev_enter rfl rfl ?_ | (refine ev_askE rfl rfl ?_; apply Exists.intro; apply Exists.intro; apply And.intro) | refine ev_tab rfl rfl ?_)
set_option maxRecDepth 100000 in
set_option maxHeartbeats 4000000 in
theorem lx_o_next (v : Int32) : lx_like 94 173 [.int v] := by
  by_cases h : decide (v < 0) = false ∧ decide (1 < v) = false
  · obtain ⟨j, hj, rfl⟩ := lx_rng 1 (by decide) h.1 h.2
    rcases (show j = 0 ∨ j = 1 by omega) with rfl | rfl
    · exact lx_k_next_0
    · exact lx_k_next_1
  · have h := lx_out h
    obtain ⟨w, hw⟩ := lx_merr_1 98
    refine ⟨-1000000001, lx_er 1, w, ?_, ?_⟩
    · refine ev_enter rfl rfl ?_
      repeat (first | exact ev_ret rfl rfl | refine ev_pure rfl rfl ?_ | refine ev_loc rfl rfl ?_ | refine ev_goto rfl ?_ | refine ev_heap rfl rfl ?_ | refine ev_cmT rfl (by first | rfl | decide) ?_ | refine ev_cmF rfl (by first | rfl | decide) ?_ | refine ev_ifT rfl (by first | rfl | decide) ?_ | refine ev_ifF rfl (by first | rfl | decide) ?_ | refine ev_ask rfl rfl (lx_within_f _ h) ?_ | refine ev_ask rfl rfl (lx_isSheet_f _ h) ?_ | refine ev_ask rfl rfl (lx_xerr_1 _) ?_ | refine ev_bi rfl (fun _ => rfl) ?_ | refine ev_enter rfl rfl ?_ | (refine ev_askE rfl rfl ?_; apply Exists.intro; apply Exists.intro; apply And.intro) | refine ev_tab rfl rfl ?_)
    · refine ev_enter rfl rfl ?_
      repeat (first | exact ev_ret rfl rfl | refine ev_pure rfl rfl ?_ | refine ev_loc rfl rfl ?_ | refine ev_goto rfl ?_ | refine ev_heap rfl rfl ?_ | refine ev_cmT rfl (by first | rfl | decide) ?_ | refine ev_cmF rfl (by first | rfl | decide) ?_ | refine ev_ifT rfl (by first | rfl | decide) ?_ | refine ev_ifF rfl (by first | rfl | decide) ?_ | refine ev_ask rfl rfl (hw) ?_ | refine ev_ask rfl rfl (lx_in_f _ h) ?_ | refine ev_ask rfl rfl (lx_misSheet_f _ h) ?_ | refine ev_bi rfl (fun _ => rfl) ?_ | refine ev_enter rfl rfl ?_ | (refine ev_askE rfl rfl ?_; apply Exists.intro; apply Exists.intro; apply And.intro) | refine ev_tab rfl rfl ?_)
set_option maxRecDepth 100000 in
set_option maxHeartbeats 4000000 in
theorem lx_k_all_0 : lx_like 95 175 [.int (nI 0)] := by
  apply Exists.intro
  apply Exists.intro
  apply Exists.intro
  apply And.intro
  · refine ev_enter rfl rfl ?_
    repeat (first | exact ev_ret rfl rfl | refine ev_pure rfl rfl ?_ | refine ev_loc rfl rfl ?_ | refine ev_goto rfl ?_ | refine ev_heap rfl rfl ?_ | refine ev_cmT rfl (by first | rfl | decide) ?_ | refine ev_cmF rfl (by first | rfl | decide) ?_ | refine ev_ifT rfl (by first | rfl | decide) ?_ | refine ev_ifF rfl (by first | rfl | decide) ?_ | refine ev_bi rfl (fun _ => rfl) ?_ | refine ev_enter rfl rfl ?_ | (refine ev_askE rfl rfl ?_; apply Exists.intro; apply Exists.intro; apply And.intro) | refine ev_tab rfl rfl ?_)
  · refine ev_enter rfl rfl ?_
    repeat (first | exact ev_ret rfl rfl | refine ev_pure rfl rfl ?_ | refine ev_loc rfl rfl ?_ | refine ev_goto rfl ?_ | refine ev_heap rfl rfl ?_ | refine ev_cmT rfl (by first | rfl | decide) ?_ | refine ev_cmF rfl (by first | rfl | decide) ?_ | refine ev_ifT rfl (by first | rfl | decide) ?_ | refine ev_ifF rfl (by first | rfl | decide) ?_ | refine ev_ask rfl rfl (lx_copyAll _ (by decide) rfl rfl rfl rfl) ?_ | refine ev_bi rfl (fun _ => rfl) ?_ | refine ev_enter rfl rfl ?_ | (refine ev_askE rfl rfl ?_; apply Exists.intro; apply Exists.intro; apply And.intro) | refine ev_tab rfl rfl ?_)
set_option maxRecDepth 100000 in
set_option maxHeartbeats 4000000 in
theorem lx_k_all_1 : lx_like 95 175 [.int (nI 1)] := by
  apply Exists.intro
  apply Exists.intro
  apply Exists.intro
  apply And.intro
  · refine ev_enter rfl rfl ?_
    repeat (first | exact ev_ret rfl rfl | refine ev_pure rfl rfl ?_ | refine ev_loc rfl rfl ?_ | refine ev_goto rfl ?_ | refine ev_heap rfl rfl ?_ | refine ev_cmT rfl (by first | rfl | decide) ?_ | refine ev_cmF rfl (by first | rfl | decide) ?_ | refine ev_ifT rfl (by first | rfl | decide) ?_ | refine ev_ifF rfl (by first | rfl | decide) ?_ | refine ev_bi rfl (fun _ => rfl) ?_ | refine ev_enter rfl rfl ?_ | (refine ev_askE rfl rfl ?_; apply Exists.intro; apply Exists.intro; apply And.intro) | refine ev_tab rfl rfl ?_)
  · refine ev_enter rfl rfl ?_
    repeat (first | exact ev_ret rfl rfl | refine ev_pure rfl rfl ?_ | refine ev_loc rfl rfl ?_ | refine ev_goto rfl ?_ | refine ev_heap rfl rfl ?_ | refine ev_cmT rfl (by first | rfl | decide) ?_ | refine ev_cmF rfl (by first | rfl | decide) ?_ | refine ev_ifT rfl (by first | rfl | decide) ?_ | refine ev_ifF rfl (by first | rfl | decide) ?_ | refine ev_ask rfl rfl (lx_copyAll _ (by decide) rfl rfl rfl rfl) ?_ | refine ev_bi rfl (fun _ => rfl) ?_ | refine ev_enter rfl rfl ?_ | (refine ev_askE rfl rfl ?_; apply Exists.intro; apply Exists.intro; apply And.intro) | refine ev_tab rfl rfl ?_)
set_option maxRecDepth 100000 in
set_option maxHeartbeats 4000000 in
theorem lx_k_all_2 : lx_like 95 175 [.int (nI 2)] := by
  apply Exists.intro
  apply Exists.intro
  apply Exists.intro
  apply And.intro
  · refine ev_enter rfl rfl ?_
    repeat (first | exact ev_ret rfl rfl | refine ev_pure rfl rfl ?_ | refine ev_loc rfl rfl ?_ | refine ev_goto rfl ?_ | refine ev_heap rfl rfl ?_ | refine ev_cmT rfl (by first | rfl | decide) ?_ | refine ev_cmF rfl (by first | rfl | decide) ?_ | refine ev_ifT rfl (by first | rfl | decide) ?_ | refine ev_ifF rfl (by first | rfl | decide) ?_ | refine ev_bi rfl (fun _ => rfl) ?_ | refine ev_enter rfl rfl ?_ | (refine ev_askE rfl rfl ?_; apply Exists.intro; apply Exists.intro; apply And.intro) | refine ev_tab rfl rfl ?_)
  · refine ev_enter rfl rfl ?_
    repeat (first | exact ev_ret rfl rfl | refine ev_pure rfl rfl ?_ | refine ev_loc rfl rfl ?_ | refine ev_goto rfl ?_ | refine ev_heap rfl rfl ?_ | refine ev_cmT rfl (by first | rfl | decide) ?_ | refine ev_cmF rfl (by first | rfl | decide) ?_ | refine ev_ifT rfl (by first | rfl | decide) ?_ | refine ev_ifF rfl (by first | rfl | decide) ?_ | refine ev_ask rfl rfl (lx_copyAll _ (by decide) rfl rfl rfl rfl) ?_ | refine ev_bi rfl (fun _ => rfl) ?_ | refine ev_enter rfl rfl ?_ | (refine ev_askE rfl rfl ?_; apply Exists.intro; apply Exists.intro; apply And.intro) | refine ev_tab rfl rfl ?_)
set_option maxRecDepth 100000 in
set_option maxHeartbeats 4000000 in
theorem lx_o_all (v : Int32) : lx_like 95 175 [.int v] := by
  by_cases h : decide (v < 0) = false ∧ decide (2 < v) = false
  · obtain ⟨j, hj, rfl⟩ := lx_rng 2 (by decide) h.1 h.2
    rcases (show j = 0 ∨ j = 1 ∨ j = 2 by omega) with rfl | rfl | rfl
    · exact lx_k_all_0
    · exact lx_k_all_1
    · exact lx_k_all_2
  · have h := lx_out h
    obtain ⟨w, hw⟩ := lx_merr_1 98
    refine ⟨-1000000001, lx_er 1, w, ?_, ?_⟩
    · refine ev_enter rfl rfl ?_
      repeat (first | exact ev_ret rfl rfl | refine ev_pure rfl rfl ?_ | refine ev_loc rfl rfl ?_ | refine ev_goto rfl ?_ | refine ev_heap rfl rfl ?_ | refine ev_cmT rfl (by first | rfl | decide) ?_ | refine ev_cmF rfl (by first | rfl | decide) ?_ | refine ev_ifT rfl (by first | rfl | decide) ?_ | refine ev_ifF rfl (by first | rfl | decide) ?_ | refine ev_ask rfl rfl (lx_within_f _ h) ?_ | refine ev_ask rfl rfl (lx_isSheet_f _ h) ?_ | refine ev_ask rfl rfl (lx_xerr_1 _) ?_ | refine ev_bi rfl (fun _ => rfl) ?_ | refine ev_enter rfl rfl ?_ | (refine ev_askE rfl rfl ?_; apply Exists.intro; apply Exists.intro; apply And.intro) | refine ev_tab rfl rfl ?_)
    · refine ev_enter rfl rfl ?_
      repeat (first | exact ev_ret rfl rfl | refine ev_pure rfl rfl ?_ | refine ev_loc rfl rfl ?_ | refine ev_goto rfl ?_ | refine ev_heap rfl rfl ?_ | refine ev_cmT rfl (by first | rfl | decide) ?_ | refine ev_cmF rfl (by first | rfl | decide) ?_ | refine ev_ifT rfl (by first | rfl | decide) ?_ | refine ev_ifF rfl (by first | rfl | decide) ?_ | refine ev_ask rfl rfl (hw) ?_ | refine ev_ask rfl rfl (lx_in_f _ h) ?_ | refine ev_ask rfl rfl (lx_misSheet_f _ h) ?_ | refine ev_bi rfl (fun _ => rfl) ?_ | refine ev_enter rfl rfl ?_ | (refine ev_askE rfl rfl ?_; apply Exists.intro; apply Exists.intro; apply And.intro) | refine ev_tab rfl rfl ?_)
set_option maxRecDepth 100000 in
set_option maxHeartbeats 4000000 in
theorem lx_k_told_1 : lx_like 124 225 [.int (nI 1)] := by
  apply Exists.intro
  apply Exists.intro
  apply Exists.intro
  apply And.intro
  · refine ev_enter rfl rfl ?_
    repeat (first | exact ev_ret rfl rfl | refine ev_pure rfl rfl ?_ | refine ev_loc rfl rfl ?_ | refine ev_goto rfl ?_ | refine ev_heap rfl rfl ?_ | refine ev_cmT rfl (by first | rfl | decide) ?_ | refine ev_cmF rfl (by first | rfl | decide) ?_ | refine ev_ifT rfl (by first | rfl | decide) ?_ | refine ev_ifF rfl (by first | rfl | decide) ?_ | refine ev_bi rfl (fun _ => rfl) ?_ | refine ev_enter rfl rfl ?_ | (refine ev_askE rfl rfl ?_; apply Exists.intro; apply Exists.intro; apply And.intro) | refine ev_tab rfl rfl ?_)
  · refine ev_enter rfl rfl ?_
    repeat (first | exact ev_ret rfl rfl | refine ev_pure rfl rfl ?_ | refine ev_loc rfl rfl ?_ | refine ev_goto rfl ?_ | refine ev_heap rfl rfl ?_ | refine ev_cmT rfl (by first | rfl | decide) ?_ | refine ev_cmF rfl (by first | rfl | decide) ?_ | refine ev_ifT rfl (by first | rfl | decide) ?_ | refine ev_ifF rfl (by first | rfl | decide) ?_ | refine ev_ask rfl rfl (lx_copyAll _ (by decide) rfl rfl rfl rfl) ?_ | refine ev_bi rfl (fun _ => rfl) ?_ | refine ev_enter rfl rfl ?_ | (refine ev_askE rfl rfl ?_; apply Exists.intro; apply Exists.intro; apply And.intro) | refine ev_tab rfl rfl ?_)
set_option maxRecDepth 100000 in
set_option maxHeartbeats 4000000 in
theorem lx_k_told_2 : lx_like 124 225 [.int (nI 2)] := by
  apply Exists.intro
  apply Exists.intro
  apply Exists.intro
  apply And.intro
  · refine ev_enter rfl rfl ?_
    repeat (first | exact ev_ret rfl rfl | refine ev_pure rfl rfl ?_ | refine ev_loc rfl rfl ?_ | refine ev_goto rfl ?_ | refine ev_heap rfl rfl ?_ | refine ev_cmT rfl (by first | rfl | decide) ?_ | refine ev_cmF rfl (by first | rfl | decide) ?_ | refine ev_ifT rfl (by first | rfl | decide) ?_ | refine ev_ifF rfl (by first | rfl | decide) ?_ | refine ev_bi rfl (fun _ => rfl) ?_ | refine ev_enter rfl rfl ?_ | (refine ev_askE rfl rfl ?_; apply Exists.intro; apply Exists.intro; apply And.intro) | refine ev_tab rfl rfl ?_)
  · refine ev_enter rfl rfl ?_
    repeat (first | exact ev_ret rfl rfl | refine ev_pure rfl rfl ?_ | refine ev_loc rfl rfl ?_ | refine ev_goto rfl ?_ | refine ev_heap rfl rfl ?_ | refine ev_cmT rfl (by first | rfl | decide) ?_ | refine ev_cmF rfl (by first | rfl | decide) ?_ | refine ev_ifT rfl (by first | rfl | decide) ?_ | refine ev_ifF rfl (by first | rfl | decide) ?_ | refine ev_ask rfl rfl (lx_copyAll _ (by decide) rfl rfl rfl rfl) ?_ | refine ev_bi rfl (fun _ => rfl) ?_ | refine ev_enter rfl rfl ?_ | (refine ev_askE rfl rfl ?_; apply Exists.intro; apply Exists.intro; apply And.intro) | refine ev_tab rfl rfl ?_)
set_option maxRecDepth 100000 in
set_option maxHeartbeats 4000000 in
theorem lx_k_told_3 : lx_like 124 225 [.int (nI 3)] := by
  apply Exists.intro
  apply Exists.intro
  apply Exists.intro
  apply And.intro
  · refine ev_enter rfl rfl ?_
    repeat (first | exact ev_ret rfl rfl | refine ev_pure rfl rfl ?_ | refine ev_loc rfl rfl ?_ | refine ev_goto rfl ?_ | refine ev_heap rfl rfl ?_ | refine ev_cmT rfl (by first | rfl | decide) ?_ | refine ev_cmF rfl (by first | rfl | decide) ?_ | refine ev_ifT rfl (by first | rfl | decide) ?_ | refine ev_ifF rfl (by first | rfl | decide) ?_ | refine ev_bi rfl (fun _ => rfl) ?_ | refine ev_enter rfl rfl ?_ | (refine ev_askE rfl rfl ?_; apply Exists.intro; apply Exists.intro; apply And.intro) | refine ev_tab rfl rfl ?_)
  · refine ev_enter rfl rfl ?_
    repeat (first | exact ev_ret rfl rfl | refine ev_pure rfl rfl ?_ | refine ev_loc rfl rfl ?_ | refine ev_goto rfl ?_ | refine ev_heap rfl rfl ?_ | refine ev_cmT rfl (by first | rfl | decide) ?_ | refine ev_cmF rfl (by first | rfl | decide) ?_ | refine ev_ifT rfl (by first | rfl | decide) ?_ | refine ev_ifF rfl (by first | rfl | decide) ?_ | refine ev_ask rfl rfl (lx_copyAll _ (by decide) rfl rfl rfl rfl) ?_ | refine ev_bi rfl (fun _ => rfl) ?_ | refine ev_enter rfl rfl ?_ | (refine ev_askE rfl rfl ?_; apply Exists.intro; apply Exists.intro; apply And.intro) | refine ev_tab rfl rfl ?_)
set_option maxRecDepth 100000 in
set_option maxHeartbeats 4000000 in
theorem lx_k_told_4 : lx_like 124 225 [.int (nI 4)] := by
  apply Exists.intro
  apply Exists.intro
  apply Exists.intro
  apply And.intro
  · refine ev_enter rfl rfl ?_
    repeat (first | exact ev_ret rfl rfl | refine ev_pure rfl rfl ?_ | refine ev_loc rfl rfl ?_ | refine ev_goto rfl ?_ | refine ev_heap rfl rfl ?_ | refine ev_cmT rfl (by first | rfl | decide) ?_ | refine ev_cmF rfl (by first | rfl | decide) ?_ | refine ev_ifT rfl (by first | rfl | decide) ?_ | refine ev_ifF rfl (by first | rfl | decide) ?_ | refine ev_bi rfl (fun _ => rfl) ?_ | refine ev_enter rfl rfl ?_ | (refine ev_askE rfl rfl ?_; apply Exists.intro; apply Exists.intro; apply And.intro) | refine ev_tab rfl rfl ?_)
  · refine ev_enter rfl rfl ?_
    repeat (first | exact ev_ret rfl rfl | refine ev_pure rfl rfl ?_ | refine ev_loc rfl rfl ?_ | refine ev_goto rfl ?_ | refine ev_heap rfl rfl ?_ | refine ev_cmT rfl (by first | rfl | decide) ?_ | refine ev_cmF rfl (by first | rfl | decide) ?_ | refine ev_ifT rfl (by first | rfl | decide) ?_ | refine ev_ifF rfl (by first | rfl | decide) ?_ | refine ev_ask rfl rfl (lx_copyAll _ (by decide) rfl rfl rfl rfl) ?_ | refine ev_bi rfl (fun _ => rfl) ?_ | refine ev_enter rfl rfl ?_ | (refine ev_askE rfl rfl ?_; apply Exists.intro; apply Exists.intro; apply And.intro) | refine ev_tab rfl rfl ?_)
set_option maxRecDepth 100000 in
set_option maxHeartbeats 4000000 in
theorem lx_k_told_5 : lx_like 124 225 [.int (nI 5)] := by
  apply Exists.intro
  apply Exists.intro
  apply Exists.intro
  apply And.intro
  · refine ev_enter rfl rfl ?_
    repeat (first | exact ev_ret rfl rfl | refine ev_pure rfl rfl ?_ | refine ev_loc rfl rfl ?_ | refine ev_goto rfl ?_ | refine ev_heap rfl rfl ?_ | refine ev_cmT rfl (by first | rfl | decide) ?_ | refine ev_cmF rfl (by first | rfl | decide) ?_ | refine ev_ifT rfl (by first | rfl | decide) ?_ | refine ev_ifF rfl (by first | rfl | decide) ?_ | refine ev_bi rfl (fun _ => rfl) ?_ | refine ev_enter rfl rfl ?_ | (refine ev_askE rfl rfl ?_; apply Exists.intro; apply Exists.intro; apply And.intro) | refine ev_tab rfl rfl ?_)
  · refine ev_enter rfl rfl ?_
    repeat (first | exact ev_ret rfl rfl | refine ev_pure rfl rfl ?_ | refine ev_loc rfl rfl ?_ | refine ev_goto rfl ?_ | refine ev_heap rfl rfl ?_ | refine ev_cmT rfl (by first | rfl | decide) ?_ | refine ev_cmF rfl (by first | rfl | decide) ?_ | refine ev_ifT rfl (by first | rfl | decide) ?_ | refine ev_ifF rfl (by first | rfl | decide) ?_ | refine ev_ask rfl rfl (lx_copyAll _ (by decide) rfl rfl rfl rfl) ?_ | refine ev_bi rfl (fun _ => rfl) ?_ | refine ev_enter rfl rfl ?_ | (refine ev_askE rfl rfl ?_; apply Exists.intro; apply Exists.intro; apply And.intro) | refine ev_tab rfl rfl ?_)
set_option maxRecDepth 100000 in
set_option maxHeartbeats 4000000 in
theorem lx_o_told (v : Int32) : lx_like 124 225 [.int v] := by
  by_cases h : decide (v < 1) = false ∧ decide (5 < v) = false
  · obtain ⟨j, h1, hj, rfl⟩ := lx_rng1 5 (by decide) h.1 h.2
    rcases (show j = 1 ∨ j = 2 ∨ j = 3 ∨ j = 4 ∨ j = 5 by omega) with rfl | rfl | rfl | rfl | rfl
    · exact lx_k_told_1
    · exact lx_k_told_2
    · exact lx_k_told_3
    · exact lx_k_told_4
    · exact lx_k_told_5
  · have h := lx_out h
    obtain ⟨w, hw⟩ := lx_merr_1 98
    refine ⟨-1000000001, lx_er 1, w, ?_, ?_⟩
    · refine ev_enter rfl rfl ?_
      repeat (first | exact ev_ret rfl rfl | refine ev_pure rfl rfl ?_ | refine ev_loc rfl rfl ?_ | refine ev_goto rfl ?_ | refine ev_heap rfl rfl ?_ | refine ev_cmT rfl (by first | rfl | decide) ?_ | refine ev_cmF rfl (by first | rfl | decide) ?_ | refine ev_ifT rfl (by first | rfl | decide) ?_ | refine ev_ifF rfl (by first | rfl | decide) ?_ | refine ev_ask rfl rfl (lx_within_f _ h) ?_ | refine ev_ask rfl rfl (lx_isSheet_f _ h) ?_ | refine ev_ask rfl rfl (lx_xerr_1 _) ?_ | refine ev_bi rfl (fun _ => rfl) ?_ | refine ev_enter rfl rfl ?_ | (refine ev_askE rfl rfl ?_; apply Exists.intro; apply Exists.intro; apply And.intro) | refine ev_tab rfl rfl ?_)
    · refine ev_enter rfl rfl ?_
      repeat (first | exact ev_ret rfl rfl | refine ev_pure rfl rfl ?_ | refine ev_loc rfl rfl ?_ | refine ev_goto rfl ?_ | refine ev_heap rfl rfl ?_ | refine ev_cmT rfl (by first | rfl | decide) ?_ | refine ev_cmF rfl (by first | rfl | decide) ?_ | refine ev_ifT rfl (by first | rfl | decide) ?_ | refine ev_ifF rfl (by first | rfl | decide) ?_ | refine ev_ask rfl rfl (hw) ?_ | refine ev_ask rfl rfl (lx_in_f _ h) ?_ | refine ev_ask rfl rfl (lx_misSheet_f _ h) ?_ | refine ev_bi rfl (fun _ => rfl) ?_ | refine ev_enter rfl rfl ?_ | (refine ev_askE rfl rfl ?_; apply Exists.intro; apply Exists.intro; apply And.intro) | refine ev_tab rfl rfl ?_)
