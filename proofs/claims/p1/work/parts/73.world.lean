/-! THE WORLD behind the two constructors, by program (wip/gen/world.py) -/
def lx_w1 : ab_W := [.inl (11, [.ref 1, .ref 9, .ref 22, .ref 35, .int 0, .ref 48, .ref 51, .ref 53, .ref 54, .ref 59, .ref 60, .ref 61, .ref 62]),
  .inr (.inr (0, [some 2, some 3, some 4, some 5, some 6, some 7, some 8])),
  .inl (0, []),
  .inl (1, []),
  .inl (2, []),
  .inl (3, []),
  .inl (4, []),
  .inl (5, []),
  .inl (6, []),
  .inl (7, [.ref 1, .int 0, .ref 10, .ref 11, .ref 12, .ref 13, .int 0, .int 0, .int 1, .int 50, .int 0, .ref 14, .ref 17, .ref 20, .int 0, .ref 21, .int 0, .int 1]),
  .inr (.inl (List.replicate 8 0)),
  .inr (.inl (List.replicate 8 0)),
  .inr (.inl (List.replicate 8 0)),
  .inr (.inl (List.replicate 8 0)),
  .inl (8, [.ref 15, .ref 16, .int 0]),
  .inr (.inl (List.replicate 50 0)),
  .inr (.inl (List.replicate 50 0)),
  .inl (8, [.ref 18, .ref 19, .int 0]),
  .inr (.inl (List.replicate 50 0)),
  .inr (.inl (List.replicate 50 0)),
  .inr (.inl (List.replicate 50 0)),
  .inr (.inl (List.replicate 20 0)),
  .inl (7, [.ref 1, .int 0, .ref 23, .ref 24, .ref 25, .ref 26, .int 0, .int 0, .int 1, .int 50, .int 0, .ref 27, .ref 30, .ref 33, .int 0, .ref 34, .int 0, .int 1]),
  .inr (.inl (List.replicate 8 0)),
  .inr (.inl (List.replicate 8 0)),
  .inr (.inl (List.replicate 8 0)),
  .inr (.inl (List.replicate 8 0)),
  .inl (8, [.ref 28, .ref 29, .int 0]),
  .inr (.inl (List.replicate 50 0)),
  .inr (.inl (List.replicate 50 0)),
  .inl (8, [.ref 31, .ref 32, .int 0]),
  .inr (.inl (List.replicate 50 0)),
  .inr (.inl (List.replicate 50 0)),
  .inr (.inl (List.replicate 50 0)),
  .inr (.inl (List.replicate 20 0)),
  .inl (7, [.ref 1, .int 0, .ref 36, .ref 37, .ref 38, .ref 39, .int 0, .int 0, .int 1, .int 50, .int 0, .ref 40, .ref 43, .ref 46, .int 0, .ref 47, .int 0, .int 1]),
  .inr (.inl (List.replicate 8 0)),
  .inr (.inl (List.replicate 8 0)),
  .inr (.inl (List.replicate 8 0)),
  .inr (.inl (List.replicate 8 0)),
  .inl (8, [.ref 41, .ref 42, .int 0]),
  .inr (.inl (List.replicate 50 0)),
  .inr (.inl (List.replicate 50 0)),
  .inl (8, [.ref 44, .ref 45, .int 0]),
  .inr (.inl (List.replicate 50 0)),
  .inr (.inl (List.replicate 50 0)),
  .inr (.inl (List.replicate 50 0)),
  .inr (.inl (List.replicate 20 0)),
  .inl (9, [.ref 49, .int 0, .ref 1000100, .int 0, .int 0, .ref 50, .int 0]),
  .inr (.inl []),
  .inr (.inl (List.replicate 50 0)),
  .inl (10, [.ref 52, .int 0, .int 0, .int 0]),
  .inr (.inl (List.replicate 40 0)),
  .inr (.inl [0, 0, 0, 0, 0, 0]),
  .inr (.inr (1, [some 55, some 56, some 57, some 58])),
  .inr (.inl (List.replicate 40 0)),
  .inr (.inl (List.replicate 40 0)),
  .inr (.inl (List.replicate 40 0)),
  .inr (.inl (List.replicate 40 0)),
  .inr (.inl [0, 0, 0, 0]),
  .inr (.inl [0, 0, 0, 0]),
  .inr (.inl [0, 0, 0, 0, 0]),
  .inr (.inl [0, 0, 0, 0, 0])]
def lx_w2 : ab_W := [.inl (11, [.ref 1, .ref 9, .ref 22, .ref 35, .int 0, .ref 48, .ref 51, .ref 53, .ref 54, .ref 59, .ref 60, .ref 61, .ref 62]),
  .inr (.inr (0, [some 2, some 3, some 4, some 5, some 6, some 7, some 8])),
  .inl (0, []),
  .inl (1, []),
  .inl (2, []),
  .inl (3, []),
  .inl (4, []),
  .inl (5, []),
  .inl (6, []),
  .inl (7, [.ref 1, .int 0, .ref 10, .ref 11, .ref 12, .ref 13, .int 0, .int 0, .int 1, .int 50, .int 0, .ref 14, .ref 17, .ref 20, .int 0, .ref 21, .int 0, .int 1]),
  .inr (.inl (List.replicate 8 0)),
  .inr (.inl (List.replicate 8 0)),
  .inr (.inl (List.replicate 8 0)),
  .inr (.inl (List.replicate 8 0)),
  .inl (8, [.ref 15, .ref 16, .int 0]),
  .inr (.inl (List.replicate 50 0)),
  .inr (.inl (List.replicate 50 0)),
  .inl (8, [.ref 18, .ref 19, .int 0]),
  .inr (.inl (List.replicate 50 0)),
  .inr (.inl (List.replicate 50 0)),
  .inr (.inl (List.replicate 50 0)),
  .inr (.inl (List.replicate 20 0)),
  .inl (7, [.ref 1, .int 0, .ref 23, .ref 24, .ref 25, .ref 26, .int 0, .int 0, .int 1, .int 50, .int 0, .ref 27, .ref 30, .ref 33, .int 0, .ref 34, .int 0, .int 1]),
  .inr (.inl (List.replicate 8 0)),
  .inr (.inl (List.replicate 8 0)),
  .inr (.inl (List.replicate 8 0)),
  .inr (.inl (List.replicate 8 0)),
  .inl (8, [.ref 28, .ref 29, .int 0]),
  .inr (.inl (List.replicate 50 0)),
  .inr (.inl (List.replicate 50 0)),
  .inl (8, [.ref 31, .ref 32, .int 0]),
  .inr (.inl (List.replicate 50 0)),
  .inr (.inl (List.replicate 50 0)),
  .inr (.inl (List.replicate 50 0)),
  .inr (.inl (List.replicate 20 0)),
  .inl (7, [.ref 1, .int 0, .ref 36, .ref 37, .ref 38, .ref 39, .int 0, .int 0, .int 1, .int 50, .int 0, .ref 40, .ref 43, .ref 46, .int 0, .ref 47, .int 0, .int 1]),
  .inr (.inl (List.replicate 8 0)),
  .inr (.inl (List.replicate 8 0)),
  .inr (.inl (List.replicate 8 0)),
  .inr (.inl (List.replicate 8 0)),
  .inl (8, [.ref 41, .ref 42, .int 0]),
  .inr (.inl (List.replicate 50 0)),
  .inr (.inl (List.replicate 50 0)),
  .inl (8, [.ref 44, .ref 45, .int 0]),
  .inr (.inl (List.replicate 50 0)),
  .inr (.inl (List.replicate 50 0)),
  .inr (.inl (List.replicate 50 0)),
  .inr (.inl (List.replicate 20 0)),
  .inl (9, [.ref 49, .int 0, .ref 1000100, .int 0, .int 0, .ref 50, .int 0]),
  .inr (.inl []),
  .inr (.inl (List.replicate 50 0)),
  .inl (10, [.ref 52, .int 0, .int 0, .int 0]),
  .inr (.inl (List.replicate 40 0)),
  .inr (.inl [0, 0, 0, 0, 0, 0]),
  .inr (.inr (1, [some 55, some 56, some 57, some 58])),
  .inr (.inl (List.replicate 40 0)),
  .inr (.inl (List.replicate 40 0)),
  .inr (.inl (List.replicate 40 0)),
  .inr (.inl (List.replicate 40 0)),
  .inr (.inl [0, 0, 0, 0]),
  .inr (.inl [0, 0, 0, 0]),
  .inr (.inl [0, 0, 0, 0, 0]),
  .inr (.inl [0, 0, 0, 0, 0]),
  .inl (12, [.ref 64, .ref 65, .ref 66, .int 0, .ref 67, .ref 68, .ref 69, .ref 70, .ref 71, .int 0, .int 0, .int 0, .int 0, .int 0, .ref 72, .ref 73, .int 0, .ref 74, .int 0, .int 0, .ref 75, .int 0, .ref 76, .ref 77, .ref 78]),
  .inr (.inl (0 :: 1 :: 0 :: 1 :: 50 :: List.replicate 322 0)),
  .inr (.inl (List.replicate 327 0)),
  .inr (.inl (List.replicate 327 0)),
  .inr (.inl [0, 0, 0, 0, 0, 0]),
  .inr (.inl (List.replicate 50 0)),
  .inr (.inl (List.replicate 50 0)),
  .inr (.inl [0, 0, 0]),
  .inr (.inl (List.replicate 50 0)),
  .inr (.inl [0, 0, 0, 0, 0]),
  .inr (.inl [0, 0, 0, 0, 0]),
  .inr (.inl (List.replicate 625 0)),
  .inr (.inl (List.replicate 40 0)),
  .inr (.inl [0, 0, 0, 0]),
  .inr (.inl [0, 0, 0, 0]),
  .inr (.inl (List.replicate 160 0))]
def ab_eqc (a b : ab_C) : Bool := match a, b with
  | .inl o, .inl p => decide (o = p)
  | .inr (.inl x), .inr (.inl y) => decide (x = y)
  | .inr (.inr t), .inr (.inr u) => decide (t = u)
  | _, _ => false
theorem ab_eqc_of {a b : ab_C} (h : ab_eqc a b = true) : a = b := by
  unfold ab_eqc at h
  split at h
  · rw [of_decide_eq_true h]
  · rw [of_decide_eq_true h]
  · rw [of_decide_eq_true h]
  · cases h
def ab_eqw : ab_W → ab_W → Bool
  | [], [] => true
  | a :: l, b :: m => ab_eqc a b && ab_eqw l m
  | _, _ => false
theorem ab_eqw_of : ∀ {l m : ab_W}, ab_eqw l m = true → l = m
  | [], [], _ => rfl
  | a :: l, b :: m, h => by
    simp only [ab_eqw, Bool.and_eq_true] at h
    rw [ab_eqc_of h.1, ab_eqw_of h.2]
  | [], _ :: _, h => by cases h
  | _ :: _, [], h => by cases h
def ab_eqr (x : Option ab_R) (v : Option Value) (w : ab_W) : Bool := match x with
  | some r => decide (r.1 = v) && ab_eqw r.2 w
  | none => false
theorem ab_eqr_of {x : Option ab_R} {v : Option Value} {w : ab_W} (h : ab_eqr x v w = true) : x = some (v, w) := by
  unfold ab_eqr at h
  split at h
  · rename_i r
    rw [Bool.and_eq_true] at h
    rw [← ab_eqw_of h.2, ← of_decide_eq_true h.1]
  · cases h
theorem ab_new_mk {tb : ab_TB} {M : ab_M} {lk i cn sn : Nat} {L : ab_Lo} {st : List Value} {w : ab_W} {q : ab_N} {fs : List Value} (h1 : ab_nth tb.2.2.2.1 lk = some q) (h2 : ab_nth tb.2.2.2.2.2.2 q.2.2.1 = some fs) (h3 : (ab_wf L st w && Nat.ble (cn + 1) M.2.2.2.2.1 && Nat.ble (sn + fs.length) M.2.2.2.2.2.1) = true) : ab_new tb M (.new i) lk L st w cn sn = some (.ref w.length :: st, w ++ [.inl (q.2.2.1, fs)], cn + 1, sn + fs.length) := by
  simp only [ab_new, h1, h2, h3, cond_true]
set_option maxRecDepth 100000 in
theorem lx_i1 : ab_call tb [lx_above] 3000 20 73 [.ref 0] [.inl (11, [.null, .null, .null, .null, .int 0, .null, .null, .null, .null, .null, .null, .null, .null])] = some (none, lx_w1) := ab_eqr_of (by decide +kernel)
set_option maxRecDepth 100000 in
theorem lx_i2 : ab_call tb [lx_above] 3000 20 125 [.ref 63] (lx_w1 ++ [.inl (12, [.null, .null, .null, .int 0, .null, .null, .null, .null, .null, .int 0, .int 0, .int 0, .int 0, .int 0, .null, .null, .int 0, .null, .int 0, .int 0, .null, .int 0, .null, .null, .null])]) = some (none, lx_w2) := ab_eqr_of (by decide +kernel)
def lx_L : ab_Lo := [(3, .int 0), (2, .ref 63), (1, .ref 0), (0, .ref (ab_B + 1))]
set_option maxRecDepth 100000 in
set_option maxHeartbeats 4000000 in
theorem lx_pre {xs : List Int32} {r : ab_R} (k : ev_Run tb [lx_above] [lx_above, xs] lx_d tb_mL (18, lx_L, [], lx_w2, 79, 3295) r) : ev_Run tb [lx_above] [lx_above, xs] lx_d tb_mL (0, [(0, .ref (ab_B + 1))], [], [], 0, 0) r := by
  refine ev_new rfl rfl ?_
  refine ev_pure rfl rfl ?_
  refine ev_call rfl (fun _ => rfl) (ev_closed lx_i1 (by decide)) ?_
  refine ev_loc rfl rfl ?_
  refine ev_new rfl (ab_new_mk rfl rfl (by decide +kernel)) ?_
  refine ev_pure rfl rfl ?_
  refine ev_call rfl (fun _ => rfl) (ev_closed lx_i2 (by decide)) ?_
  refine ev_loc rfl rfl ?_
  refine ev_pure rfl rfl ?_
  refine ev_loc rfl rfl ?_
  exact k
