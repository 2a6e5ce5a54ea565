theorem lx_rep_set (n k : Nat) : (List.replicate n (0 : Int32)).set k (Int32.ofInt 0) = List.replicate n 0 := by
  rw [show Int32.ofInt 0 = 0 from rfl]
  apply List.ext_getElem?
  intro j
  rw [List.getElem?_set, List.getElem?_replicate, List.length_replicate]
  by_cases hk : k = j
  · subst hk
    by_cases h : k < n <;> simp [h]
  · simp [hk]
set_option maxRecDepth 100000 in
set_option maxHeartbeats 4000000 in
theorem lx_sx_0 {d : Nat} {B C : ab_C} {g b n : Int32} : ∀ (m i : Nat) (x : Int32), i + m = 40 → x = nI i → ev_Run tb [lx_above] [lx_above] d tb_m112 (98, [(5, .int x), (4, .int g), (0, .ref 0), (1, .int (nI 0)), (2, .int b), (3, .int n)], [], ((lx_w2.set 60 B).set 59 C), 0, 0) (some (.int 1), ((lx_w2.set 60 B).set 59 C))
  | 0, i, x, hi, hx => by
    subst hx
    have hi : i = 40 := by omega
    subst hi
    refine ev_loc rfl rfl ?_
    refine ev_pure rfl rfl ?_
    refine ev_cmT rfl (by decide) ?_
    refine ev_pure rfl rfl ?_
    exact ev_ret rfl rfl
  | m + 1, i, x, hi, hx => by
    subst hx
    have hlt : i < 40 := by omega
    refine ev_loc rfl rfl ?_
    refine ev_pure rfl rfl ?_
    refine ev_cmF rfl (decide_eq_false (by show ¬ (Int8.ofInt 40).toInt32 ≤ nI i; exact nI_ge (b := 40) hlt (by decide))) ?_
    refine ev_loc rfl rfl ?_
    refine ev_heap rfl rfl ?_
    refine ev_loc rfl rfl ?_
    refine ev_heap rfl rfl ?_
    refine ev_loc rfl rfl ?_
    refine ev_pure rfl rfl ?_
    have e : ((lx_w2.set 60 B).set 59 C).set 55 (.inr (.inl ((List.replicate 40 0).set (nI i).toNatClampNeg (Int32.ofInt 0)))) = ((lx_w2.set 60 B).set 59 C) := by
      rw [lx_rep_set]
      exact lx_set_id rfl
    refine ev_ast (xs := List.replicate 40 0) rfl rfl (lx_ix (by rw [List.length_replicate]; exact hlt) (by omega)) ?_
    rw [e]
    refine ev_loc rfl rfl ?_
    refine ev_goto rfl ?_
    exact lx_sx_0 m (i + 1) _ (by omega) (nI_1 i)
set_option maxRecDepth 100000 in
set_option maxHeartbeats 4000000 in
theorem lx_sm_0 {d : Nat} {B C B2 C2 : ab_C} {b n : Int32} : ∀ (m i : Nat) (x : Int32), i + m = 40 → x = nI i → ev_Run tb [lx_above] [lx_above] d tb_m213 (93, [(4, .int x), (0, .ref 63), (1, .int (nI 0)), (2, .int b), (3, .int n)], [], ((((lx_w2.set 60 B).set 59 C).set 76 B2).set 77 C2), 0, 0) (some (.int 1), ((((lx_w2.set 60 B).set 59 C).set 76 B2).set 77 C2))
  | 0, i, x, hi, hx => by
    subst hx
    have hi : i = 40 := by omega
    subst hi
    refine ev_loc rfl rfl ?_
    refine ev_pure rfl rfl ?_
    refine ev_cmT rfl (by decide) ?_
    refine ev_pure rfl rfl ?_
    exact ev_ret rfl rfl
  | m + 1, i, x, hi, hx => by
    subst hx
    have hlt : i < 40 := by omega
    refine ev_loc rfl rfl ?_
    refine ev_pure rfl rfl ?_
    refine ev_cmF rfl (decide_eq_false (by show ¬ (Int8.ofInt 40).toInt32 ≤ nI i; exact nI_ge (b := 40) hlt (by decide))) ?_
    refine ev_loc rfl rfl ?_
    refine ev_heap rfl rfl ?_
    refine ev_pure rfl rfl ?_
    refine ev_loc rfl rfl ?_
    refine ev_pure rfl rfl ?_
    refine ev_loc rfl rfl ?_
    refine ev_pure rfl rfl ?_
    have e0 : (Int8.ofInt 40).toInt32 * nI 0 + nI i = nI (0 + i) := by
      rw [show (Int8.ofInt 40).toInt32 * nI 0 = nI 0 by decide]
      exact nI_add 0 i
    dsimp only
    rw [e0]
    refine ev_pure rfl rfl ?_
    have e : ((((lx_w2.set 60 B).set 59 C).set 76 B2).set 77 C2).set 78 (.inr (.inl ((List.replicate 160 0).set (nI (0 + i)).toNatClampNeg (Int32.ofInt 0)))) = ((((lx_w2.set 60 B).set 59 C).set 76 B2).set 77 C2) := by
      rw [lx_rep_set]
      exact lx_set_id rfl
    refine ev_ast (xs := List.replicate 160 0) rfl rfl (lx_ix (by rw [List.length_replicate]; omega) (by omega)) ?_
    rw [e]
    refine ev_loc rfl rfl ?_
    refine ev_goto rfl ?_
    exact lx_sm_0 m (i + 1) _ (by omega) (nI_1 i)
set_option maxRecDepth 100000 in
set_option maxHeartbeats 4000000 in
theorem lx_sx_1 {d : Nat} {B C : ab_C} {g b n : Int32} : ∀ (m i : Nat) (x : Int32), i + m = 40 → x = nI i → ev_Run tb [lx_above] [lx_above] d tb_m112 (98, [(5, .int x), (4, .int g), (0, .ref 0), (1, .int (nI 1)), (2, .int b), (3, .int n)], [], ((lx_w2.set 60 B).set 59 C), 0, 0) (some (.int 1), ((lx_w2.set 60 B).set 59 C))
  | 0, i, x, hi, hx => by
    subst hx
    have hi : i = 40 := by omega
    subst hi
    refine ev_loc rfl rfl ?_
    refine ev_pure rfl rfl ?_
    refine ev_cmT rfl (by decide) ?_
    refine ev_pure rfl rfl ?_
    exact ev_ret rfl rfl
  | m + 1, i, x, hi, hx => by
    subst hx
    have hlt : i < 40 := by omega
    refine ev_loc rfl rfl ?_
    refine ev_pure rfl rfl ?_
    refine ev_cmF rfl (decide_eq_false (by show ¬ (Int8.ofInt 40).toInt32 ≤ nI i; exact nI_ge (b := 40) hlt (by decide))) ?_
    refine ev_loc rfl rfl ?_
    refine ev_heap rfl rfl ?_
    refine ev_loc rfl rfl ?_
    refine ev_heap rfl rfl ?_
    refine ev_loc rfl rfl ?_
    refine ev_pure rfl rfl ?_
    have e : ((lx_w2.set 60 B).set 59 C).set 56 (.inr (.inl ((List.replicate 40 0).set (nI i).toNatClampNeg (Int32.ofInt 0)))) = ((lx_w2.set 60 B).set 59 C) := by
      rw [lx_rep_set]
      exact lx_set_id rfl
    refine ev_ast (xs := List.replicate 40 0) rfl rfl (lx_ix (by rw [List.length_replicate]; exact hlt) (by omega)) ?_
    rw [e]
    refine ev_loc rfl rfl ?_
    refine ev_goto rfl ?_
    exact lx_sx_1 m (i + 1) _ (by omega) (nI_1 i)
set_option maxRecDepth 100000 in
set_option maxHeartbeats 4000000 in
theorem lx_sm_1 {d : Nat} {B C B2 C2 : ab_C} {b n : Int32} : ∀ (m i : Nat) (x : Int32), i + m = 40 → x = nI i → ev_Run tb [lx_above] [lx_above] d tb_m213 (93, [(4, .int x), (0, .ref 63), (1, .int (nI 1)), (2, .int b), (3, .int n)], [], ((((lx_w2.set 60 B).set 59 C).set 76 B2).set 77 C2), 0, 0) (some (.int 1), ((((lx_w2.set 60 B).set 59 C).set 76 B2).set 77 C2))
  | 0, i, x, hi, hx => by
    subst hx
    have hi : i = 40 := by omega
    subst hi
    refine ev_loc rfl rfl ?_
    refine ev_pure rfl rfl ?_
    refine ev_cmT rfl (by decide) ?_
    refine ev_pure rfl rfl ?_
    exact ev_ret rfl rfl
  | m + 1, i, x, hi, hx => by
    subst hx
    have hlt : i < 40 := by omega
    refine ev_loc rfl rfl ?_
    refine ev_pure rfl rfl ?_
    refine ev_cmF rfl (decide_eq_false (by show ¬ (Int8.ofInt 40).toInt32 ≤ nI i; exact nI_ge (b := 40) hlt (by decide))) ?_
    refine ev_loc rfl rfl ?_
    refine ev_heap rfl rfl ?_
    refine ev_pure rfl rfl ?_
    refine ev_loc rfl rfl ?_
    refine ev_pure rfl rfl ?_
    refine ev_loc rfl rfl ?_
    refine ev_pure rfl rfl ?_
    have e0 : (Int8.ofInt 40).toInt32 * nI 1 + nI i = nI (40 + i) := by
      rw [show (Int8.ofInt 40).toInt32 * nI 1 = nI 40 by decide]
      exact nI_add 40 i
    dsimp only
    rw [e0]
    refine ev_pure rfl rfl ?_
    have e : ((((lx_w2.set 60 B).set 59 C).set 76 B2).set 77 C2).set 78 (.inr (.inl ((List.replicate 160 0).set (nI (40 + i)).toNatClampNeg (Int32.ofInt 0)))) = ((((lx_w2.set 60 B).set 59 C).set 76 B2).set 77 C2) := by
      rw [lx_rep_set]
      exact lx_set_id rfl
    refine ev_ast (xs := List.replicate 160 0) rfl rfl (lx_ix (by rw [List.length_replicate]; omega) (by omega)) ?_
    rw [e]
    refine ev_loc rfl rfl ?_
    refine ev_goto rfl ?_
    exact lx_sm_1 m (i + 1) _ (by omega) (nI_1 i)
set_option maxRecDepth 100000 in
set_option maxHeartbeats 4000000 in
theorem lx_sx_2 {d : Nat} {B C : ab_C} {g b n : Int32} : ∀ (m i : Nat) (x : Int32), i + m = 40 → x = nI i → ev_Run tb [lx_above] [lx_above] d tb_m112 (98, [(5, .int x), (4, .int g), (0, .ref 0), (1, .int (nI 2)), (2, .int b), (3, .int n)], [], ((lx_w2.set 60 B).set 59 C), 0, 0) (some (.int 1), ((lx_w2.set 60 B).set 59 C))
  | 0, i, x, hi, hx => by
    subst hx
    have hi : i = 40 := by omega
    subst hi
    refine ev_loc rfl rfl ?_
    refine ev_pure rfl rfl ?_
    refine ev_cmT rfl (by decide) ?_
    refine ev_pure rfl rfl ?_
    exact ev_ret rfl rfl
  | m + 1, i, x, hi, hx => by
    subst hx
    have hlt : i < 40 := by omega
    refine ev_loc rfl rfl ?_
    refine ev_pure rfl rfl ?_
    refine ev_cmF rfl (decide_eq_false (by show ¬ (Int8.ofInt 40).toInt32 ≤ nI i; exact nI_ge (b := 40) hlt (by decide))) ?_
    refine ev_loc rfl rfl ?_
    refine ev_heap rfl rfl ?_
    refine ev_loc rfl rfl ?_
    refine ev_heap rfl rfl ?_
    refine ev_loc rfl rfl ?_
    refine ev_pure rfl rfl ?_
    have e : ((lx_w2.set 60 B).set 59 C).set 57 (.inr (.inl ((List.replicate 40 0).set (nI i).toNatClampNeg (Int32.ofInt 0)))) = ((lx_w2.set 60 B).set 59 C) := by
      rw [lx_rep_set]
      exact lx_set_id rfl
    refine ev_ast (xs := List.replicate 40 0) rfl rfl (lx_ix (by rw [List.length_replicate]; exact hlt) (by omega)) ?_
    rw [e]
    refine ev_loc rfl rfl ?_
    refine ev_goto rfl ?_
    exact lx_sx_2 m (i + 1) _ (by omega) (nI_1 i)
set_option maxRecDepth 100000 in
set_option maxHeartbeats 4000000 in
theorem lx_sm_2 {d : Nat} {B C B2 C2 : ab_C} {b n : Int32} : ∀ (m i : Nat) (x : Int32), i + m = 40 → x = nI i → ev_Run tb [lx_above] [lx_above] d tb_m213 (93, [(4, .int x), (0, .ref 63), (1, .int (nI 2)), (2, .int b), (3, .int n)], [], ((((lx_w2.set 60 B).set 59 C).set 76 B2).set 77 C2), 0, 0) (some (.int 1), ((((lx_w2.set 60 B).set 59 C).set 76 B2).set 77 C2))
  | 0, i, x, hi, hx => by
    subst hx
    have hi : i = 40 := by omega
    subst hi
    refine ev_loc rfl rfl ?_
    refine ev_pure rfl rfl ?_
    refine ev_cmT rfl (by decide) ?_
    refine ev_pure rfl rfl ?_
    exact ev_ret rfl rfl
  | m + 1, i, x, hi, hx => by
    subst hx
    have hlt : i < 40 := by omega
    refine ev_loc rfl rfl ?_
    refine ev_pure rfl rfl ?_
    refine ev_cmF rfl (decide_eq_false (by show ¬ (Int8.ofInt 40).toInt32 ≤ nI i; exact nI_ge (b := 40) hlt (by decide))) ?_
    refine ev_loc rfl rfl ?_
    refine ev_heap rfl rfl ?_
    refine ev_pure rfl rfl ?_
    refine ev_loc rfl rfl ?_
    refine ev_pure rfl rfl ?_
    refine ev_loc rfl rfl ?_
    refine ev_pure rfl rfl ?_
    have e0 : (Int8.ofInt 40).toInt32 * nI 2 + nI i = nI (80 + i) := by
      rw [show (Int8.ofInt 40).toInt32 * nI 2 = nI 80 by decide]
      exact nI_add 80 i
    dsimp only
    rw [e0]
    refine ev_pure rfl rfl ?_
    have e : ((((lx_w2.set 60 B).set 59 C).set 76 B2).set 77 C2).set 78 (.inr (.inl ((List.replicate 160 0).set (nI (80 + i)).toNatClampNeg (Int32.ofInt 0)))) = ((((lx_w2.set 60 B).set 59 C).set 76 B2).set 77 C2) := by
      rw [lx_rep_set]
      exact lx_set_id rfl
    refine ev_ast (xs := List.replicate 160 0) rfl rfl (lx_ix (by rw [List.length_replicate]; omega) (by omega)) ?_
    rw [e]
    refine ev_loc rfl rfl ?_
    refine ev_goto rfl ?_
    exact lx_sm_2 m (i + 1) _ (by omega) (nI_1 i)
set_option maxRecDepth 100000 in
set_option maxHeartbeats 4000000 in
theorem lx_sx_3 {d : Nat} {B C : ab_C} {g b n : Int32} : ∀ (m i : Nat) (x : Int32), i + m = 40 → x = nI i → ev_Run tb [lx_above] [lx_above] d tb_m112 (98, [(5, .int x), (4, .int g), (0, .ref 0), (1, .int (nI 3)), (2, .int b), (3, .int n)], [], ((lx_w2.set 60 B).set 59 C), 0, 0) (some (.int 1), ((lx_w2.set 60 B).set 59 C))
  | 0, i, x, hi, hx => by
    subst hx
    have hi : i = 40 := by omega
    subst hi
    refine ev_loc rfl rfl ?_
    refine ev_pure rfl rfl ?_
    refine ev_cmT rfl (by decide) ?_
    refine ev_pure rfl rfl ?_
    exact ev_ret rfl rfl
  | m + 1, i, x, hi, hx => by
    subst hx
    have hlt : i < 40 := by omega
    refine ev_loc rfl rfl ?_
    refine ev_pure rfl rfl ?_
    refine ev_cmF rfl (decide_eq_false (by show ¬ (Int8.ofInt 40).toInt32 ≤ nI i; exact nI_ge (b := 40) hlt (by decide))) ?_
    refine ev_loc rfl rfl ?_
    refine ev_heap rfl rfl ?_
    refine ev_loc rfl rfl ?_
    refine ev_heap rfl rfl ?_
    refine ev_loc rfl rfl ?_
    refine ev_pure rfl rfl ?_
    have e : ((lx_w2.set 60 B).set 59 C).set 58 (.inr (.inl ((List.replicate 40 0).set (nI i).toNatClampNeg (Int32.ofInt 0)))) = ((lx_w2.set 60 B).set 59 C) := by
      rw [lx_rep_set]
      exact lx_set_id rfl
    refine ev_ast (xs := List.replicate 40 0) rfl rfl (lx_ix (by rw [List.length_replicate]; exact hlt) (by omega)) ?_
    rw [e]
    refine ev_loc rfl rfl ?_
    refine ev_goto rfl ?_
    exact lx_sx_3 m (i + 1) _ (by omega) (nI_1 i)
set_option maxRecDepth 100000 in
set_option maxHeartbeats 4000000 in
theorem lx_sm_3 {d : Nat} {B C B2 C2 : ab_C} {b n : Int32} : ∀ (m i : Nat) (x : Int32), i + m = 40 → x = nI i → ev_Run tb [lx_above] [lx_above] d tb_m213 (93, [(4, .int x), (0, .ref 63), (1, .int (nI 3)), (2, .int b), (3, .int n)], [], ((((lx_w2.set 60 B).set 59 C).set 76 B2).set 77 C2), 0, 0) (some (.int 1), ((((lx_w2.set 60 B).set 59 C).set 76 B2).set 77 C2))
  | 0, i, x, hi, hx => by
    subst hx
    have hi : i = 40 := by omega
    subst hi
    refine ev_loc rfl rfl ?_
    refine ev_pure rfl rfl ?_
    refine ev_cmT rfl (by decide) ?_
    refine ev_pure rfl rfl ?_
    exact ev_ret rfl rfl
  | m + 1, i, x, hi, hx => by
    subst hx
    have hlt : i < 40 := by omega
    refine ev_loc rfl rfl ?_
    refine ev_pure rfl rfl ?_
    refine ev_cmF rfl (decide_eq_false (by show ¬ (Int8.ofInt 40).toInt32 ≤ nI i; exact nI_ge (b := 40) hlt (by decide))) ?_
    refine ev_loc rfl rfl ?_
    refine ev_heap rfl rfl ?_
    refine ev_pure rfl rfl ?_
    refine ev_loc rfl rfl ?_
    refine ev_pure rfl rfl ?_
    refine ev_loc rfl rfl ?_
    refine ev_pure rfl rfl ?_
    have e0 : (Int8.ofInt 40).toInt32 * nI 3 + nI i = nI (120 + i) := by
      rw [show (Int8.ofInt 40).toInt32 * nI 3 = nI 120 by decide]
      exact nI_add 120 i
    dsimp only
    rw [e0]
    refine ev_pure rfl rfl ?_
    have e : ((((lx_w2.set 60 B).set 59 C).set 76 B2).set 77 C2).set 78 (.inr (.inl ((List.replicate 160 0).set (nI (120 + i)).toNatClampNeg (Int32.ofInt 0)))) = ((((lx_w2.set 60 B).set 59 C).set 76 B2).set 77 C2) := by
      rw [lx_rep_set]
      exact lx_set_id rfl
    refine ev_ast (xs := List.replicate 160 0) rfl rfl (lx_ix (by rw [List.length_replicate]; omega) (by omega)) ?_
    rw [e]
    refine ev_loc rfl rfl ?_
    refine ev_goto rfl ?_
    exact lx_sm_3 m (i + 1) _ (by omega) (nI_1 i)
