/-! READING a text: rank by rank -/
def qL (f : PS → PT) (tp : Nat → Int32) (e rk : Nat) : Nat → PS → PT
  | 0, s => .inr s
  | m + 1, s => if jn2 rk (pk tp e s.1) = true then (match f (s.1 + 1, s.2) with
    | .inl x => .inl x
    | .inr s' => qL f tp e rk m (s'.1, wrC s'.2 (-(pk tp e s.1)))) else .inr s
theorem qL_no {f : PS → PT} {tp : Nat → Int32} {e rk m p : Nat} {s : Nat × (Nat → Int32)} (h : ¬ jn2 rk (pk tp e p) = true) : qL f tp e rk (m + 1) (p, s) = .inr (p, s) := by
  show (if _ then _ else _) = _
  rw [if_neg h]
theorem qL_inl {f : PS → PT} {tp : Nat → Int32} {e rk m p x : Nat} {s : Nat × (Nat → Int32)} (h : jn2 rk (pk tp e p) = true) (hf : f (p + 1, s) = .inl x) : qL f tp e rk (m + 1) (p, s) = .inl x := by
  show (if _ then _ else _) = _
  rw [if_pos h]
  show (match f (p + 1, s) with | .inl x => _ | .inr s' => _) = _
  rw [hf]
theorem qL_inr {f : PS → PT} {tp : Nat → Int32} {e rk m p : Nat} {s : Nat × (Nat → Int32)} {s' : PS} (h : jn2 rk (pk tp e p) = true) (hf : f (p + 1, s) = .inr s') : qL f tp e rk (m + 1) (p, s) = qL f tp e rk m (s'.1, wrC s'.2 (-(pk tp e p))) := by
  show (if _ then _ else _) = _
  rw [if_pos h]
  show (match f (p + 1, s) with | .inl x => _ | .inr s' => _) = _
  rw [hf]
def nmQ (u : Nat) (b : Int32) : Int32 := if b < 0 then -1 else nmI u (nN b)
def qP (tp : Nat → Int32) (e u : Nat) (f : Nat → Nat → PS → PT) (op : Nat) (s : PS) : PT :=
  if dg (pk tp e s.1) = true then .inr ((pNum tp e 4 s.1 (nI 0)).1, wrC s.2 (pNum tp e 4 s.1 (nI 0)).2)
  else if ¬ nmQ u (pk tp e s.1) < 0 then .inr (s.1 + 1, wrC s.2 (-1 - nmQ u (pk tp e s.1)))
  else if pk tp e s.1 = nI 33 ∧ op < 5 then (match f 5 (op + 1) (s.1 + 1, s.2) with
    | .inl x => .inl x
    | .inr s' => .inr (s'.1, wrC s'.2 (-33)))
  else if pk tp e s.1 = nI 40 ∧ op < 5 then (match f 0 (op + 1) (s.1 + 1, s.2) with
    | .inl x => .inl x
    | .inr s' => if pk tp e s'.1 = nI 41 then .inr (s'.1 + 1, s'.2) else .inl s'.1)
  else .inl s.1
def qR (tp : Nat → Int32) (e : Nat) (f : Nat → Nat → PS → PT) (rk op : Nat) (s : PS) : PT := match f (rk + 1) op s with
  | .inl x => .inl x
  | .inr s' => qL (f (rk + 1) op) tp e rk (if rk = 2 then 1 else 50) s'
def qSt (tp : Nat → Int32) (e u : Nat) (f : Nat → Nat → PS → PT) (rk op : Nat) (s : PS) : PT := if rk < 5 then qR tp e f rk op s else qP tp e u f op s
def itF {α : Type} (f : α → α) (a : α) : Nat → α
  | 0 => a
  | n + 1 => f (itF f a n)
theorem itF_succ {α : Type} {f : α → α} {a : α} {n : Nat} : itF f a (n + 1) = f (itF f a n) := rfl
def qq (tp : Nat → Int32) (e u F : Nat) : Nat → Nat → PS → PT := itF (qSt tp e u) (fun _ _ s => .inl s.1) F
theorem qq_R {tp : Nat → Int32} {e u F rk op : Nat} {s : PS} (h : rk < 5) : qq tp e u (F + 1) rk op s = qR tp e (qq tp e u F) rk op s := by
  unfold qq
  rw [itF_succ]
  exact if_pos h
theorem qq_P {tp : Nat → Int32} {e u F op : Nat} {s : PS} : qq tp e u (F + 1) 5 op s = qP tp e u (qq tp e u F) op s := by
  unfold qq
  rw [itF_succ]
  exact if_neg (by omega)
def PQ (X Z : Nat → Nat → Int32) (u e : Nat) (t : PT) : ab_R → Prop := fun r => match t with
  | .inl f => ∃ s' : Nat × (Nat → Int32), s'.1 ≤ 50 ∧ f ≤ e ∧ r = (none, Wd X (RZ Z u e f true s'))
  | .inr s => s.1 ≤ e ∧ s.2.1 ≤ 50 ∧ r = (none, Wd X (RZ Z u e s.1 false s.2))
theorem PQ_inl {X Z : Nat → Nat → Int32} {u e f : Nat} {t : PT} {s' : Nat × (Nat → Int32)} (ht : t = .inl f) (h1 : s'.1 ≤ 50) (h2 : f ≤ e) : PQ X Z u e t (none, Wd X (RZ Z u e f true s')) := by
  subst ht
  exact ⟨s', h1, h2, rfl⟩
theorem PQ_inr {X Z : Nat → Nat → Int32} {u e p : Nat} {t : PT} {s : Nat × (Nat → Int32)} (ht : t = .inr (p, s)) (h1 : p ≤ e) (h2 : s.1 ≤ 50) : PQ X Z u e t (none, Wd X (RZ Z u e p false s)) := by
  subst ht
  exact ⟨h1, h2, rfl⟩
theorem jn_bad {rk : Nat} (h : rk < 5) : jn2 rk (-1) = false := by
  rcases lt5 h with rfl | rfl | rfl | rfl | rfl <;> decide +kernel
theorem jn_lt {tp : Nat → Int32} {e p rk : Nat} (hr : rk < 5) (h : jn2 rk (pk tp e p) = true) : p + 1 ≤ e := by
  rcases Nat.lt_or_ge p e with c | c
  · omega
  · unfold pk at h
    rw [if_neg (by omega), jn_bad hr] at h
    cases h
theorem pkq_lt {tp : Nat → Int32} {e p : Nat} {b : Int32} (h : pk tp e p = b) (hb : ¬ b = -1) : p + 1 ≤ e := by
  rcases Nat.lt_or_ge p e with c | c
  · omega
  · unfold pk at h
    rw [if_neg (by omega)] at h
    exact absurd h.symm hb
theorem pNum_le {tp : Nat → Int32} {e : Nat} : ∀ (m p : Nat) (v : Int32), p ≤ e → (pNum tp e m p v).1 ≤ e
  | 0, p, v, h => h
  | m + 1, p, v, h => by
    show (if _ then _ else _ : Nat × Int32).1 ≤ e
    split
    · rename_i c
      exact pNum_le m _ _ (dg_lt c)
    · exact h
theorem pk_isN {tp : Nat → Int32} {e p : Nat} (ht : ∀ k, isN (tp k) 255) (h : ¬ pk tp e p < 0) : (∃ b, b ≤ 255 ∧ pk tp e p = nI b) ∧ p + 1 ≤ e := by
  unfold pk at h ⊢
  split
  · rename_i c
    exact ⟨⟨nN (tp p), (ht p).2, (ht p).1⟩, by omega⟩
  · rename_i c
    rw [if_neg c] at h
    exact absurd (by decide +kernel) h
set_option maxRecDepth 100000 in
set_option maxHeartbeats 4000000 in
theorem l_q_bad (d : Nat) (X Z : Nat → Nat → Int32) {u e : Nat} {rk op p : Nat} {s : Nat × (Nat → Int32)} (hrk : rk < 5) (he50 : e ≤ 50) (hpe : p ≤ e) (hs : s.1 ≤ 50) (y x : Int32) : ER (d + 2) tb_m62 34 [(0, .ref 48), (1, .int (nI rk)), (2, .int (nI op)), (3, .int y), (4, .int x)] [] (Wd X (RZ Z u e p true s)) (PQ X Z u e (.inl p)) := by
  refine er_loc (pc' := 36) rfl rfl rfl ?_
  refine er_loc (pc' := 37) rfl rfl rfl ?_
  refine er_cm_ge (pc' := 40) rfl rfl (fun h37 => ?_) (fun h37 => ?_)
  · refine er_vret rfl rfl ?_
    exact PQ_inl rfl hs hpe
  · refine er_loc (pc' := 41) rfl rfl rfl ?_
    refine er_loc (pc' := 42) rfl rfl rfl ?_
    refine er_cIi (pc' := 45) (rest := [_]) 9 rfl rfl rfl rfl rfl rfl (l_ahead _ _ _ he50 hpe) ?_
    rw [show ahd (X 20) e p true = -1 from rfl]
    refine er_cSi (pc' := 48) (rest := []) rfl rfl rfl (l_joins _ rk hrk _ _) ?_
    rw [jn_bad hrk]
    refine er_if_eqT rfl (rfl) ?_
    refine er_vret rfl rfl ?_
    exact PQ_inl rfl hs hpe
set_option maxRecDepth 100000 in
set_option maxHeartbeats 4000000 in
theorem l_q_loop (d : Nat) (X Z : Nat → Nat → Int32) {u e : Nat} {rk op most : Nat} {f : PS → PT} (hrk : rk < 5) (he50 : e ≤ 50) (hmo : most ≤ 50) (H : ∀ (p : Nat) (s : Nat × (Nat → Int32)), p ≤ e → s.1 ≤ 50 → EC (d + 2) 62 [.ref 48, .int (nI (rk + 1)), .int (nI op)] (Wd X (RZ Z u e p false s)) (PQ X Z u e (f (p, s)))) : ∀ (m i p : Nat) (s : Nat × (Nat → Int32)) (x : Int32), i + m = most → x = nI i → p ≤ e → s.1 ≤ 50 → ER (d + 2) tb_m62 34 [(0, .ref 48), (1, .int (nI rk)), (2, .int (nI op)), (3, .int (nI most)), (4, .int x)] [] (Wd X (RZ Z u e p false s)) (PQ X Z u e (qL f (X 20) e rk m (p, s)))
  | 0, i, p, s, x, hi, hx, hpe, hs => by
    have hi0 : i = most := by omega
    subst hx
    subst hi0
    refine er_loc (pc' := 36) rfl rfl rfl ?_
    refine er_loc (pc' := 37) rfl rfl rfl ?_
    refine er_cm_geT rfl (nI_nlt (by omega) (by omega)) ?_
    refine er_vret rfl rfl ?_
    exact PQ_inr rfl hpe hs
  | m + 1, i, p, s, x, hi, hx, hpe, hs => by
    subst hx
    refine er_loc (pc' := 36) rfl rfl rfl ?_
    refine er_loc (pc' := 37) rfl rfl rfl ?_
    refine er_cm_geF (pc' := 40) rfl (nI_lt (by omega) (by omega)) rfl ?_
    refine er_loc (pc' := 41) rfl rfl rfl ?_
    refine er_loc (pc' := 42) rfl rfl rfl ?_
    refine er_cIi (pc' := 45) (rest := [_]) 9 rfl rfl rfl rfl rfl rfl (l_ahead _ _ _ he50 hpe) ?_
    rw [show ahd (X 20) e p false = pk (X 20) e p from rfl]
    refine er_cSi (pc' := 48) (rest := []) rfl rfl rfl (l_joins _ rk hrk _ _) ?_
    refine er_if_eqb (pc' := 51) rfl rfl (fun h48 => ?_) (fun h48 => ?_)
    · refine er_vret rfl rfl ?_
      exact PQ_inr (qL_no (by rw [h48]; decide)) hpe hs
    · refine er_loc (pc' := 52) rfl rfl rfl ?_
      refine er_cIi (pc' := 55) (rest := []) 9 rfl rfl rfl rfl rfl rfl (l_ahead _ _ _ he50 hpe) ?_
      rw [show ahd (X 20) e p false = pk (X 20) e p from rfl]
      refine er_loc (pc' := 57) (L' := [(5, _), (0, _), (1, _), (2, _), (3, _), (4, _)]) rfl rfl rfl ?_
      refine er_loc (pc' := 58) rfl rfl rfl ?_
      refine er_pure (pc' := 59) rfl rfl rfl ?_
      refine er_gf (pc' := 62) (.int (nI p)) rfl rfl rfl rfl rfl ?_
      refine er_k (pc' := 63) (nI 1) rfl rfl rfl ?_
      refine er_iadd (pc' := 64) rfl rfl ?_
      rw [nI_add]
      refine er_pfIZ (pc' := 67) 3 rfl rfl rfl rfl rfl rfl ?_
      rw [RZ_p]
      refine er_loc (pc' := 68) rfl rfl rfl ?_
      refine er_loc (pc' := 69) rfl rfl rfl ?_
      refine er_k (pc' := 70) (nI 1) rfl rfl rfl ?_
      refine er_iadd (pc' := 71) rfl rfl ?_
      rw [nI_add]
      refine er_loc (pc' := 72) rfl rfl rfl ?_
      refine er_cS (pc' := 75) (rest := []) rfl rfl rfl (H (p + 1) s (jn_lt hrk h48) hs) (fun r hr => ?_)
      cases hf : f (p + 1, s) with
      | inl y =>
        rw [hf] at hr
        obtain ⟨s', g1, g2, rfl⟩ := hr
        change ER _ _ _ _ [] (Wd X (RZ Z u e y true s')) _
        rw [qL_inl h48 hf]
        refine er_loc (pc' := 76) rfl rfl rfl ?_
        refine er_loc (pc' := 78) rfl rfl rfl ?_
        refine er_ineg (pc' := 79) rfl rfl ?_
        refine er_cIn (pc' := 82) (rest := []) 9 rfl rfl rfl rfl rfl rfl (l_write _ _ _ g1 _) ?_
        refine er_loc (pc' := 85) (L' := [(4, .int (_ + nI 1)), (5, _), (0, _), (1, _), (2, _), (3, _)]) rfl rfl rfl ?_
        refine er_goto rfl ?_
        refine ER_loc [(0, _), (1, _), (2, _), (3, _), (4, _)] rfl (List.forall_mem_cons.mpr ⟨rfl, List.forall_mem_cons.mpr ⟨rfl, List.forall_mem_cons.mpr ⟨rfl, List.forall_mem_cons.mpr ⟨rfl, List.forall_mem_cons.mpr ⟨rfl, fun _ h => absurd h List.not_mem_nil⟩⟩⟩⟩⟩) rfl rfl ?_
        exact l_q_bad d X Z hrk he50 g2 (wrC_le g1) _ _
      | inr s' =>
        rw [hf] at hr
        obtain ⟨g1, g2, rfl⟩ := hr
        change ER _ _ _ _ [] (Wd X (RZ Z u e s'.1 false s'.2)) _
        rw [qL_inr h48 hf]
        refine er_loc (pc' := 76) rfl rfl rfl ?_
        refine er_loc (pc' := 78) rfl rfl rfl ?_
        refine er_ineg (pc' := 79) rfl rfl ?_
        refine er_cIn (pc' := 82) (rest := []) 9 rfl rfl rfl rfl rfl rfl (l_write _ _ _ g2 _) ?_
        refine er_loc (pc' := 85) (L' := [(4, .int (_ + nI 1)), (5, _), (0, _), (1, _), (2, _), (3, _)]) rfl rfl rfl ?_
        refine er_goto rfl ?_
        refine ER_loc [(0, _), (1, _), (2, _), (3, _), (4, _)] rfl (List.forall_mem_cons.mpr ⟨rfl, List.forall_mem_cons.mpr ⟨rfl, List.forall_mem_cons.mpr ⟨rfl, List.forall_mem_cons.mpr ⟨rfl, List.forall_mem_cons.mpr ⟨rfl, fun _ h => absurd h List.not_mem_nil⟩⟩⟩⟩⟩) rfl rfl ?_
        exact l_q_loop d X Z hrk he50 hmo H m (i + 1) s'.1 _ _ (by omega) (nI_add i 1) g1 (wrC_le g2)
set_option maxRecDepth 100000 in
set_option maxHeartbeats 4000000 in
theorem l_q_rank (d : Nat) (X Z : Nat → Nat → Int32) {u e : Nat} {rk op p : Nat} {f : Nat → Nat → PS → PT} {s : Nat × (Nat → Int32)} (hrk : rk < 5) (he50 : e ≤ 50) (hpe : p ≤ e) (hs : s.1 ≤ 50) (H : ∀ (p : Nat) (s : Nat × (Nat → Int32)), p ≤ e → s.1 ≤ 50 → EC (d + 2) 62 [.ref 48, .int (nI (rk + 1)), .int (nI op)] (Wd X (RZ Z u e p false s)) (PQ X Z u e (f (rk + 1) op (p, s)))) : EC (d + 3) 62 [.ref 48, .int (nI rk), .int (nI op)] (Wd X (RZ Z u e p false s)) (PQ X Z u e (qR (X 20) e f rk op (p, s))) := by
  refine er_enter (L := [(0, _), (1, _), (2, _)]) rfl rfl rfl ?_
  refine er_loc (pc' := 1) rfl rfl rfl ?_
  refine er_k (pc' := 2) (nI 5) rfl rfl rfl ?_
  refine er_cm_ltT rfl (nI_lt (by omega) (by omega)) ?_
  refine er_loc (pc' := 12) rfl rfl rfl ?_
  refine er_loc (pc' := 13) rfl rfl rfl ?_
  refine er_k (pc' := 14) (nI 1) rfl rfl rfl ?_
  refine er_iadd (pc' := 15) rfl rfl ?_
  rw [nI_add]
  refine er_loc (pc' := 16) rfl rfl rfl ?_
  refine er_cS (pc' := 19) (rest := []) rfl rfl rfl (H p s hpe hs) (fun r hr => ?_)
  cases hf : f (rk + 1) op (p, s) with
  | inl y =>
    rw [hf] at hr
    obtain ⟨s', g1, g2, rfl⟩ := hr
    change ER _ _ _ _ [] (Wd X (RZ Z u e y true s')) _
    rw [show qR (X 20) e f rk op (p, s) = .inl y from by unfold qR; rw [hf]]
    refine er_loc (pc' := 20) rfl rfl rfl ?_
    refine er_k (pc' := 21) (nI 2) rfl rfl rfl ?_
    refine er_cm_ne (pc' := 24) rfl rfl (fun h21 => ?_) (fun h21 => ?_)
    · have hr2 : ¬ rk = 2 := fun c => h21 (by rw [c])
      refine er_k (pc' := 30) (nI 50) rfl rfl rfl ?_
      refine er_loc (pc' := 31) (L' := [(3, _), (0, _), (1, _), (2, _)]) rfl rfl rfl ?_
      refine er_k (pc' := 32) (nI 0) rfl rfl rfl ?_
      refine er_loc (pc' := 34) (L' := [(4, _), (3, _), (0, _), (1, _), (2, _)]) rfl rfl rfl ?_
      refine ER_loc [(0, _), (1, _), (2, _), (3, _), (4, _)] rfl (List.forall_mem_cons.mpr ⟨rfl, List.forall_mem_cons.mpr ⟨rfl, List.forall_mem_cons.mpr ⟨rfl, List.forall_mem_cons.mpr ⟨rfl, List.forall_mem_cons.mpr ⟨rfl, fun _ h => absurd h List.not_mem_nil⟩⟩⟩⟩⟩) rfl rfl ?_
      exact l_q_bad d X Z hrk he50 g2 g1 _ _
    · have hr2 : rk = 2 := (nI_eq (by omega) (by omega)).mp h21
      refine er_k (pc' := 25) (nI 1) rfl rfl rfl ?_
      refine er_goto rfl ?_
      refine er_loc (pc' := 31) (L' := [(3, _), (0, _), (1, _), (2, _)]) rfl rfl rfl ?_
      refine er_k (pc' := 32) (nI 0) rfl rfl rfl ?_
      refine er_loc (pc' := 34) (L' := [(4, _), (3, _), (0, _), (1, _), (2, _)]) rfl rfl rfl ?_
      refine ER_loc [(0, _), (1, _), (2, _), (3, _), (4, _)] rfl (List.forall_mem_cons.mpr ⟨rfl, List.forall_mem_cons.mpr ⟨rfl, List.forall_mem_cons.mpr ⟨rfl, List.forall_mem_cons.mpr ⟨rfl, List.forall_mem_cons.mpr ⟨rfl, fun _ h => absurd h List.not_mem_nil⟩⟩⟩⟩⟩) rfl rfl ?_
      exact l_q_bad d X Z hrk he50 g2 g1 _ _
  | inr s' =>
    rw [hf] at hr
    obtain ⟨g1, g2, rfl⟩ := hr
    change ER _ _ _ _ [] (Wd X (RZ Z u e s'.1 false s'.2)) _
    rw [show qR (X 20) e f rk op (p, s) = qL (f (rk + 1) op) (X 20) e rk (if rk = 2 then 1 else 50) s' from by unfold qR; rw [hf]]
    refine er_loc (pc' := 20) rfl rfl rfl ?_
    refine er_k (pc' := 21) (nI 2) rfl rfl rfl ?_
    refine er_cm_ne (pc' := 24) rfl rfl (fun h21 => ?_) (fun h21 => ?_)
    · have hr2 : ¬ rk = 2 := fun c => h21 (by rw [c])
      rw [if_neg hr2]
      refine er_k (pc' := 30) (nI 50) rfl rfl rfl ?_
      refine er_loc (pc' := 31) (L' := [(3, _), (0, _), (1, _), (2, _)]) rfl rfl rfl ?_
      refine er_k (pc' := 32) (nI 0) rfl rfl rfl ?_
      refine er_loc (pc' := 34) (L' := [(4, _), (3, _), (0, _), (1, _), (2, _)]) rfl rfl rfl ?_
      refine ER_loc [(0, _), (1, _), (2, _), (3, _), (4, _)] rfl (List.forall_mem_cons.mpr ⟨rfl, List.forall_mem_cons.mpr ⟨rfl, List.forall_mem_cons.mpr ⟨rfl, List.forall_mem_cons.mpr ⟨rfl, List.forall_mem_cons.mpr ⟨rfl, fun _ h => absurd h List.not_mem_nil⟩⟩⟩⟩⟩) rfl rfl ?_
      exact l_q_loop d X Z hrk he50 (by omega) H _ 0 s'.1 s'.2 _ (by omega) rfl g1 g2
    · have hr2 : rk = 2 := (nI_eq (by omega) (by omega)).mp h21
      rw [if_pos hr2]
      refine er_k (pc' := 25) (nI 1) rfl rfl rfl ?_
      refine er_goto rfl ?_
      refine er_loc (pc' := 31) (L' := [(3, _), (0, _), (1, _), (2, _)]) rfl rfl rfl ?_
      refine er_k (pc' := 32) (nI 0) rfl rfl rfl ?_
      refine er_loc (pc' := 34) (L' := [(4, _), (3, _), (0, _), (1, _), (2, _)]) rfl rfl rfl ?_
      refine ER_loc [(0, _), (1, _), (2, _), (3, _), (4, _)] rfl (List.forall_mem_cons.mpr ⟨rfl, List.forall_mem_cons.mpr ⟨rfl, List.forall_mem_cons.mpr ⟨rfl, List.forall_mem_cons.mpr ⟨rfl, List.forall_mem_cons.mpr ⟨rfl, fun _ h => absurd h List.not_mem_nil⟩⟩⟩⟩⟩) rfl rfl ?_
      exact l_q_loop d X Z hrk he50 (by omega) H _ 0 s'.1 s'.2 _ (by omega) rfl g1 g2
set_option maxRecDepth 100000 in
set_option maxHeartbeats 4000000 in
theorem l_q_rank5 (d : Nat) (X Z : Nat → Nat → Int32) {u e : Nat} {op p : Nat} {t : PT} {s : Nat × (Nat → Int32)} (H : EC d 63 [.ref 48, .int (nI op)] (Wd X (RZ Z u e p false s)) (PQ X Z u e t)) : EC (d + 1) 62 [.ref 48, .int (nI 5), .int (nI op)] (Wd X (RZ Z u e p false s)) (PQ X Z u e t) := by
  refine er_enter (L := [(0, _), (1, _), (2, _)]) rfl rfl rfl ?_
  refine er_loc (pc' := 1) rfl rfl rfl ?_
  refine er_k (pc' := 2) (nI 5) rfl rfl rfl ?_
  refine er_cm_ltF (pc' := 5) rfl (nI_nlt (by omega) (by omega)) rfl ?_
  refine er_loc (pc' := 6) rfl rfl rfl ?_
  refine er_loc (pc' := 7) rfl rfl rfl ?_
  refine er_cS (pc' := 10) (rest := []) rfl rfl rfl H (fun r hr => ?_)
  have e9 : r = (none, r.2) := by
    cases t with
    | inl f => obtain ⟨s', _, _, rfl⟩ := hr; rfl
    | inr s' => obtain ⟨_, _, rfl⟩ := hr; rfl
  rw [e9] at hr ⊢
  refine er_vret rfl rfl ?_
  exact hr
set_option maxRecDepth 100000 in
set_option maxHeartbeats 4000000 in
theorem l_q_part0 (d : Nat) (X Z : Nat → Nat → Int32) {e op p : Nat} {f : Nat → Nat → PS → PT} {s : Nat × (Nat → Int32)} (ht : ∀ k, isN (X 20 k) 255) (hop : op ≤ 5) (he50 : e ≤ 50) (hpe : p ≤ e) (hs : s.1 ≤ 50) (H0 : op < 5 → ∀ (p : Nat) (s : Nat × (Nat → Int32)), p ≤ e → s.1 ≤ 50 → EC (d + 4) 62 [.ref 48, .int (nI 0), .int (nI (op + 1))] (Wd X (RZ Z 0 e p false s)) (PQ X Z 0 e (f 0 (op + 1) (p, s)))) (H5 : op < 5 → ∀ (p : Nat) (s : Nat × (Nat → Int32)), p ≤ e → s.1 ≤ 50 → EC (d + 4) 63 [.ref 48, .int (nI (op + 1))] (Wd X (RZ Z 0 e p false s)) (PQ X Z 0 e (f 5 (op + 1) (p, s)))) : EC (d + 5) 63 [.ref 48, .int (nI op)] (Wd X (RZ Z 0 e p false s)) (PQ X Z 0 e (qP (X 20) e 0 f op (p, s))) := by
  refine er_enter (L := [(0, _), (1, _)]) rfl rfl rfl ?_
  refine er_loc (pc' := 1) rfl rfl rfl ?_
  refine er_cIi (pc' := 4) (rest := []) 9 rfl rfl rfl rfl rfl rfl (l_ahead _ _ _ he50 hpe) ?_
  rw [show ahd (X 20) e p false = pk (X 20) e p from rfl]
  refine er_loc (pc' := 5) (L' := [(2, _), (0, _), (1, _)]) rfl rfl rfl ?_
  refine er_loc (pc' := 6) rfl rfl rfl ?_
  refine er_if_ge (pc' := 9) rfl rfl (fun h6 => ?_) (fun h6 => ?_)
  · have hb0 : ¬ pk (X 20) e p < 0 := h6
    obtain ⟨⟨b, hb1, hb2⟩, hp1⟩ := pk_isN ht hb0
    refine er_loc (pc' := 14) rfl rfl rfl ?_
    refine er_gf (pc' := 17) (.ref 1000101) rfl rfl rfl rfl rfl ?_
    refine er_loc (pc' := 18) rfl rfl rfl ?_
    refine er_i2c (pc' := 19) rfl rfl ?_
    rw [hb2, i2c_b hb1]
    refine er_cT (pc' := 22) rfl rfl rfl (l_idx_0 _ b hb1 _) ?_
    have hn : nmI 0 b = nmQ 0 (pk (X 20) e p) := by
      unfold nmQ
      rw [hb2, if_neg (nI_pos (by omega)), nN_nI (by omega)]
    rw [hn, ← hb2]
    refine er_loc (pc' := 23) (L' := [(3, _), (2, _), (0, _), (1, _)]) rfl rfl rfl ?_
    refine er_loc (pc' := 24) rfl rfl rfl ?_
    refine er_cSi (pc' := 27) (rest := []) rfl rfl rfl (l_isDigit _ _ _) ?_
    refine er_if_eqb (pc' := 30) rfl rfl (fun h27 => ?_) (fun h27 => ?_)
    · have n27 : ¬ dg (pk (X 20) e p) = true := by rw [h27]; decide
      refine er_loc (pc' := 38) rfl rfl rfl ?_
      refine er_if_lt (pc' := 41) rfl rfl (fun h38 => ?_) (fun h38 => ?_)
      · have n38 : nmQ 0 (pk (X 20) e p) < 0 := h38
        refine er_loc (pc' := 62) rfl rfl rfl ?_
        refine er_k (pc' := 64) (nI 33) rfl rfl rfl ?_
        refine er_cm_ne (pc' := 67) rfl rfl (fun h64 => ?_) (fun h64 => ?_)
        · have n64 : ¬ (pk (X 20) e p = nI 33 ∧ op < 5) := fun c => h64 c.1
          refine er_loc (pc' := 99) rfl rfl rfl ?_
          refine er_k (pc' := 101) (nI 40) rfl rfl rfl ?_
          refine er_cm_ne (pc' := 104) rfl rfl (fun h101 => ?_) (fun h101 => ?_)
          · have n101 : ¬ (pk (X 20) e p = nI 40 ∧ op < 5) := fun c => h101 c.1
            refine er_loc (pc' := 135) rfl rfl rfl ?_
            refine er_k (pc' := 136) (nI 1) rfl rfl rfl ?_
            refine er_pfIZ (pc' := 139) 4 rfl rfl rfl rfl rfl rfl ?_
            rw [RZ_b]
            have hq : qP (X 20) e 0 f op (p, s) = .inl p := by
              unfold qP
              rw [if_neg n27, if_neg (fun c => c n38), if_neg n64, if_neg n101]
            refine er_vret rfl rfl ?_
            exact PQ_inl hq hs hpe
          · have hp1 := pkq_lt h101 (by decide +kernel)
            refine er_loc (pc' := 105) rfl rfl rfl ?_
            refine er_k (pc' := 106) (nI 5) rfl rfl rfl ?_
            refine er_cm_ge (pc' := 109) rfl rfl (fun h106 => ?_) (fun h106 => ?_)
            · have n101 : ¬ (pk (X 20) e p = nI 40 ∧ op < 5) := fun c => h106 (nI_lt c.2 (by omega))
              refine er_loc (pc' := 135) rfl rfl rfl ?_
              refine er_k (pc' := 136) (nI 1) rfl rfl rfl ?_
              refine er_pfIZ (pc' := 139) 4 rfl rfl rfl rfl rfl rfl ?_
              rw [RZ_b]
              have hq : qP (X 20) e 0 f op (p, s) = .inl p := by
                unfold qP
                rw [if_neg n27, if_neg (fun c => c n38), if_neg n64, if_neg n101]
              refine er_vret rfl rfl ?_
              exact PQ_inl hq hs hpe
            · have ho5 : op < 5 := (nI_ltI (by omega) (by omega)).mp h106
              have hq : qP (X 20) e 0 f op (p, s) = (match f 0 (op + 1) (p + 1, s) with
                | .inl x => .inl x
                | .inr s' => if pk (X 20) e s'.1 = nI 41 then .inr (s'.1 + 1, s'.2) else .inl s'.1) := by
                unfold qP
                rw [if_neg n27, if_neg (fun c => c n38), if_neg n64, if_pos ⟨h101, ho5⟩]
              refine er_loc (pc' := 110) rfl rfl rfl ?_
              refine er_pure (pc' := 111) rfl rfl rfl ?_
              refine er_gf (pc' := 114) (.int (nI p)) rfl rfl rfl rfl rfl ?_
              refine er_k (pc' := 115) (nI 1) rfl rfl rfl ?_
              refine er_iadd (pc' := 116) rfl rfl ?_
              rw [nI_add]
              refine er_pfIZ (pc' := 119) 3 rfl rfl rfl rfl rfl rfl ?_
              rw [RZ_p]
              refine er_loc (pc' := 120) rfl rfl rfl ?_
              refine er_k (pc' := 121) (nI 0) rfl rfl rfl ?_
              refine er_loc (pc' := 122) rfl rfl rfl ?_
              refine er_k (pc' := 123) (nI 1) rfl rfl rfl ?_
              refine er_iadd (pc' := 124) rfl rfl ?_
              rw [nI_add]
              refine er_cS (pc' := 127) (rest := []) rfl rfl rfl (H0 ho5 (p + 1) s hp1 hs) (fun r hr => ?_)
              cases hf : f 0 (op + 1) (p + 1, s) with
              | inl y =>
                rw [hf] at hr
                obtain ⟨s', g1, g2, rfl⟩ := hr
                change ER _ _ _ _ [] (Wd X (RZ Z 0 e y true s')) _
                refine er_loc (pc' := 128) rfl rfl rfl ?_
                refine er_cIn (pc' := 131) (rest := []) 9 rfl rfl rfl rfl rfl rfl (l_close _ _ _ he50 g2) ?_
                rw [show clo (X 20) e y true = (y, true) from rfl]
                refine er_goto rfl ?_
                refine er_vret rfl rfl ?_
                exact PQ_inl (by rw [hq, hf]) g1 g2
              | inr s' =>
                rw [hf] at hr
                obtain ⟨g1, g2, rfl⟩ := hr
                change ER _ _ _ _ [] (Wd X (RZ Z 0 e s'.1 false s'.2)) _
                refine er_loc (pc' := 128) rfl rfl rfl ?_
                refine er_cIn (pc' := 131) (rest := []) 9 rfl rfl rfl rfl rfl rfl (l_close _ _ _ he50 g1) ?_
                by_cases hc : pk (X 20) e s'.1 = nI 41
                · rw [show clo (X 20) e s'.1 false = (s'.1 + 1, false) from if_pos hc]
                  refine er_goto rfl ?_
                  refine er_vret rfl rfl ?_
                  exact PQ_inr (by rw [hq, hf]; exact if_pos hc) (pkq_lt hc (by decide +kernel)) g2
                rw [show clo (X 20) e s'.1 false = (s'.1, true) from if_neg hc]
                refine er_goto rfl ?_
                refine er_vret rfl rfl ?_
                exact PQ_inl (by rw [hq, hf]; exact if_neg hc) g2 g1
        · have hp1 := pkq_lt h64 (by decide +kernel)
          refine er_loc (pc' := 68) rfl rfl rfl ?_
          refine er_k (pc' := 69) (nI 5) rfl rfl rfl ?_
          refine er_cm_ge (pc' := 72) rfl rfl (fun h69 => ?_) (fun h69 => ?_)
          · have n64 : ¬ (pk (X 20) e p = nI 33 ∧ op < 5) := fun c => h69 (nI_lt c.2 (by omega))
            refine er_loc (pc' := 99) rfl rfl rfl ?_
            refine er_k (pc' := 101) (nI 40) rfl rfl rfl ?_
            refine er_cm_ne (pc' := 104) rfl rfl (fun h101 => ?_) (fun h101 => ?_)
            · have n101 : ¬ (pk (X 20) e p = nI 40 ∧ op < 5) := fun c => h101 c.1
              refine er_loc (pc' := 135) rfl rfl rfl ?_
              refine er_k (pc' := 136) (nI 1) rfl rfl rfl ?_
              refine er_pfIZ (pc' := 139) 4 rfl rfl rfl rfl rfl rfl ?_
              rw [RZ_b]
              have hq : qP (X 20) e 0 f op (p, s) = .inl p := by
                unfold qP
                rw [if_neg n27, if_neg (fun c => c n38), if_neg n64, if_neg n101]
              refine er_vret rfl rfl ?_
              exact PQ_inl hq hs hpe
            · have hp1 := pkq_lt h101 (by decide +kernel)
              refine er_loc (pc' := 105) rfl rfl rfl ?_
              refine er_k (pc' := 106) (nI 5) rfl rfl rfl ?_
              refine er_cm_ge (pc' := 109) rfl rfl (fun h106 => ?_) (fun h106 => ?_)
              · have n101 : ¬ (pk (X 20) e p = nI 40 ∧ op < 5) := fun c => h106 (nI_lt c.2 (by omega))
                refine er_loc (pc' := 135) rfl rfl rfl ?_
                refine er_k (pc' := 136) (nI 1) rfl rfl rfl ?_
                refine er_pfIZ (pc' := 139) 4 rfl rfl rfl rfl rfl rfl ?_
                rw [RZ_b]
                have hq : qP (X 20) e 0 f op (p, s) = .inl p := by
                  unfold qP
                  rw [if_neg n27, if_neg (fun c => c n38), if_neg n64, if_neg n101]
                refine er_vret rfl rfl ?_
                exact PQ_inl hq hs hpe
              · have ho5 : op < 5 := (nI_ltI (by omega) (by omega)).mp h106
                have hq : qP (X 20) e 0 f op (p, s) = (match f 0 (op + 1) (p + 1, s) with
                  | .inl x => .inl x
                  | .inr s' => if pk (X 20) e s'.1 = nI 41 then .inr (s'.1 + 1, s'.2) else .inl s'.1) := by
                  unfold qP
                  rw [if_neg n27, if_neg (fun c => c n38), if_neg n64, if_pos ⟨h101, ho5⟩]
                refine er_loc (pc' := 110) rfl rfl rfl ?_
                refine er_pure (pc' := 111) rfl rfl rfl ?_
                refine er_gf (pc' := 114) (.int (nI p)) rfl rfl rfl rfl rfl ?_
                refine er_k (pc' := 115) (nI 1) rfl rfl rfl ?_
                refine er_iadd (pc' := 116) rfl rfl ?_
                rw [nI_add]
                refine er_pfIZ (pc' := 119) 3 rfl rfl rfl rfl rfl rfl ?_
                rw [RZ_p]
                refine er_loc (pc' := 120) rfl rfl rfl ?_
                refine er_k (pc' := 121) (nI 0) rfl rfl rfl ?_
                refine er_loc (pc' := 122) rfl rfl rfl ?_
                refine er_k (pc' := 123) (nI 1) rfl rfl rfl ?_
                refine er_iadd (pc' := 124) rfl rfl ?_
                rw [nI_add]
                refine er_cS (pc' := 127) (rest := []) rfl rfl rfl (H0 ho5 (p + 1) s hp1 hs) (fun r hr => ?_)
                cases hf : f 0 (op + 1) (p + 1, s) with
                | inl y =>
                  rw [hf] at hr
                  obtain ⟨s', g1, g2, rfl⟩ := hr
                  change ER _ _ _ _ [] (Wd X (RZ Z 0 e y true s')) _
                  refine er_loc (pc' := 128) rfl rfl rfl ?_
                  refine er_cIn (pc' := 131) (rest := []) 9 rfl rfl rfl rfl rfl rfl (l_close _ _ _ he50 g2) ?_
                  rw [show clo (X 20) e y true = (y, true) from rfl]
                  refine er_goto rfl ?_
                  refine er_vret rfl rfl ?_
                  exact PQ_inl (by rw [hq, hf]) g1 g2
                | inr s' =>
                  rw [hf] at hr
                  obtain ⟨g1, g2, rfl⟩ := hr
                  change ER _ _ _ _ [] (Wd X (RZ Z 0 e s'.1 false s'.2)) _
                  refine er_loc (pc' := 128) rfl rfl rfl ?_
                  refine er_cIn (pc' := 131) (rest := []) 9 rfl rfl rfl rfl rfl rfl (l_close _ _ _ he50 g1) ?_
                  by_cases hc : pk (X 20) e s'.1 = nI 41
                  · rw [show clo (X 20) e s'.1 false = (s'.1 + 1, false) from if_pos hc]
                    refine er_goto rfl ?_
                    refine er_vret rfl rfl ?_
                    exact PQ_inr (by rw [hq, hf]; exact if_pos hc) (pkq_lt hc (by decide +kernel)) g2
                  rw [show clo (X 20) e s'.1 false = (s'.1, true) from if_neg hc]
                  refine er_goto rfl ?_
                  refine er_vret rfl rfl ?_
                  exact PQ_inl (by rw [hq, hf]; exact if_neg hc) g2 g1
          · have ho5 : op < 5 := (nI_ltI (by omega) (by omega)).mp h69
            have hq : qP (X 20) e 0 f op (p, s) = (match f 5 (op + 1) (p + 1, s) with
              | .inl x => .inl x
              | .inr s' => .inr (s'.1, wrC s'.2 (-33))) := by
              unfold qP
              rw [if_neg n27, if_neg (fun c => c n38), if_pos ⟨h64, ho5⟩]
            refine er_loc (pc' := 73) rfl rfl rfl ?_
            refine er_pure (pc' := 74) rfl rfl rfl ?_
            refine er_gf (pc' := 77) (.int (nI p)) rfl rfl rfl rfl rfl ?_
            refine er_k (pc' := 78) (nI 1) rfl rfl rfl ?_
            refine er_iadd (pc' := 79) rfl rfl ?_
            rw [nI_add]
            refine er_pfIZ (pc' := 82) 3 rfl rfl rfl rfl rfl rfl ?_
            rw [RZ_p]
            refine er_loc (pc' := 83) rfl rfl rfl ?_
            refine er_loc (pc' := 84) rfl rfl rfl ?_
            refine er_k (pc' := 85) (nI 1) rfl rfl rfl ?_
            refine er_iadd (pc' := 86) rfl rfl ?_
            rw [nI_add]
            refine er_cS (pc' := 89) (rest := []) rfl rfl rfl (H5 ho5 (p + 1) s hp1 hs) (fun r hr => ?_)
            cases hf : f 5 (op + 1) (p + 1, s) with
            | inl y =>
              rw [hf] at hr
              obtain ⟨s', g1, g2, rfl⟩ := hr
              change ER _ _ _ _ [] (Wd X (RZ Z 0 e y true s')) _
              refine er_loc (pc' := 90) rfl rfl rfl ?_
              refine er_k (pc' := 92) (-33) rfl rfl rfl ?_
              refine er_cIn (pc' := 95) (rest := []) 9 rfl rfl rfl rfl rfl rfl (l_write _ _ _ g1 _) ?_
              refine er_goto rfl ?_
              refine er_vret rfl rfl ?_
              exact PQ_inl (by rw [hq, hf]) (wrC_le g1) g2
            | inr s' =>
              rw [hf] at hr
              obtain ⟨g1, g2, rfl⟩ := hr
              change ER _ _ _ _ [] (Wd X (RZ Z 0 e s'.1 false s'.2)) _
              refine er_loc (pc' := 90) rfl rfl rfl ?_
              refine er_k (pc' := 92) (-33) rfl rfl rfl ?_
              refine er_cIn (pc' := 95) (rest := []) 9 rfl rfl rfl rfl rfl rfl (l_write _ _ _ g2 _) ?_
              refine er_goto rfl ?_
              refine er_vret rfl rfl ?_
              exact PQ_inr (by rw [hq, hf]) g1 (wrC_le g2)
      · have n38 : ¬ nmQ 0 (pk (X 20) e p) < 0 := h38
        have hp1 : p + 1 ≤ e := (pk_isN ht (fun c => n38 (by rw [show nmQ 0 (pk (X 20) e p) = -1 from if_pos c]; decide +kernel))).2
        have hq : qP (X 20) e 0 f op (p, s) = .inr (p + 1, wrC s (-1 - nmQ 0 (pk (X 20) e p))) := by
          unfold qP
          rw [if_neg n27, if_pos n38]
        refine er_loc (pc' := 42) rfl rfl rfl ?_
        refine er_pure (pc' := 43) rfl rfl rfl ?_
        refine er_gf (pc' := 46) (.int (nI p)) rfl rfl rfl rfl rfl ?_
        refine er_k (pc' := 47) (nI 1) rfl rfl rfl ?_
        refine er_iadd (pc' := 48) rfl rfl ?_
        rw [nI_add]
        refine er_pfIZ (pc' := 51) 3 rfl rfl rfl rfl rfl rfl ?_
        rw [RZ_p]
        refine er_loc (pc' := 52) rfl rfl rfl ?_
        refine er_k (pc' := 53) (-1) rfl rfl rfl ?_
        refine er_loc (pc' := 54) rfl rfl rfl ?_
        refine er_isub (pc' := 55) rfl rfl ?_
        refine er_cIn (pc' := 58) (rest := []) 9 rfl rfl rfl rfl rfl rfl (l_write _ _ _ hs _) ?_
        refine er_goto rfl ?_
        refine er_vret rfl rfl ?_
        exact PQ_inr hq hp1 (wrC_le hs)
    · have hq : qP (X 20) e 0 f op (p, s) = .inr ((pNum (X 20) e 4 p (nI 0)).1, wrC s (pNum (X 20) e 4 p (nI 0)).2) := if_pos h27
      refine er_loc (pc' := 31) rfl rfl rfl ?_
      refine er_cIn (pc' := 34) (rest := []) 9 rfl rfl rfl rfl rfl rfl (l_readNumber _ _ _ he50 hs hpe) ?_
      refine er_goto rfl ?_
      refine er_vret rfl rfl ?_
      exact PQ_inr hq (pNum_le _ _ _ hpe) (wrC_le hs)
  · have hb0 : pk (X 20) e p < 0 := h6
    have hn : (-1 : Int32) = nmQ 0 (pk (X 20) e p) := (if_pos hb0).symm
    refine er_k (pc' := 10) (-1) rfl rfl rfl ?_
    rw [hn]
    refine er_goto rfl ?_
    refine er_loc (pc' := 23) (L' := [(3, _), (2, _), (0, _), (1, _)]) rfl rfl rfl ?_
    refine er_loc (pc' := 24) rfl rfl rfl ?_
    refine er_cSi (pc' := 27) (rest := []) rfl rfl rfl (l_isDigit _ _ _) ?_
    refine er_if_eqb (pc' := 30) rfl rfl (fun h27 => ?_) (fun h27 => ?_)
    · have n27 : ¬ dg (pk (X 20) e p) = true := by rw [h27]; decide
      refine er_loc (pc' := 38) rfl rfl rfl ?_
      refine er_if_lt (pc' := 41) rfl rfl (fun h38 => ?_) (fun h38 => ?_)
      · have n38 : nmQ 0 (pk (X 20) e p) < 0 := h38
        refine er_loc (pc' := 62) rfl rfl rfl ?_
        refine er_k (pc' := 64) (nI 33) rfl rfl rfl ?_
        refine er_cm_ne (pc' := 67) rfl rfl (fun h64 => ?_) (fun h64 => ?_)
        · have n64 : ¬ (pk (X 20) e p = nI 33 ∧ op < 5) := fun c => h64 c.1
          refine er_loc (pc' := 99) rfl rfl rfl ?_
          refine er_k (pc' := 101) (nI 40) rfl rfl rfl ?_
          refine er_cm_ne (pc' := 104) rfl rfl (fun h101 => ?_) (fun h101 => ?_)
          · have n101 : ¬ (pk (X 20) e p = nI 40 ∧ op < 5) := fun c => h101 c.1
            refine er_loc (pc' := 135) rfl rfl rfl ?_
            refine er_k (pc' := 136) (nI 1) rfl rfl rfl ?_
            refine er_pfIZ (pc' := 139) 4 rfl rfl rfl rfl rfl rfl ?_
            rw [RZ_b]
            have hq : qP (X 20) e 0 f op (p, s) = .inl p := by
              unfold qP
              rw [if_neg n27, if_neg (fun c => c n38), if_neg n64, if_neg n101]
            refine er_vret rfl rfl ?_
            exact PQ_inl hq hs hpe
          · have hp1 := pkq_lt h101 (by decide +kernel)
            refine er_loc (pc' := 105) rfl rfl rfl ?_
            refine er_k (pc' := 106) (nI 5) rfl rfl rfl ?_
            refine er_cm_ge (pc' := 109) rfl rfl (fun h106 => ?_) (fun h106 => ?_)
            · have n101 : ¬ (pk (X 20) e p = nI 40 ∧ op < 5) := fun c => h106 (nI_lt c.2 (by omega))
              refine er_loc (pc' := 135) rfl rfl rfl ?_
              refine er_k (pc' := 136) (nI 1) rfl rfl rfl ?_
              refine er_pfIZ (pc' := 139) 4 rfl rfl rfl rfl rfl rfl ?_
              rw [RZ_b]
              have hq : qP (X 20) e 0 f op (p, s) = .inl p := by
                unfold qP
                rw [if_neg n27, if_neg (fun c => c n38), if_neg n64, if_neg n101]
              refine er_vret rfl rfl ?_
              exact PQ_inl hq hs hpe
            · have ho5 : op < 5 := (nI_ltI (by omega) (by omega)).mp h106
              have hq : qP (X 20) e 0 f op (p, s) = (match f 0 (op + 1) (p + 1, s) with
                | .inl x => .inl x
                | .inr s' => if pk (X 20) e s'.1 = nI 41 then .inr (s'.1 + 1, s'.2) else .inl s'.1) := by
                unfold qP
                rw [if_neg n27, if_neg (fun c => c n38), if_neg n64, if_pos ⟨h101, ho5⟩]
              refine er_loc (pc' := 110) rfl rfl rfl ?_
              refine er_pure (pc' := 111) rfl rfl rfl ?_
              refine er_gf (pc' := 114) (.int (nI p)) rfl rfl rfl rfl rfl ?_
              refine er_k (pc' := 115) (nI 1) rfl rfl rfl ?_
              refine er_iadd (pc' := 116) rfl rfl ?_
              rw [nI_add]
              refine er_pfIZ (pc' := 119) 3 rfl rfl rfl rfl rfl rfl ?_
              rw [RZ_p]
              refine er_loc (pc' := 120) rfl rfl rfl ?_
              refine er_k (pc' := 121) (nI 0) rfl rfl rfl ?_
              refine er_loc (pc' := 122) rfl rfl rfl ?_
              refine er_k (pc' := 123) (nI 1) rfl rfl rfl ?_
              refine er_iadd (pc' := 124) rfl rfl ?_
              rw [nI_add]
              refine er_cS (pc' := 127) (rest := []) rfl rfl rfl (H0 ho5 (p + 1) s hp1 hs) (fun r hr => ?_)
              cases hf : f 0 (op + 1) (p + 1, s) with
              | inl y =>
                rw [hf] at hr
                obtain ⟨s', g1, g2, rfl⟩ := hr
                change ER _ _ _ _ [] (Wd X (RZ Z 0 e y true s')) _
                refine er_loc (pc' := 128) rfl rfl rfl ?_
                refine er_cIn (pc' := 131) (rest := []) 9 rfl rfl rfl rfl rfl rfl (l_close _ _ _ he50 g2) ?_
                rw [show clo (X 20) e y true = (y, true) from rfl]
                refine er_goto rfl ?_
                refine er_vret rfl rfl ?_
                exact PQ_inl (by rw [hq, hf]) g1 g2
              | inr s' =>
                rw [hf] at hr
                obtain ⟨g1, g2, rfl⟩ := hr
                change ER _ _ _ _ [] (Wd X (RZ Z 0 e s'.1 false s'.2)) _
                refine er_loc (pc' := 128) rfl rfl rfl ?_
                refine er_cIn (pc' := 131) (rest := []) 9 rfl rfl rfl rfl rfl rfl (l_close _ _ _ he50 g1) ?_
                by_cases hc : pk (X 20) e s'.1 = nI 41
                · rw [show clo (X 20) e s'.1 false = (s'.1 + 1, false) from if_pos hc]
                  refine er_goto rfl ?_
                  refine er_vret rfl rfl ?_
                  exact PQ_inr (by rw [hq, hf]; exact if_pos hc) (pkq_lt hc (by decide +kernel)) g2
                rw [show clo (X 20) e s'.1 false = (s'.1, true) from if_neg hc]
                refine er_goto rfl ?_
                refine er_vret rfl rfl ?_
                exact PQ_inl (by rw [hq, hf]; exact if_neg hc) g2 g1
        · have hp1 := pkq_lt h64 (by decide +kernel)
          refine er_loc (pc' := 68) rfl rfl rfl ?_
          refine er_k (pc' := 69) (nI 5) rfl rfl rfl ?_
          refine er_cm_ge (pc' := 72) rfl rfl (fun h69 => ?_) (fun h69 => ?_)
          · have n64 : ¬ (pk (X 20) e p = nI 33 ∧ op < 5) := fun c => h69 (nI_lt c.2 (by omega))
            refine er_loc (pc' := 99) rfl rfl rfl ?_
            refine er_k (pc' := 101) (nI 40) rfl rfl rfl ?_
            refine er_cm_ne (pc' := 104) rfl rfl (fun h101 => ?_) (fun h101 => ?_)
            · have n101 : ¬ (pk (X 20) e p = nI 40 ∧ op < 5) := fun c => h101 c.1
              refine er_loc (pc' := 135) rfl rfl rfl ?_
              refine er_k (pc' := 136) (nI 1) rfl rfl rfl ?_
              refine er_pfIZ (pc' := 139) 4 rfl rfl rfl rfl rfl rfl ?_
              rw [RZ_b]
              have hq : qP (X 20) e 0 f op (p, s) = .inl p := by
                unfold qP
                rw [if_neg n27, if_neg (fun c => c n38), if_neg n64, if_neg n101]
              refine er_vret rfl rfl ?_
              exact PQ_inl hq hs hpe
            · have hp1 := pkq_lt h101 (by decide +kernel)
              refine er_loc (pc' := 105) rfl rfl rfl ?_
              refine er_k (pc' := 106) (nI 5) rfl rfl rfl ?_
              refine er_cm_ge (pc' := 109) rfl rfl (fun h106 => ?_) (fun h106 => ?_)
              · have n101 : ¬ (pk (X 20) e p = nI 40 ∧ op < 5) := fun c => h106 (nI_lt c.2 (by omega))
                refine er_loc (pc' := 135) rfl rfl rfl ?_
                refine er_k (pc' := 136) (nI 1) rfl rfl rfl ?_
                refine er_pfIZ (pc' := 139) 4 rfl rfl rfl rfl rfl rfl ?_
                rw [RZ_b]
                have hq : qP (X 20) e 0 f op (p, s) = .inl p := by
                  unfold qP
                  rw [if_neg n27, if_neg (fun c => c n38), if_neg n64, if_neg n101]
                refine er_vret rfl rfl ?_
                exact PQ_inl hq hs hpe
              · have ho5 : op < 5 := (nI_ltI (by omega) (by omega)).mp h106
                have hq : qP (X 20) e 0 f op (p, s) = (match f 0 (op + 1) (p + 1, s) with
                  | .inl x => .inl x
                  | .inr s' => if pk (X 20) e s'.1 = nI 41 then .inr (s'.1 + 1, s'.2) else .inl s'.1) := by
                  unfold qP
                  rw [if_neg n27, if_neg (fun c => c n38), if_neg n64, if_pos ⟨h101, ho5⟩]
                refine er_loc (pc' := 110) rfl rfl rfl ?_
                refine er_pure (pc' := 111) rfl rfl rfl ?_
                refine er_gf (pc' := 114) (.int (nI p)) rfl rfl rfl rfl rfl ?_
                refine er_k (pc' := 115) (nI 1) rfl rfl rfl ?_
                refine er_iadd (pc' := 116) rfl rfl ?_
                rw [nI_add]
                refine er_pfIZ (pc' := 119) 3 rfl rfl rfl rfl rfl rfl ?_
                rw [RZ_p]
                refine er_loc (pc' := 120) rfl rfl rfl ?_
                refine er_k (pc' := 121) (nI 0) rfl rfl rfl ?_
                refine er_loc (pc' := 122) rfl rfl rfl ?_
                refine er_k (pc' := 123) (nI 1) rfl rfl rfl ?_
                refine er_iadd (pc' := 124) rfl rfl ?_
                rw [nI_add]
                refine er_cS (pc' := 127) (rest := []) rfl rfl rfl (H0 ho5 (p + 1) s hp1 hs) (fun r hr => ?_)
                cases hf : f 0 (op + 1) (p + 1, s) with
                | inl y =>
                  rw [hf] at hr
                  obtain ⟨s', g1, g2, rfl⟩ := hr
                  change ER _ _ _ _ [] (Wd X (RZ Z 0 e y true s')) _
                  refine er_loc (pc' := 128) rfl rfl rfl ?_
                  refine er_cIn (pc' := 131) (rest := []) 9 rfl rfl rfl rfl rfl rfl (l_close _ _ _ he50 g2) ?_
                  rw [show clo (X 20) e y true = (y, true) from rfl]
                  refine er_goto rfl ?_
                  refine er_vret rfl rfl ?_
                  exact PQ_inl (by rw [hq, hf]) g1 g2
                | inr s' =>
                  rw [hf] at hr
                  obtain ⟨g1, g2, rfl⟩ := hr
                  change ER _ _ _ _ [] (Wd X (RZ Z 0 e s'.1 false s'.2)) _
                  refine er_loc (pc' := 128) rfl rfl rfl ?_
                  refine er_cIn (pc' := 131) (rest := []) 9 rfl rfl rfl rfl rfl rfl (l_close _ _ _ he50 g1) ?_
                  by_cases hc : pk (X 20) e s'.1 = nI 41
                  · rw [show clo (X 20) e s'.1 false = (s'.1 + 1, false) from if_pos hc]
                    refine er_goto rfl ?_
                    refine er_vret rfl rfl ?_
                    exact PQ_inr (by rw [hq, hf]; exact if_pos hc) (pkq_lt hc (by decide +kernel)) g2
                  rw [show clo (X 20) e s'.1 false = (s'.1, true) from if_neg hc]
                  refine er_goto rfl ?_
                  refine er_vret rfl rfl ?_
                  exact PQ_inl (by rw [hq, hf]; exact if_neg hc) g2 g1
          · have ho5 : op < 5 := (nI_ltI (by omega) (by omega)).mp h69
            have hq : qP (X 20) e 0 f op (p, s) = (match f 5 (op + 1) (p + 1, s) with
              | .inl x => .inl x
              | .inr s' => .inr (s'.1, wrC s'.2 (-33))) := by
              unfold qP
              rw [if_neg n27, if_neg (fun c => c n38), if_pos ⟨h64, ho5⟩]
            refine er_loc (pc' := 73) rfl rfl rfl ?_
            refine er_pure (pc' := 74) rfl rfl rfl ?_
            refine er_gf (pc' := 77) (.int (nI p)) rfl rfl rfl rfl rfl ?_
            refine er_k (pc' := 78) (nI 1) rfl rfl rfl ?_
            refine er_iadd (pc' := 79) rfl rfl ?_
            rw [nI_add]
            refine er_pfIZ (pc' := 82) 3 rfl rfl rfl rfl rfl rfl ?_
            rw [RZ_p]
            refine er_loc (pc' := 83) rfl rfl rfl ?_
            refine er_loc (pc' := 84) rfl rfl rfl ?_
            refine er_k (pc' := 85) (nI 1) rfl rfl rfl ?_
            refine er_iadd (pc' := 86) rfl rfl ?_
            rw [nI_add]
            refine er_cS (pc' := 89) (rest := []) rfl rfl rfl (H5 ho5 (p + 1) s hp1 hs) (fun r hr => ?_)
            cases hf : f 5 (op + 1) (p + 1, s) with
            | inl y =>
              rw [hf] at hr
              obtain ⟨s', g1, g2, rfl⟩ := hr
              change ER _ _ _ _ [] (Wd X (RZ Z 0 e y true s')) _
              refine er_loc (pc' := 90) rfl rfl rfl ?_
              refine er_k (pc' := 92) (-33) rfl rfl rfl ?_
              refine er_cIn (pc' := 95) (rest := []) 9 rfl rfl rfl rfl rfl rfl (l_write _ _ _ g1 _) ?_
              refine er_goto rfl ?_
              refine er_vret rfl rfl ?_
              exact PQ_inl (by rw [hq, hf]) (wrC_le g1) g2
            | inr s' =>
              rw [hf] at hr
              obtain ⟨g1, g2, rfl⟩ := hr
              change ER _ _ _ _ [] (Wd X (RZ Z 0 e s'.1 false s'.2)) _
              refine er_loc (pc' := 90) rfl rfl rfl ?_
              refine er_k (pc' := 92) (-33) rfl rfl rfl ?_
              refine er_cIn (pc' := 95) (rest := []) 9 rfl rfl rfl rfl rfl rfl (l_write _ _ _ g2 _) ?_
              refine er_goto rfl ?_
              refine er_vret rfl rfl ?_
              exact PQ_inr (by rw [hq, hf]) g1 (wrC_le g2)
      · have n38 : ¬ nmQ 0 (pk (X 20) e p) < 0 := h38
        have hp1 : p + 1 ≤ e := (pk_isN ht (fun c => n38 (by rw [show nmQ 0 (pk (X 20) e p) = -1 from if_pos c]; decide +kernel))).2
        have hq : qP (X 20) e 0 f op (p, s) = .inr (p + 1, wrC s (-1 - nmQ 0 (pk (X 20) e p))) := by
          unfold qP
          rw [if_neg n27, if_pos n38]
        refine er_loc (pc' := 42) rfl rfl rfl ?_
        refine er_pure (pc' := 43) rfl rfl rfl ?_
        refine er_gf (pc' := 46) (.int (nI p)) rfl rfl rfl rfl rfl ?_
        refine er_k (pc' := 47) (nI 1) rfl rfl rfl ?_
        refine er_iadd (pc' := 48) rfl rfl ?_
        rw [nI_add]
        refine er_pfIZ (pc' := 51) 3 rfl rfl rfl rfl rfl rfl ?_
        rw [RZ_p]
        refine er_loc (pc' := 52) rfl rfl rfl ?_
        refine er_k (pc' := 53) (-1) rfl rfl rfl ?_
        refine er_loc (pc' := 54) rfl rfl rfl ?_
        refine er_isub (pc' := 55) rfl rfl ?_
        refine er_cIn (pc' := 58) (rest := []) 9 rfl rfl rfl rfl rfl rfl (l_write _ _ _ hs _) ?_
        refine er_goto rfl ?_
        refine er_vret rfl rfl ?_
        exact PQ_inr hq hp1 (wrC_le hs)
    · have hq : qP (X 20) e 0 f op (p, s) = .inr ((pNum (X 20) e 4 p (nI 0)).1, wrC s (pNum (X 20) e 4 p (nI 0)).2) := if_pos h27
      refine er_loc (pc' := 31) rfl rfl rfl ?_
      refine er_cIn (pc' := 34) (rest := []) 9 rfl rfl rfl rfl rfl rfl (l_readNumber _ _ _ he50 hs hpe) ?_
      refine er_goto rfl ?_
      refine er_vret rfl rfl ?_
      exact PQ_inr hq (pNum_le _ _ _ hpe) (wrC_le hs)
set_option maxRecDepth 100000 in
set_option maxHeartbeats 4000000 in
theorem l_qq0 (X Z : Nat → Nat → Int32) {e : Nat} (ht : ∀ k, isN (X 20 k) 255) (he50 : e ≤ 50) : ∀ (F D : Nat), 2 * F + 6 ≤ D →
    (∀ (op p : Nat) (s : Nat × (Nat → Int32)), op ≤ 5 → (5 - op) * 6 + 1 ≤ F → p ≤ e → s.1 ≤ 50 → EC D 63 [.ref 48, .int (nI op)] (Wd X (RZ Z 0 e p false s)) (PQ X Z 0 e (qq (X 20) e 0 F 5 op (p, s)))) ∧
    (∀ (rk op p : Nat) (s : Nat × (Nat → Int32)), rk ≤ 5 → op ≤ 5 → (5 - op) * 6 + (5 - rk) + 1 ≤ F → p ≤ e → s.1 ≤ 50 → EC (D + 1) 62 [.ref 48, .int (nI rk), .int (nI op)] (Wd X (RZ Z 0 e p false s)) (PQ X Z 0 e (qq (X 20) e 0 F rk op (p, s))))
  | 0, D, _ => ⟨fun op p s _ h => by omega, fun rk op p s _ _ h => by omega⟩
  | F + 1, D, hD => by
    obtain ⟨D, rfl⟩ : ∃ D', D = D' + 6 := ⟨D - 6, by omega⟩
    have ih := l_qq0 X Z ht he50 F (D + 4) (by omega)
    have ih5 := l_qq0 X Z ht he50 F (D + 5) (by omega)
    have hp : ∀ (op p : Nat) (s : Nat × (Nat → Int32)), op ≤ 5 → (5 - op) * 6 + 1 ≤ F + 1 → p ≤ e → s.1 ≤ 50 → EC (D + 6) 63 [.ref 48, .int (nI op)] (Wd X (RZ Z 0 e p false s)) (PQ X Z 0 e (qq (X 20) e 0 (F + 1) 5 op (p, s))) := by
      intro op p s hop hF hpe hs
      rw [qq_P]
      exact l_q_part0 (D + 1) X Z ht hop he50 hpe hs (fun ho p s h1 h2 => ih.2 0 (op + 1) p s (by omega) (by omega) (by omega) h1 h2) (fun ho p s h1 h2 => ih5.1 (op + 1) p s (by omega) (by omega) h1 h2)
    refine ⟨hp, ?_⟩
    intro rk op p s hrk hop hF hpe hs
    rcases Nat.lt_or_ge rk 5 with c | c
    · rw [qq_R c]
      exact l_q_rank (D + 4) X Z c he50 hpe hs (fun p s h1 h2 => ih5.2 (rk + 1) op p s (by omega) hop (by omega) h1 h2)
    · have c5 : rk = 5 := by omega
      subst c5
      exact l_q_rank5 (D + 6) X Z (hp op p s hop (by omega) hpe hs)
set_option maxRecDepth 100000 in
set_option maxHeartbeats 4000000 in
theorem l_q_part1 (d : Nat) (X Z : Nat → Nat → Int32) {e op p : Nat} {f : Nat → Nat → PS → PT} {s : Nat × (Nat → Int32)} (ht : ∀ k, isN (X 20 k) 255) (hop : op ≤ 5) (he50 : e ≤ 50) (hpe : p ≤ e) (hs : s.1 ≤ 50) (H0 : op < 5 → ∀ (p : Nat) (s : Nat × (Nat → Int32)), p ≤ e → s.1 ≤ 50 → EC (d + 4) 62 [.ref 48, .int (nI 0), .int (nI (op + 1))] (Wd X (RZ Z 1 e p false s)) (PQ X Z 1 e (f 0 (op + 1) (p, s)))) (H5 : op < 5 → ∀ (p : Nat) (s : Nat × (Nat → Int32)), p ≤ e → s.1 ≤ 50 → EC (d + 4) 63 [.ref 48, .int (nI (op + 1))] (Wd X (RZ Z 1 e p false s)) (PQ X Z 1 e (f 5 (op + 1) (p, s)))) : EC (d + 5) 63 [.ref 48, .int (nI op)] (Wd X (RZ Z 1 e p false s)) (PQ X Z 1 e (qP (X 20) e 1 f op (p, s))) := by
  refine er_enter (L := [(0, _), (1, _)]) rfl rfl rfl ?_
  refine er_loc (pc' := 1) rfl rfl rfl ?_
  refine er_cIi (pc' := 4) (rest := []) 9 rfl rfl rfl rfl rfl rfl (l_ahead _ _ _ he50 hpe) ?_
  rw [show ahd (X 20) e p false = pk (X 20) e p from rfl]
  refine er_loc (pc' := 5) (L' := [(2, _), (0, _), (1, _)]) rfl rfl rfl ?_
  refine er_loc (pc' := 6) rfl rfl rfl ?_
  refine er_if_ge (pc' := 9) rfl rfl (fun h6 => ?_) (fun h6 => ?_)
  · have hb0 : ¬ pk (X 20) e p < 0 := h6
    obtain ⟨⟨b, hb1, hb2⟩, hp1⟩ := pk_isN ht hb0
    refine er_loc (pc' := 14) rfl rfl rfl ?_
    refine er_gf (pc' := 17) (.ref 1000102) rfl rfl rfl rfl rfl ?_
    refine er_loc (pc' := 18) rfl rfl rfl ?_
    refine er_i2c (pc' := 19) rfl rfl ?_
    rw [hb2, i2c_b hb1]
    refine er_cT (pc' := 22) rfl rfl rfl (l_idx_1 _ b hb1 _) ?_
    have hn : nmI 1 b = nmQ 1 (pk (X 20) e p) := by
      unfold nmQ
      rw [hb2, if_neg (nI_pos (by omega)), nN_nI (by omega)]
    rw [hn, ← hb2]
    refine er_loc (pc' := 23) (L' := [(3, _), (2, _), (0, _), (1, _)]) rfl rfl rfl ?_
    refine er_loc (pc' := 24) rfl rfl rfl ?_
    refine er_cSi (pc' := 27) (rest := []) rfl rfl rfl (l_isDigit _ _ _) ?_
    refine er_if_eqb (pc' := 30) rfl rfl (fun h27 => ?_) (fun h27 => ?_)
    · have n27 : ¬ dg (pk (X 20) e p) = true := by rw [h27]; decide
      refine er_loc (pc' := 38) rfl rfl rfl ?_
      refine er_if_lt (pc' := 41) rfl rfl (fun h38 => ?_) (fun h38 => ?_)
      · have n38 : nmQ 1 (pk (X 20) e p) < 0 := h38
        refine er_loc (pc' := 62) rfl rfl rfl ?_
        refine er_k (pc' := 64) (nI 33) rfl rfl rfl ?_
        refine er_cm_ne (pc' := 67) rfl rfl (fun h64 => ?_) (fun h64 => ?_)
        · have n64 : ¬ (pk (X 20) e p = nI 33 ∧ op < 5) := fun c => h64 c.1
          refine er_loc (pc' := 99) rfl rfl rfl ?_
          refine er_k (pc' := 101) (nI 40) rfl rfl rfl ?_
          refine er_cm_ne (pc' := 104) rfl rfl (fun h101 => ?_) (fun h101 => ?_)
          · have n101 : ¬ (pk (X 20) e p = nI 40 ∧ op < 5) := fun c => h101 c.1
            refine er_loc (pc' := 135) rfl rfl rfl ?_
            refine er_k (pc' := 136) (nI 1) rfl rfl rfl ?_
            refine er_pfIZ (pc' := 139) 4 rfl rfl rfl rfl rfl rfl ?_
            rw [RZ_b]
            have hq : qP (X 20) e 1 f op (p, s) = .inl p := by
              unfold qP
              rw [if_neg n27, if_neg (fun c => c n38), if_neg n64, if_neg n101]
            refine er_vret rfl rfl ?_
            exact PQ_inl hq hs hpe
          · have hp1 := pkq_lt h101 (by decide +kernel)
            refine er_loc (pc' := 105) rfl rfl rfl ?_
            refine er_k (pc' := 106) (nI 5) rfl rfl rfl ?_
            refine er_cm_ge (pc' := 109) rfl rfl (fun h106 => ?_) (fun h106 => ?_)
            · have n101 : ¬ (pk (X 20) e p = nI 40 ∧ op < 5) := fun c => h106 (nI_lt c.2 (by omega))
              refine er_loc (pc' := 135) rfl rfl rfl ?_
              refine er_k (pc' := 136) (nI 1) rfl rfl rfl ?_
              refine er_pfIZ (pc' := 139) 4 rfl rfl rfl rfl rfl rfl ?_
              rw [RZ_b]
              have hq : qP (X 20) e 1 f op (p, s) = .inl p := by
                unfold qP
                rw [if_neg n27, if_neg (fun c => c n38), if_neg n64, if_neg n101]
              refine er_vret rfl rfl ?_
              exact PQ_inl hq hs hpe
            · have ho5 : op < 5 := (nI_ltI (by omega) (by omega)).mp h106
              have hq : qP (X 20) e 1 f op (p, s) = (match f 0 (op + 1) (p + 1, s) with
                | .inl x => .inl x
                | .inr s' => if pk (X 20) e s'.1 = nI 41 then .inr (s'.1 + 1, s'.2) else .inl s'.1) := by
                unfold qP
                rw [if_neg n27, if_neg (fun c => c n38), if_neg n64, if_pos ⟨h101, ho5⟩]
              refine er_loc (pc' := 110) rfl rfl rfl ?_
              refine er_pure (pc' := 111) rfl rfl rfl ?_
              refine er_gf (pc' := 114) (.int (nI p)) rfl rfl rfl rfl rfl ?_
              refine er_k (pc' := 115) (nI 1) rfl rfl rfl ?_
              refine er_iadd (pc' := 116) rfl rfl ?_
              rw [nI_add]
              refine er_pfIZ (pc' := 119) 3 rfl rfl rfl rfl rfl rfl ?_
              rw [RZ_p]
              refine er_loc (pc' := 120) rfl rfl rfl ?_
              refine er_k (pc' := 121) (nI 0) rfl rfl rfl ?_
              refine er_loc (pc' := 122) rfl rfl rfl ?_
              refine er_k (pc' := 123) (nI 1) rfl rfl rfl ?_
              refine er_iadd (pc' := 124) rfl rfl ?_
              rw [nI_add]
              refine er_cS (pc' := 127) (rest := []) rfl rfl rfl (H0 ho5 (p + 1) s hp1 hs) (fun r hr => ?_)
              cases hf : f 0 (op + 1) (p + 1, s) with
              | inl y =>
                rw [hf] at hr
                obtain ⟨s', g1, g2, rfl⟩ := hr
                change ER _ _ _ _ [] (Wd X (RZ Z 1 e y true s')) _
                refine er_loc (pc' := 128) rfl rfl rfl ?_
                refine er_cIn (pc' := 131) (rest := []) 9 rfl rfl rfl rfl rfl rfl (l_close _ _ _ he50 g2) ?_
                rw [show clo (X 20) e y true = (y, true) from rfl]
                refine er_goto rfl ?_
                refine er_vret rfl rfl ?_
                exact PQ_inl (by rw [hq, hf]) g1 g2
              | inr s' =>
                rw [hf] at hr
                obtain ⟨g1, g2, rfl⟩ := hr
                change ER _ _ _ _ [] (Wd X (RZ Z 1 e s'.1 false s'.2)) _
                refine er_loc (pc' := 128) rfl rfl rfl ?_
                refine er_cIn (pc' := 131) (rest := []) 9 rfl rfl rfl rfl rfl rfl (l_close _ _ _ he50 g1) ?_
                by_cases hc : pk (X 20) e s'.1 = nI 41
                · rw [show clo (X 20) e s'.1 false = (s'.1 + 1, false) from if_pos hc]
                  refine er_goto rfl ?_
                  refine er_vret rfl rfl ?_
                  exact PQ_inr (by rw [hq, hf]; exact if_pos hc) (pkq_lt hc (by decide +kernel)) g2
                rw [show clo (X 20) e s'.1 false = (s'.1, true) from if_neg hc]
                refine er_goto rfl ?_
                refine er_vret rfl rfl ?_
                exact PQ_inl (by rw [hq, hf]; exact if_neg hc) g2 g1
        · have hp1 := pkq_lt h64 (by decide +kernel)
          refine er_loc (pc' := 68) rfl rfl rfl ?_
          refine er_k (pc' := 69) (nI 5) rfl rfl rfl ?_
          refine er_cm_ge (pc' := 72) rfl rfl (fun h69 => ?_) (fun h69 => ?_)
          · have n64 : ¬ (pk (X 20) e p = nI 33 ∧ op < 5) := fun c => h69 (nI_lt c.2 (by omega))
            refine er_loc (pc' := 99) rfl rfl rfl ?_
            refine er_k (pc' := 101) (nI 40) rfl rfl rfl ?_
            refine er_cm_ne (pc' := 104) rfl rfl (fun h101 => ?_) (fun h101 => ?_)
            · have n101 : ¬ (pk (X 20) e p = nI 40 ∧ op < 5) := fun c => h101 c.1
              refine er_loc (pc' := 135) rfl rfl rfl ?_
              refine er_k (pc' := 136) (nI 1) rfl rfl rfl ?_
              refine er_pfIZ (pc' := 139) 4 rfl rfl rfl rfl rfl rfl ?_
              rw [RZ_b]
              have hq : qP (X 20) e 1 f op (p, s) = .inl p := by
                unfold qP
                rw [if_neg n27, if_neg (fun c => c n38), if_neg n64, if_neg n101]
              refine er_vret rfl rfl ?_
              exact PQ_inl hq hs hpe
            · have hp1 := pkq_lt h101 (by decide +kernel)
              refine er_loc (pc' := 105) rfl rfl rfl ?_
              refine er_k (pc' := 106) (nI 5) rfl rfl rfl ?_
              refine er_cm_ge (pc' := 109) rfl rfl (fun h106 => ?_) (fun h106 => ?_)
              · have n101 : ¬ (pk (X 20) e p = nI 40 ∧ op < 5) := fun c => h106 (nI_lt c.2 (by omega))
                refine er_loc (pc' := 135) rfl rfl rfl ?_
                refine er_k (pc' := 136) (nI 1) rfl rfl rfl ?_
                refine er_pfIZ (pc' := 139) 4 rfl rfl rfl rfl rfl rfl ?_
                rw [RZ_b]
                have hq : qP (X 20) e 1 f op (p, s) = .inl p := by
                  unfold qP
                  rw [if_neg n27, if_neg (fun c => c n38), if_neg n64, if_neg n101]
                refine er_vret rfl rfl ?_
                exact PQ_inl hq hs hpe
              · have ho5 : op < 5 := (nI_ltI (by omega) (by omega)).mp h106
                have hq : qP (X 20) e 1 f op (p, s) = (match f 0 (op + 1) (p + 1, s) with
                  | .inl x => .inl x
                  | .inr s' => if pk (X 20) e s'.1 = nI 41 then .inr (s'.1 + 1, s'.2) else .inl s'.1) := by
                  unfold qP
                  rw [if_neg n27, if_neg (fun c => c n38), if_neg n64, if_pos ⟨h101, ho5⟩]
                refine er_loc (pc' := 110) rfl rfl rfl ?_
                refine er_pure (pc' := 111) rfl rfl rfl ?_
                refine er_gf (pc' := 114) (.int (nI p)) rfl rfl rfl rfl rfl ?_
                refine er_k (pc' := 115) (nI 1) rfl rfl rfl ?_
                refine er_iadd (pc' := 116) rfl rfl ?_
                rw [nI_add]
                refine er_pfIZ (pc' := 119) 3 rfl rfl rfl rfl rfl rfl ?_
                rw [RZ_p]
                refine er_loc (pc' := 120) rfl rfl rfl ?_
                refine er_k (pc' := 121) (nI 0) rfl rfl rfl ?_
                refine er_loc (pc' := 122) rfl rfl rfl ?_
                refine er_k (pc' := 123) (nI 1) rfl rfl rfl ?_
                refine er_iadd (pc' := 124) rfl rfl ?_
                rw [nI_add]
                refine er_cS (pc' := 127) (rest := []) rfl rfl rfl (H0 ho5 (p + 1) s hp1 hs) (fun r hr => ?_)
                cases hf : f 0 (op + 1) (p + 1, s) with
                | inl y =>
                  rw [hf] at hr
                  obtain ⟨s', g1, g2, rfl⟩ := hr
                  change ER _ _ _ _ [] (Wd X (RZ Z 1 e y true s')) _
                  refine er_loc (pc' := 128) rfl rfl rfl ?_
                  refine er_cIn (pc' := 131) (rest := []) 9 rfl rfl rfl rfl rfl rfl (l_close _ _ _ he50 g2) ?_
                  rw [show clo (X 20) e y true = (y, true) from rfl]
                  refine er_goto rfl ?_
                  refine er_vret rfl rfl ?_
                  exact PQ_inl (by rw [hq, hf]) g1 g2
                | inr s' =>
                  rw [hf] at hr
                  obtain ⟨g1, g2, rfl⟩ := hr
                  change ER _ _ _ _ [] (Wd X (RZ Z 1 e s'.1 false s'.2)) _
                  refine er_loc (pc' := 128) rfl rfl rfl ?_
                  refine er_cIn (pc' := 131) (rest := []) 9 rfl rfl rfl rfl rfl rfl (l_close _ _ _ he50 g1) ?_
                  by_cases hc : pk (X 20) e s'.1 = nI 41
                  · rw [show clo (X 20) e s'.1 false = (s'.1 + 1, false) from if_pos hc]
                    refine er_goto rfl ?_
                    refine er_vret rfl rfl ?_
                    exact PQ_inr (by rw [hq, hf]; exact if_pos hc) (pkq_lt hc (by decide +kernel)) g2
                  rw [show clo (X 20) e s'.1 false = (s'.1, true) from if_neg hc]
                  refine er_goto rfl ?_
                  refine er_vret rfl rfl ?_
                  exact PQ_inl (by rw [hq, hf]; exact if_neg hc) g2 g1
          · have ho5 : op < 5 := (nI_ltI (by omega) (by omega)).mp h69
            have hq : qP (X 20) e 1 f op (p, s) = (match f 5 (op + 1) (p + 1, s) with
              | .inl x => .inl x
              | .inr s' => .inr (s'.1, wrC s'.2 (-33))) := by
              unfold qP
              rw [if_neg n27, if_neg (fun c => c n38), if_pos ⟨h64, ho5⟩]
            refine er_loc (pc' := 73) rfl rfl rfl ?_
            refine er_pure (pc' := 74) rfl rfl rfl ?_
            refine er_gf (pc' := 77) (.int (nI p)) rfl rfl rfl rfl rfl ?_
            refine er_k (pc' := 78) (nI 1) rfl rfl rfl ?_
            refine er_iadd (pc' := 79) rfl rfl ?_
            rw [nI_add]
            refine er_pfIZ (pc' := 82) 3 rfl rfl rfl rfl rfl rfl ?_
            rw [RZ_p]
            refine er_loc (pc' := 83) rfl rfl rfl ?_
            refine er_loc (pc' := 84) rfl rfl rfl ?_
            refine er_k (pc' := 85) (nI 1) rfl rfl rfl ?_
            refine er_iadd (pc' := 86) rfl rfl ?_
            rw [nI_add]
            refine er_cS (pc' := 89) (rest := []) rfl rfl rfl (H5 ho5 (p + 1) s hp1 hs) (fun r hr => ?_)
            cases hf : f 5 (op + 1) (p + 1, s) with
            | inl y =>
              rw [hf] at hr
              obtain ⟨s', g1, g2, rfl⟩ := hr
              change ER _ _ _ _ [] (Wd X (RZ Z 1 e y true s')) _
              refine er_loc (pc' := 90) rfl rfl rfl ?_
              refine er_k (pc' := 92) (-33) rfl rfl rfl ?_
              refine er_cIn (pc' := 95) (rest := []) 9 rfl rfl rfl rfl rfl rfl (l_write _ _ _ g1 _) ?_
              refine er_goto rfl ?_
              refine er_vret rfl rfl ?_
              exact PQ_inl (by rw [hq, hf]) (wrC_le g1) g2
            | inr s' =>
              rw [hf] at hr
              obtain ⟨g1, g2, rfl⟩ := hr
              change ER _ _ _ _ [] (Wd X (RZ Z 1 e s'.1 false s'.2)) _
              refine er_loc (pc' := 90) rfl rfl rfl ?_
              refine er_k (pc' := 92) (-33) rfl rfl rfl ?_
              refine er_cIn (pc' := 95) (rest := []) 9 rfl rfl rfl rfl rfl rfl (l_write _ _ _ g2 _) ?_
              refine er_goto rfl ?_
              refine er_vret rfl rfl ?_
              exact PQ_inr (by rw [hq, hf]) g1 (wrC_le g2)
      · have n38 : ¬ nmQ 1 (pk (X 20) e p) < 0 := h38
        have hp1 : p + 1 ≤ e := (pk_isN ht (fun c => n38 (by rw [show nmQ 1 (pk (X 20) e p) = -1 from if_pos c]; decide +kernel))).2
        have hq : qP (X 20) e 1 f op (p, s) = .inr (p + 1, wrC s (-1 - nmQ 1 (pk (X 20) e p))) := by
          unfold qP
          rw [if_neg n27, if_pos n38]
        refine er_loc (pc' := 42) rfl rfl rfl ?_
        refine er_pure (pc' := 43) rfl rfl rfl ?_
        refine er_gf (pc' := 46) (.int (nI p)) rfl rfl rfl rfl rfl ?_
        refine er_k (pc' := 47) (nI 1) rfl rfl rfl ?_
        refine er_iadd (pc' := 48) rfl rfl ?_
        rw [nI_add]
        refine er_pfIZ (pc' := 51) 3 rfl rfl rfl rfl rfl rfl ?_
        rw [RZ_p]
        refine er_loc (pc' := 52) rfl rfl rfl ?_
        refine er_k (pc' := 53) (-1) rfl rfl rfl ?_
        refine er_loc (pc' := 54) rfl rfl rfl ?_
        refine er_isub (pc' := 55) rfl rfl ?_
        refine er_cIn (pc' := 58) (rest := []) 9 rfl rfl rfl rfl rfl rfl (l_write _ _ _ hs _) ?_
        refine er_goto rfl ?_
        refine er_vret rfl rfl ?_
        exact PQ_inr hq hp1 (wrC_le hs)
    · have hq : qP (X 20) e 1 f op (p, s) = .inr ((pNum (X 20) e 4 p (nI 0)).1, wrC s (pNum (X 20) e 4 p (nI 0)).2) := if_pos h27
      refine er_loc (pc' := 31) rfl rfl rfl ?_
      refine er_cIn (pc' := 34) (rest := []) 9 rfl rfl rfl rfl rfl rfl (l_readNumber _ _ _ he50 hs hpe) ?_
      refine er_goto rfl ?_
      refine er_vret rfl rfl ?_
      exact PQ_inr hq (pNum_le _ _ _ hpe) (wrC_le hs)
  · have hb0 : pk (X 20) e p < 0 := h6
    have hn : (-1 : Int32) = nmQ 1 (pk (X 20) e p) := (if_pos hb0).symm
    refine er_k (pc' := 10) (-1) rfl rfl rfl ?_
    rw [hn]
    refine er_goto rfl ?_
    refine er_loc (pc' := 23) (L' := [(3, _), (2, _), (0, _), (1, _)]) rfl rfl rfl ?_
    refine er_loc (pc' := 24) rfl rfl rfl ?_
    refine er_cSi (pc' := 27) (rest := []) rfl rfl rfl (l_isDigit _ _ _) ?_
    refine er_if_eqb (pc' := 30) rfl rfl (fun h27 => ?_) (fun h27 => ?_)
    · have n27 : ¬ dg (pk (X 20) e p) = true := by rw [h27]; decide
      refine er_loc (pc' := 38) rfl rfl rfl ?_
      refine er_if_lt (pc' := 41) rfl rfl (fun h38 => ?_) (fun h38 => ?_)
      · have n38 : nmQ 1 (pk (X 20) e p) < 0 := h38
        refine er_loc (pc' := 62) rfl rfl rfl ?_
        refine er_k (pc' := 64) (nI 33) rfl rfl rfl ?_
        refine er_cm_ne (pc' := 67) rfl rfl (fun h64 => ?_) (fun h64 => ?_)
        · have n64 : ¬ (pk (X 20) e p = nI 33 ∧ op < 5) := fun c => h64 c.1
          refine er_loc (pc' := 99) rfl rfl rfl ?_
          refine er_k (pc' := 101) (nI 40) rfl rfl rfl ?_
          refine er_cm_ne (pc' := 104) rfl rfl (fun h101 => ?_) (fun h101 => ?_)
          · have n101 : ¬ (pk (X 20) e p = nI 40 ∧ op < 5) := fun c => h101 c.1
            refine er_loc (pc' := 135) rfl rfl rfl ?_
            refine er_k (pc' := 136) (nI 1) rfl rfl rfl ?_
            refine er_pfIZ (pc' := 139) 4 rfl rfl rfl rfl rfl rfl ?_
            rw [RZ_b]
            have hq : qP (X 20) e 1 f op (p, s) = .inl p := by
              unfold qP
              rw [if_neg n27, if_neg (fun c => c n38), if_neg n64, if_neg n101]
            refine er_vret rfl rfl ?_
            exact PQ_inl hq hs hpe
          · have hp1 := pkq_lt h101 (by decide +kernel)
            refine er_loc (pc' := 105) rfl rfl rfl ?_
            refine er_k (pc' := 106) (nI 5) rfl rfl rfl ?_
            refine er_cm_ge (pc' := 109) rfl rfl (fun h106 => ?_) (fun h106 => ?_)
            · have n101 : ¬ (pk (X 20) e p = nI 40 ∧ op < 5) := fun c => h106 (nI_lt c.2 (by omega))
              refine er_loc (pc' := 135) rfl rfl rfl ?_
              refine er_k (pc' := 136) (nI 1) rfl rfl rfl ?_
              refine er_pfIZ (pc' := 139) 4 rfl rfl rfl rfl rfl rfl ?_
              rw [RZ_b]
              have hq : qP (X 20) e 1 f op (p, s) = .inl p := by
                unfold qP
                rw [if_neg n27, if_neg (fun c => c n38), if_neg n64, if_neg n101]
              refine er_vret rfl rfl ?_
              exact PQ_inl hq hs hpe
            · have ho5 : op < 5 := (nI_ltI (by omega) (by omega)).mp h106
              have hq : qP (X 20) e 1 f op (p, s) = (match f 0 (op + 1) (p + 1, s) with
                | .inl x => .inl x
                | .inr s' => if pk (X 20) e s'.1 = nI 41 then .inr (s'.1 + 1, s'.2) else .inl s'.1) := by
                unfold qP
                rw [if_neg n27, if_neg (fun c => c n38), if_neg n64, if_pos ⟨h101, ho5⟩]
              refine er_loc (pc' := 110) rfl rfl rfl ?_
              refine er_pure (pc' := 111) rfl rfl rfl ?_
              refine er_gf (pc' := 114) (.int (nI p)) rfl rfl rfl rfl rfl ?_
              refine er_k (pc' := 115) (nI 1) rfl rfl rfl ?_
              refine er_iadd (pc' := 116) rfl rfl ?_
              rw [nI_add]
              refine er_pfIZ (pc' := 119) 3 rfl rfl rfl rfl rfl rfl ?_
              rw [RZ_p]
              refine er_loc (pc' := 120) rfl rfl rfl ?_
              refine er_k (pc' := 121) (nI 0) rfl rfl rfl ?_
              refine er_loc (pc' := 122) rfl rfl rfl ?_
              refine er_k (pc' := 123) (nI 1) rfl rfl rfl ?_
              refine er_iadd (pc' := 124) rfl rfl ?_
              rw [nI_add]
              refine er_cS (pc' := 127) (rest := []) rfl rfl rfl (H0 ho5 (p + 1) s hp1 hs) (fun r hr => ?_)
              cases hf : f 0 (op + 1) (p + 1, s) with
              | inl y =>
                rw [hf] at hr
                obtain ⟨s', g1, g2, rfl⟩ := hr
                change ER _ _ _ _ [] (Wd X (RZ Z 1 e y true s')) _
                refine er_loc (pc' := 128) rfl rfl rfl ?_
                refine er_cIn (pc' := 131) (rest := []) 9 rfl rfl rfl rfl rfl rfl (l_close _ _ _ he50 g2) ?_
                rw [show clo (X 20) e y true = (y, true) from rfl]
                refine er_goto rfl ?_
                refine er_vret rfl rfl ?_
                exact PQ_inl (by rw [hq, hf]) g1 g2
              | inr s' =>
                rw [hf] at hr
                obtain ⟨g1, g2, rfl⟩ := hr
                change ER _ _ _ _ [] (Wd X (RZ Z 1 e s'.1 false s'.2)) _
                refine er_loc (pc' := 128) rfl rfl rfl ?_
                refine er_cIn (pc' := 131) (rest := []) 9 rfl rfl rfl rfl rfl rfl (l_close _ _ _ he50 g1) ?_
                by_cases hc : pk (X 20) e s'.1 = nI 41
                · rw [show clo (X 20) e s'.1 false = (s'.1 + 1, false) from if_pos hc]
                  refine er_goto rfl ?_
                  refine er_vret rfl rfl ?_
                  exact PQ_inr (by rw [hq, hf]; exact if_pos hc) (pkq_lt hc (by decide +kernel)) g2
                rw [show clo (X 20) e s'.1 false = (s'.1, true) from if_neg hc]
                refine er_goto rfl ?_
                refine er_vret rfl rfl ?_
                exact PQ_inl (by rw [hq, hf]; exact if_neg hc) g2 g1
        · have hp1 := pkq_lt h64 (by decide +kernel)
          refine er_loc (pc' := 68) rfl rfl rfl ?_
          refine er_k (pc' := 69) (nI 5) rfl rfl rfl ?_
          refine er_cm_ge (pc' := 72) rfl rfl (fun h69 => ?_) (fun h69 => ?_)
          · have n64 : ¬ (pk (X 20) e p = nI 33 ∧ op < 5) := fun c => h69 (nI_lt c.2 (by omega))
            refine er_loc (pc' := 99) rfl rfl rfl ?_
            refine er_k (pc' := 101) (nI 40) rfl rfl rfl ?_
            refine er_cm_ne (pc' := 104) rfl rfl (fun h101 => ?_) (fun h101 => ?_)
            · have n101 : ¬ (pk (X 20) e p = nI 40 ∧ op < 5) := fun c => h101 c.1
              refine er_loc (pc' := 135) rfl rfl rfl ?_
              refine er_k (pc' := 136) (nI 1) rfl rfl rfl ?_
              refine er_pfIZ (pc' := 139) 4 rfl rfl rfl rfl rfl rfl ?_
              rw [RZ_b]
              have hq : qP (X 20) e 1 f op (p, s) = .inl p := by
                unfold qP
                rw [if_neg n27, if_neg (fun c => c n38), if_neg n64, if_neg n101]
              refine er_vret rfl rfl ?_
              exact PQ_inl hq hs hpe
            · have hp1 := pkq_lt h101 (by decide +kernel)
              refine er_loc (pc' := 105) rfl rfl rfl ?_
              refine er_k (pc' := 106) (nI 5) rfl rfl rfl ?_
              refine er_cm_ge (pc' := 109) rfl rfl (fun h106 => ?_) (fun h106 => ?_)
              · have n101 : ¬ (pk (X 20) e p = nI 40 ∧ op < 5) := fun c => h106 (nI_lt c.2 (by omega))
                refine er_loc (pc' := 135) rfl rfl rfl ?_
                refine er_k (pc' := 136) (nI 1) rfl rfl rfl ?_
                refine er_pfIZ (pc' := 139) 4 rfl rfl rfl rfl rfl rfl ?_
                rw [RZ_b]
                have hq : qP (X 20) e 1 f op (p, s) = .inl p := by
                  unfold qP
                  rw [if_neg n27, if_neg (fun c => c n38), if_neg n64, if_neg n101]
                refine er_vret rfl rfl ?_
                exact PQ_inl hq hs hpe
              · have ho5 : op < 5 := (nI_ltI (by omega) (by omega)).mp h106
                have hq : qP (X 20) e 1 f op (p, s) = (match f 0 (op + 1) (p + 1, s) with
                  | .inl x => .inl x
                  | .inr s' => if pk (X 20) e s'.1 = nI 41 then .inr (s'.1 + 1, s'.2) else .inl s'.1) := by
                  unfold qP
                  rw [if_neg n27, if_neg (fun c => c n38), if_neg n64, if_pos ⟨h101, ho5⟩]
                refine er_loc (pc' := 110) rfl rfl rfl ?_
                refine er_pure (pc' := 111) rfl rfl rfl ?_
                refine er_gf (pc' := 114) (.int (nI p)) rfl rfl rfl rfl rfl ?_
                refine er_k (pc' := 115) (nI 1) rfl rfl rfl ?_
                refine er_iadd (pc' := 116) rfl rfl ?_
                rw [nI_add]
                refine er_pfIZ (pc' := 119) 3 rfl rfl rfl rfl rfl rfl ?_
                rw [RZ_p]
                refine er_loc (pc' := 120) rfl rfl rfl ?_
                refine er_k (pc' := 121) (nI 0) rfl rfl rfl ?_
                refine er_loc (pc' := 122) rfl rfl rfl ?_
                refine er_k (pc' := 123) (nI 1) rfl rfl rfl ?_
                refine er_iadd (pc' := 124) rfl rfl ?_
                rw [nI_add]
                refine er_cS (pc' := 127) (rest := []) rfl rfl rfl (H0 ho5 (p + 1) s hp1 hs) (fun r hr => ?_)
                cases hf : f 0 (op + 1) (p + 1, s) with
                | inl y =>
                  rw [hf] at hr
                  obtain ⟨s', g1, g2, rfl⟩ := hr
                  change ER _ _ _ _ [] (Wd X (RZ Z 1 e y true s')) _
                  refine er_loc (pc' := 128) rfl rfl rfl ?_
                  refine er_cIn (pc' := 131) (rest := []) 9 rfl rfl rfl rfl rfl rfl (l_close _ _ _ he50 g2) ?_
                  rw [show clo (X 20) e y true = (y, true) from rfl]
                  refine er_goto rfl ?_
                  refine er_vret rfl rfl ?_
                  exact PQ_inl (by rw [hq, hf]) g1 g2
                | inr s' =>
                  rw [hf] at hr
                  obtain ⟨g1, g2, rfl⟩ := hr
                  change ER _ _ _ _ [] (Wd X (RZ Z 1 e s'.1 false s'.2)) _
                  refine er_loc (pc' := 128) rfl rfl rfl ?_
                  refine er_cIn (pc' := 131) (rest := []) 9 rfl rfl rfl rfl rfl rfl (l_close _ _ _ he50 g1) ?_
                  by_cases hc : pk (X 20) e s'.1 = nI 41
                  · rw [show clo (X 20) e s'.1 false = (s'.1 + 1, false) from if_pos hc]
                    refine er_goto rfl ?_
                    refine er_vret rfl rfl ?_
                    exact PQ_inr (by rw [hq, hf]; exact if_pos hc) (pkq_lt hc (by decide +kernel)) g2
                  rw [show clo (X 20) e s'.1 false = (s'.1, true) from if_neg hc]
                  refine er_goto rfl ?_
                  refine er_vret rfl rfl ?_
                  exact PQ_inl (by rw [hq, hf]; exact if_neg hc) g2 g1
          · have ho5 : op < 5 := (nI_ltI (by omega) (by omega)).mp h69
            have hq : qP (X 20) e 1 f op (p, s) = (match f 5 (op + 1) (p + 1, s) with
              | .inl x => .inl x
              | .inr s' => .inr (s'.1, wrC s'.2 (-33))) := by
              unfold qP
              rw [if_neg n27, if_neg (fun c => c n38), if_pos ⟨h64, ho5⟩]
            refine er_loc (pc' := 73) rfl rfl rfl ?_
            refine er_pure (pc' := 74) rfl rfl rfl ?_
            refine er_gf (pc' := 77) (.int (nI p)) rfl rfl rfl rfl rfl ?_
            refine er_k (pc' := 78) (nI 1) rfl rfl rfl ?_
            refine er_iadd (pc' := 79) rfl rfl ?_
            rw [nI_add]
            refine er_pfIZ (pc' := 82) 3 rfl rfl rfl rfl rfl rfl ?_
            rw [RZ_p]
            refine er_loc (pc' := 83) rfl rfl rfl ?_
            refine er_loc (pc' := 84) rfl rfl rfl ?_
            refine er_k (pc' := 85) (nI 1) rfl rfl rfl ?_
            refine er_iadd (pc' := 86) rfl rfl ?_
            rw [nI_add]
            refine er_cS (pc' := 89) (rest := []) rfl rfl rfl (H5 ho5 (p + 1) s hp1 hs) (fun r hr => ?_)
            cases hf : f 5 (op + 1) (p + 1, s) with
            | inl y =>
              rw [hf] at hr
              obtain ⟨s', g1, g2, rfl⟩ := hr
              change ER _ _ _ _ [] (Wd X (RZ Z 1 e y true s')) _
              refine er_loc (pc' := 90) rfl rfl rfl ?_
              refine er_k (pc' := 92) (-33) rfl rfl rfl ?_
              refine er_cIn (pc' := 95) (rest := []) 9 rfl rfl rfl rfl rfl rfl (l_write _ _ _ g1 _) ?_
              refine er_goto rfl ?_
              refine er_vret rfl rfl ?_
              exact PQ_inl (by rw [hq, hf]) (wrC_le g1) g2
            | inr s' =>
              rw [hf] at hr
              obtain ⟨g1, g2, rfl⟩ := hr
              change ER _ _ _ _ [] (Wd X (RZ Z 1 e s'.1 false s'.2)) _
              refine er_loc (pc' := 90) rfl rfl rfl ?_
              refine er_k (pc' := 92) (-33) rfl rfl rfl ?_
              refine er_cIn (pc' := 95) (rest := []) 9 rfl rfl rfl rfl rfl rfl (l_write _ _ _ g2 _) ?_
              refine er_goto rfl ?_
              refine er_vret rfl rfl ?_
              exact PQ_inr (by rw [hq, hf]) g1 (wrC_le g2)
      · have n38 : ¬ nmQ 1 (pk (X 20) e p) < 0 := h38
        have hp1 : p + 1 ≤ e := (pk_isN ht (fun c => n38 (by rw [show nmQ 1 (pk (X 20) e p) = -1 from if_pos c]; decide +kernel))).2
        have hq : qP (X 20) e 1 f op (p, s) = .inr (p + 1, wrC s (-1 - nmQ 1 (pk (X 20) e p))) := by
          unfold qP
          rw [if_neg n27, if_pos n38]
        refine er_loc (pc' := 42) rfl rfl rfl ?_
        refine er_pure (pc' := 43) rfl rfl rfl ?_
        refine er_gf (pc' := 46) (.int (nI p)) rfl rfl rfl rfl rfl ?_
        refine er_k (pc' := 47) (nI 1) rfl rfl rfl ?_
        refine er_iadd (pc' := 48) rfl rfl ?_
        rw [nI_add]
        refine er_pfIZ (pc' := 51) 3 rfl rfl rfl rfl rfl rfl ?_
        rw [RZ_p]
        refine er_loc (pc' := 52) rfl rfl rfl ?_
        refine er_k (pc' := 53) (-1) rfl rfl rfl ?_
        refine er_loc (pc' := 54) rfl rfl rfl ?_
        refine er_isub (pc' := 55) rfl rfl ?_
        refine er_cIn (pc' := 58) (rest := []) 9 rfl rfl rfl rfl rfl rfl (l_write _ _ _ hs _) ?_
        refine er_goto rfl ?_
        refine er_vret rfl rfl ?_
        exact PQ_inr hq hp1 (wrC_le hs)
    · have hq : qP (X 20) e 1 f op (p, s) = .inr ((pNum (X 20) e 4 p (nI 0)).1, wrC s (pNum (X 20) e 4 p (nI 0)).2) := if_pos h27
      refine er_loc (pc' := 31) rfl rfl rfl ?_
      refine er_cIn (pc' := 34) (rest := []) 9 rfl rfl rfl rfl rfl rfl (l_readNumber _ _ _ he50 hs hpe) ?_
      refine er_goto rfl ?_
      refine er_vret rfl rfl ?_
      exact PQ_inr hq (pNum_le _ _ _ hpe) (wrC_le hs)
set_option maxRecDepth 100000 in
set_option maxHeartbeats 4000000 in
theorem l_qq1 (X Z : Nat → Nat → Int32) {e : Nat} (ht : ∀ k, isN (X 20 k) 255) (he50 : e ≤ 50) : ∀ (F D : Nat), 2 * F + 6 ≤ D →
    (∀ (op p : Nat) (s : Nat × (Nat → Int32)), op ≤ 5 → (5 - op) * 6 + 1 ≤ F → p ≤ e → s.1 ≤ 50 → EC D 63 [.ref 48, .int (nI op)] (Wd X (RZ Z 1 e p false s)) (PQ X Z 1 e (qq (X 20) e 1 F 5 op (p, s)))) ∧
    (∀ (rk op p : Nat) (s : Nat × (Nat → Int32)), rk ≤ 5 → op ≤ 5 → (5 - op) * 6 + (5 - rk) + 1 ≤ F → p ≤ e → s.1 ≤ 50 → EC (D + 1) 62 [.ref 48, .int (nI rk), .int (nI op)] (Wd X (RZ Z 1 e p false s)) (PQ X Z 1 e (qq (X 20) e 1 F rk op (p, s))))
  | 0, D, _ => ⟨fun op p s _ h => by omega, fun rk op p s _ _ h => by omega⟩
  | F + 1, D, hD => by
    obtain ⟨D, rfl⟩ : ∃ D', D = D' + 6 := ⟨D - 6, by omega⟩
    have ih := l_qq1 X Z ht he50 F (D + 4) (by omega)
    have ih5 := l_qq1 X Z ht he50 F (D + 5) (by omega)
    have hp : ∀ (op p : Nat) (s : Nat × (Nat → Int32)), op ≤ 5 → (5 - op) * 6 + 1 ≤ F + 1 → p ≤ e → s.1 ≤ 50 → EC (D + 6) 63 [.ref 48, .int (nI op)] (Wd X (RZ Z 1 e p false s)) (PQ X Z 1 e (qq (X 20) e 1 (F + 1) 5 op (p, s))) := by
      intro op p s hop hF hpe hs
      rw [qq_P]
      exact l_q_part1 (D + 1) X Z ht hop he50 hpe hs (fun ho p s h1 h2 => ih.2 0 (op + 1) p s (by omega) (by omega) (by omega) h1 h2) (fun ho p s h1 h2 => ih5.1 (op + 1) p s (by omega) (by omega) h1 h2)
    refine ⟨hp, ?_⟩
    intro rk op p s hrk hop hF hpe hs
    rcases Nat.lt_or_ge rk 5 with c | c
    · rw [qq_R c]
      exact l_q_rank (D + 4) X Z c he50 hpe hs (fun p s h1 h2 => ih5.2 (rk + 1) op p s (by omega) hop (by omega) h1 h2)
    · have c5 : rk = 5 := by omega
      subst c5
      exact l_q_rank5 (D + 6) X Z (hp op p s hop (by omega) hpe hs)
