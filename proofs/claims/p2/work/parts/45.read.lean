/-! READING a text: small things -/
abbrev PS : Type := Nat × Nat × (Nat → Int32)
abbrev PT : Type := Nat ⊕ PS
def pk (tp : Nat → Int32) (e p : Nat) : Int32 := if p < e then tp p else -1
def dg (b : Int32) : Bool := !decide (b < nI 48) && !decide (nI 57 < b)
def wrC (s : Nat × (Nat → Int32)) (g : Int32) : Nat × (Nat → Int32) := if s.1 < 50 then (s.1 + 1, u1 s.2 s.1 g) else s
def jn2 (rk : Nat) (b : Int32) : Bool := match rk with
  | 0 => decide (b = nI 124)
  | 1 => decide (b = nI 38)
  | 2 => decide (b = nI 60) || (decide (b = nI 61) || decide (b = nI 62))
  | 3 => decide (b = nI 43) || decide (b = nI 45)
  | _ => decide (b = nI 42) || (decide (b = nI 47) || decide (b = nI 37))
def pNum (tp : Nat → Int32) (e : Nat) : Nat → Nat → Int32 → Nat × Int32
  | 0, p, v => (p, v)
  | m + 1, p, v => if dg (pk tp e p) = true then pNum tp e m (p + 1) (v * nI 10 + pk tp e p - nI 48) else (p, v)
def rzf (u e p : Nat) (bad : Bool) (w : Nat) : Nat → Int32 := fun k => match k with
  | 0 => nI 20
  | 1 => nI e
  | 2 => nI (1000101 + u)
  | 3 => nI p
  | 4 => bI bad
  | 6 => nI w
  | _ => 0
def RZ (Z : Nat → Nat → Int32) (u e p : Nat) (bad : Bool) (s : Nat × (Nat → Int32)) : Nat → Nat → Int32 := uc (uc Z 48 (rzf u e p bad s.1)) 50 s.2
theorem rzf_p {u e p q w : Nat} {bad : Bool} : u1 (rzf u e p bad w) 3 (nI q) = rzf u e q bad w := by
  funext k
  match k with
  | 0 => rfl
  | 1 => rfl
  | 2 => rfl
  | 3 => rfl
  | 4 => rfl
  | 5 => rfl
  | 6 => rfl
  | k + 7 => simp [u1, rzf]
theorem rzf_b {u e p w : Nat} {bad : Bool} : u1 (rzf u e p bad w) 4 (nI 1) = rzf u e p true w := by
  funext k
  match k with
  | 0 => rfl
  | 1 => rfl
  | 2 => rfl
  | 3 => rfl
  | 4 => rfl
  | 5 => rfl
  | 6 => rfl
  | k + 7 => simp [u1, rzf]
theorem rzf_w {u e p w q : Nat} {bad : Bool} : u1 (rzf u e p bad w) 6 (nI q) = rzf u e p bad q := by
  funext k
  match k with
  | 0 => rfl
  | 1 => rfl
  | 2 => rfl
  | 3 => rfl
  | 4 => rfl
  | 5 => rfl
  | 6 => rfl
  | k + 7 => simp [u1, rzf]
section RZS
variable {Z : Nat → Nat → Int32} {u e p q : Nat} {bad : Bool} {s : Nat × (Nat → Int32)}
theorem RZ_48 : RZ Z u e p bad s 48 = rzf u e p bad s.1 := by unfold RZ; rw [uc_ne (by omega), uc_same]
theorem RZ_50 : RZ Z u e p bad s 50 = s.2 := by unfold RZ; rw [uc_same]
theorem RZ_u48 {f : Nat → Int32} {w : Nat} {bad' : Bool} (h : f = rzf u e q bad' w) : uc (RZ Z u e p bad s) 48 f = RZ Z u e q bad' (w, s.2) := by
  unfold RZ
  rw [uc_comm (show 50 ≠ 48 by omega), uc_uc, h]
theorem RZ_p : ud (RZ Z u e p bad s) 48 3 (nI q) = RZ Z u e q bad s := by
  unfold ud
  exact RZ_u48 (by rw [RZ_48, rzf_p])
theorem RZ_b : ud (RZ Z u e p bad s) 48 4 (nI 1) = RZ Z u e p true s := by
  unfold ud
  exact RZ_u48 (by rw [RZ_48, rzf_b])
theorem RZ_wr {g : Int32} (h : s.1 < 50) : ud (ud (RZ Z u e p bad s) 50 s.1 g) 48 6 (nI (s.1 + 1)) = RZ Z u e p bad (wrC s g) := by
  have e1 : wrC s g = (s.1 + 1, u1 s.2 s.1 g) := if_pos h
  rw [e1]
  have e2 : ud (RZ Z u e p bad s) 50 s.1 g = RZ Z u e p bad (s.1, u1 s.2 s.1 g) := by
    unfold ud
    rw [RZ_50]
    unfold RZ
    rw [uc_uc]
  rw [e2]
  unfold ud
  exact RZ_u48 (by rw [RZ_48, rzf_w])
theorem wrC_le {g : Int32} (h : s.1 ≤ 50) : (wrC s g).1 ≤ 50 := by
  unfold wrC
  split
  · show s.1 + 1 ≤ 50; omega
  · exact h
end RZS
def PN (X Z : Nat → Nat → Int32) : ab_R → Prop := fun r => r = (none, Wd X Z)
section ERX
variable {d pc pc' lk : Nat} {M : ab_M} {L L' : ab_Lo} {st : List Value} {w : ab_W} {P : ab_R → Prop} {X Z : Nat → Nat → Int32}
theorem er_cIn (cls : Nat) {c j : Nat} {Z' : Nat → Nat → Int32} {ins : Instr} {fs As rest : List Value} (hf : ab_fetch M.2.2.2.2.2.2.2 pc = some (ins, lk)) (hi : isCI ins = true) (hq : qI lk cls st = some (c, j, As, rest)) (hc : Nat.blt c 79 = true) (ho : cO c (X c) (Z c) = .inl (cls, fs)) (hp : pc + 3 = pc') (h : EC d j As (Wd X Z) (PN X Z')) (k : ER d M pc' L rest (Wd X Z') P) : ER d M pc L st (Wd X Z) P :=
  er_cI cls hf hi hq hc ho hp h (fun r hr => by cases hr; exact k)
end ERX
theorem PN_of {X Z Z' : Nat → Nat → Int32} (h : Z' = Z) : PN X Z (none, Wd X Z') := by rw [h]; rfl
set_option maxRecDepth 100000 in
set_option maxHeartbeats 4000000 in
theorem l_isDigit (d : Nat) (b : Int32) (w : ab_W) : EC (d + 1) 65 [.int b] w (PI (bI (dg b)) w) := by
  refine er_enter (L := [(0, _)]) rfl rfl rfl ?_
  refine er_loc (pc' := 1) rfl rfl rfl ?_
  refine er_k (pc' := 3) (nI 48) rfl rfl rfl ?_
  refine er_cm_lt (pc' := 6) rfl rfl (fun h3 => ?_) (fun h3 => ?_)
  · refine er_k (pc' := 17) (nI 0) rfl rfl rfl ?_
    refine er_ret _ rfl rfl ?_
    exact PI_of (bI_eq0 (by simp [dg, *]))
  · refine er_loc (pc' := 7) rfl rfl rfl ?_
    refine er_k (pc' := 9) (nI 57) rfl rfl rfl ?_
    refine er_cm_gt (pc' := 12) rfl rfl (fun h9 => ?_) (fun h9 => ?_)
    · refine er_k (pc' := 17) (nI 0) rfl rfl rfl ?_
      refine er_ret _ rfl rfl ?_
      exact PI_of (bI_eq0 (by simp [dg, *]))
    · refine er_k (pc' := 13) (nI 1) rfl rfl rfl ?_
      refine er_goto rfl ?_
      refine er_ret _ rfl rfl ?_
      exact PI_of (bI_eq1 (by simp [dg, *]))
set_option maxRecDepth 100000 in
set_option maxHeartbeats 4000000 in
theorem l_joins0 (d : Nat) (b : Int32) (w : ab_W) : EC (d + 1) 69 [.int (nI 0), .int b] w (PI (bI (jn2 0 b)) w) := by
  refine er_enter (L := [(0, _), (1, _)]) rfl rfl rfl ?_
  refine er_loc (pc' := 1) rfl rfl rfl ?_
  refine er_br (pc' := 32) rfl rfl ?_
  refine er_loc (pc' := 33) rfl rfl rfl ?_
  refine er_k (pc' := 35) (nI 124) rfl rfl rfl ?_
  refine er_cm_ne (pc' := 38) rfl rfl (fun h35 => ?_) (fun h35 => ?_)
  · refine er_k (pc' := 43) (nI 0) rfl rfl rfl ?_
    refine er_ret _ rfl rfl ?_
    exact PI_of (bI_eq0 (by simp [jn2, *]))
  · refine er_k (pc' := 39) (nI 1) rfl rfl rfl ?_
    refine er_goto rfl ?_
    refine er_ret _ rfl rfl ?_
    exact PI_of (bI_eq1 (by simp [jn2, *]))
set_option maxRecDepth 100000 in
set_option maxHeartbeats 4000000 in
theorem l_joins1 (d : Nat) (b : Int32) (w : ab_W) : EC (d + 1) 69 [.int (nI 1), .int b] w (PI (bI (jn2 1 b)) w) := by
  refine er_enter (L := [(0, _), (1, _)]) rfl rfl rfl ?_
  refine er_loc (pc' := 1) rfl rfl rfl ?_
  refine er_br (pc' := 44) rfl rfl ?_
  refine er_loc (pc' := 45) rfl rfl rfl ?_
  refine er_k (pc' := 47) (nI 38) rfl rfl rfl ?_
  refine er_cm_ne (pc' := 50) rfl rfl (fun h47 => ?_) (fun h47 => ?_)
  · refine er_k (pc' := 55) (nI 0) rfl rfl rfl ?_
    refine er_ret _ rfl rfl ?_
    exact PI_of (bI_eq0 (by simp [jn2, *]))
  · refine er_k (pc' := 51) (nI 1) rfl rfl rfl ?_
    refine er_goto rfl ?_
    refine er_ret _ rfl rfl ?_
    exact PI_of (bI_eq1 (by simp [jn2, *]))
set_option maxRecDepth 100000 in
set_option maxHeartbeats 4000000 in
theorem l_joins2 (d : Nat) (b : Int32) (w : ab_W) : EC (d + 1) 69 [.int (nI 2), .int b] w (PI (bI (jn2 2 b)) w) := by
  refine er_enter (L := [(0, _), (1, _)]) rfl rfl rfl ?_
  refine er_loc (pc' := 1) rfl rfl rfl ?_
  refine er_br (pc' := 56) rfl rfl ?_
  refine er_loc (pc' := 57) rfl rfl rfl ?_
  refine er_k (pc' := 59) (nI 60) rfl rfl rfl ?_
  refine er_cm_eq (pc' := 62) rfl rfl (fun h59 => ?_) (fun h59 => ?_)
  · refine er_k (pc' := 75) (nI 1) rfl rfl rfl ?_
    refine er_goto rfl ?_
    refine er_ret _ rfl rfl ?_
    exact PI_of (bI_eq1 (by simp [jn2, *]))
  · refine er_loc (pc' := 63) rfl rfl rfl ?_
    refine er_k (pc' := 65) (nI 61) rfl rfl rfl ?_
    refine er_cm_eq (pc' := 68) rfl rfl (fun h65 => ?_) (fun h65 => ?_)
    · refine er_k (pc' := 75) (nI 1) rfl rfl rfl ?_
      refine er_goto rfl ?_
      refine er_ret _ rfl rfl ?_
      exact PI_of (bI_eq1 (by simp [jn2, *]))
    · refine er_loc (pc' := 69) rfl rfl rfl ?_
      refine er_k (pc' := 71) (nI 62) rfl rfl rfl ?_
      refine er_cm_ne (pc' := 74) rfl rfl (fun h71 => ?_) (fun h71 => ?_)
      · refine er_k (pc' := 79) (nI 0) rfl rfl rfl ?_
        refine er_ret _ rfl rfl ?_
        exact PI_of (bI_eq0 (by simp [jn2, *]))
      · refine er_k (pc' := 75) (nI 1) rfl rfl rfl ?_
        refine er_goto rfl ?_
        refine er_ret _ rfl rfl ?_
        exact PI_of (bI_eq1 (by simp [jn2, *]))
set_option maxRecDepth 100000 in
set_option maxHeartbeats 4000000 in
theorem l_joins3 (d : Nat) (b : Int32) (w : ab_W) : EC (d + 1) 69 [.int (nI 3), .int b] w (PI (bI (jn2 3 b)) w) := by
  refine er_enter (L := [(0, _), (1, _)]) rfl rfl rfl ?_
  refine er_loc (pc' := 1) rfl rfl rfl ?_
  refine er_br (pc' := 80) rfl rfl ?_
  refine er_loc (pc' := 81) rfl rfl rfl ?_
  refine er_k (pc' := 83) (nI 43) rfl rfl rfl ?_
  refine er_cm_eq (pc' := 86) rfl rfl (fun h83 => ?_) (fun h83 => ?_)
  · refine er_k (pc' := 93) (nI 1) rfl rfl rfl ?_
    refine er_goto rfl ?_
    refine er_ret _ rfl rfl ?_
    exact PI_of (bI_eq1 (by simp [jn2, *]))
  · refine er_loc (pc' := 87) rfl rfl rfl ?_
    refine er_k (pc' := 89) (nI 45) rfl rfl rfl ?_
    refine er_cm_ne (pc' := 92) rfl rfl (fun h89 => ?_) (fun h89 => ?_)
    · refine er_k (pc' := 97) (nI 0) rfl rfl rfl ?_
      refine er_ret _ rfl rfl ?_
      exact PI_of (bI_eq0 (by simp [jn2, *]))
    · refine er_k (pc' := 93) (nI 1) rfl rfl rfl ?_
      refine er_goto rfl ?_
      refine er_ret _ rfl rfl ?_
      exact PI_of (bI_eq1 (by simp [jn2, *]))
set_option maxRecDepth 100000 in
set_option maxHeartbeats 4000000 in
theorem l_joins4 (d : Nat) (b : Int32) (w : ab_W) : EC (d + 1) 69 [.int (nI 4), .int b] w (PI (bI (jn2 4 b)) w) := by
  refine er_enter (L := [(0, _), (1, _)]) rfl rfl rfl ?_
  refine er_loc (pc' := 1) rfl rfl rfl ?_
  refine er_br (pc' := 98) rfl rfl ?_
  refine er_loc (pc' := 99) rfl rfl rfl ?_
  refine er_k (pc' := 101) (nI 42) rfl rfl rfl ?_
  refine er_cm_eq (pc' := 104) rfl rfl (fun h101 => ?_) (fun h101 => ?_)
  · refine er_k (pc' := 117) (nI 1) rfl rfl rfl ?_
    refine er_goto rfl ?_
    refine er_ret _ rfl rfl ?_
    exact PI_of (bI_eq1 (by simp [jn2, *]))
  · refine er_loc (pc' := 105) rfl rfl rfl ?_
    refine er_k (pc' := 107) (nI 47) rfl rfl rfl ?_
    refine er_cm_eq (pc' := 110) rfl rfl (fun h107 => ?_) (fun h107 => ?_)
    · refine er_k (pc' := 117) (nI 1) rfl rfl rfl ?_
      refine er_goto rfl ?_
      refine er_ret _ rfl rfl ?_
      exact PI_of (bI_eq1 (by simp [jn2, *]))
    · refine er_loc (pc' := 111) rfl rfl rfl ?_
      refine er_k (pc' := 113) (nI 37) rfl rfl rfl ?_
      refine er_cm_ne (pc' := 116) rfl rfl (fun h113 => ?_) (fun h113 => ?_)
      · refine er_k (pc' := 121) (nI 0) rfl rfl rfl ?_
        refine er_ret _ rfl rfl ?_
        exact PI_of (bI_eq0 (by simp [jn2, *]))
      · refine er_k (pc' := 117) (nI 1) rfl rfl rfl ?_
        refine er_goto rfl ?_
        refine er_ret _ rfl rfl ?_
        exact PI_of (bI_eq1 (by simp [jn2, *]))
theorem lt5 {q : Nat} (h : q < 5) : q = 0 ∨ q = 1 ∨ q = 2 ∨ q = 3 ∨ q = 4 := by omega
theorem l_joins (d rk : Nat) (h : rk < 5) (b : Int32) (w : ab_W) : EC (d + 1) 69 [.int (nI rk), .int b] w (PI (bI (jn2 rk b)) w) := by
  rcases lt5 h with rfl | rfl | rfl | rfl | rfl
  · exact l_joins0 d b w
  · exact l_joins1 d b w
  · exact l_joins2 d b w
  · exact l_joins3 d b w
  · exact l_joins4 d b w
def ahd (tp : Nat → Int32) (e p : Nat) (bad : Bool) : Int32 := if bad = true then -1 else pk tp e p
set_option maxRecDepth 100000 in
set_option maxHeartbeats 4000000 in
theorem l_ahead (d : Nat) (X Z : Nat → Nat → Int32) {u e p : Nat} {bad : Bool} {s : Nat × (Nat → Int32)} (he50 : e ≤ 50) (hpe : p ≤ e) : EC (d + 1) 64 [.ref 48] (Wd X (RZ Z u e p bad s)) (PI (ahd (X 20) e p bad) (Wd X (RZ Z u e p bad s))) := by
  refine er_enter (L := [(0, _)]) rfl rfl rfl ?_
  refine er_loc (pc' := 1) rfl rfl rfl ?_
  refine er_gf (pc' := 4) (.int (bI bad)) rfl rfl rfl rfl rfl ?_
  refine er_if_neb (pc' := 7) rfl rfl (fun h4 => ?_) (fun h4 => ?_)
  · refine er_k (pc' := 19) (-1) rfl rfl rfl ?_
    refine er_goto rfl ?_
    refine er_iret rfl rfl ?_
    refine PI_of ?_
    unfold ahd pk
    first | rw [if_pos h4] | (rw [if_neg (by rw [h4]; decide)]; first | rw [if_pos hlt] | rw [if_neg hlt])
  · refine er_loc (pc' := 8) rfl rfl rfl ?_
    refine er_gf (pc' := 11) (.int (nI p)) rfl rfl rfl rfl rfl ?_
    refine er_loc (pc' := 12) rfl rfl rfl ?_
    refine er_gf (pc' := 15) (.int (nI e)) rfl rfl rfl rfl rfl ?_
    refine er_cm_lt (pc' := 18) rfl rfl (fun h15 => ?_) (fun h15 => ?_)
    · have hlt : p < e := (nI_ltI (by omega) (by omega)).mp h15
      have hlt50 : p < 50 := by omega
      refine er_loc (pc' := 23) rfl rfl rfl ?_
      refine er_gf (pc' := 26) (.ref 20) rfl rfl rfl rfl rfl ?_
      refine er_loc (pc' := 27) rfl rfl rfl ?_
      refine er_gf (pc' := 30) (.int (nI p)) rfl rfl rfl rfl rfl ?_
      refine er_ia (pc' := 31) (p) rfl rfl rfl rfl hlt50 rfl rfl ?_
      refine er_iret rfl rfl ?_
      refine PI_of ?_
      unfold ahd pk
      first | rw [if_pos h4] | (rw [if_neg (by rw [h4]; decide)]; first | rw [if_pos hlt] | rw [if_neg hlt])
    · have hlt : ¬ p < e := fun c => h15 (nI_lt c (by omega))
      refine er_k (pc' := 19) (-1) rfl rfl rfl ?_
      refine er_goto rfl ?_
      refine er_iret rfl rfl ?_
      refine PI_of ?_
      unfold ahd pk
      first | rw [if_pos h4] | (rw [if_neg (by rw [h4]; decide)]; first | rw [if_pos hlt] | rw [if_neg hlt])
set_option maxRecDepth 100000 in
set_option maxHeartbeats 4000000 in
theorem l_write (d : Nat) (X Z : Nat → Nat → Int32) {u e p : Nat} {bad : Bool} {s : Nat × (Nat → Int32)} (hw : s.1 ≤ 50) (g : Int32) : EC (d + 1) 67 [.ref 48, .int g] (Wd X (RZ Z u e p bad s)) (PN X (RZ Z u e p bad (wrC s g))) := by
  refine er_enter (L := [(0, _), (1, _)]) rfl rfl rfl ?_
  refine er_loc (pc' := 1) rfl rfl rfl ?_
  refine er_gf (pc' := 4) (.int (nI s.1)) rfl rfl rfl rfl rfl ?_
  refine er_loc (pc' := 5) rfl rfl rfl ?_
  refine er_gf (pc' := 8) (_) rfl rfl rfl rfl rfl ?_
  refine er_al (pc' := 9) rfl rfl rfl rfl ?_
  refine er_cm_ge (pc' := 12) rfl rfl (fun h9 => ?_) (fun h9 => ?_)
  · have hlt : ¬ s.1 < 50 := fun c => h9 (nI_lt c (by omega))
    refine er_vret rfl rfl ?_
    exact PN_of (by first | exact RZ_wr hlt | (show RZ Z u e p bad s = RZ Z u e p bad (wrC s g); unfold wrC; rw [if_neg hlt]))
  · have hlt : s.1 < 50 := by
      rcases Nat.lt_or_ge s.1 50 with c | c
      · exact c
      · exact absurd h9 (nI_nlt c (by omega))
    refine er_loc (pc' := 13) rfl rfl rfl ?_
    refine er_gf (pc' := 16) (_) rfl rfl rfl rfl rfl ?_
    refine er_loc (pc' := 17) rfl rfl rfl ?_
    refine er_gf (pc' := 20) (.int (nI s.1)) rfl rfl rfl rfl rfl ?_
    refine er_loc (pc' := 21) rfl rfl rfl ?_
    refine er_isZ (pc' := 22) (s.1) rfl rfl (fun _ => rfl) rfl hlt rfl rfl ?_
    refine er_loc (pc' := 23) rfl rfl rfl ?_
    refine er_pure (pc' := 24) rfl rfl rfl ?_
    refine er_gf (pc' := 27) (.int (nI s.1)) rfl rfl rfl rfl rfl ?_
    refine er_k (pc' := 28) (nI 1) rfl rfl rfl ?_
    refine er_iadd (pc' := 29) rfl rfl ?_
    rw [nI_add]
    refine er_pfIZ (pc' := 32) 6 rfl rfl rfl rfl rfl rfl ?_
    refine er_vret rfl rfl ?_
    exact PN_of (by first | exact RZ_wr hlt | (show RZ Z u e p bad s = RZ Z u e p bad (wrC s g); unfold wrC; rw [if_neg hlt]))
def clo (tp : Nat → Int32) (e p : Nat) (bad : Bool) : Nat × Bool := if ahd tp e p bad = nI 41 then (p + 1, bad) else (p, true)
set_option maxRecDepth 100000 in
set_option maxHeartbeats 4000000 in
theorem l_close (d : Nat) (X Z : Nat → Nat → Int32) {u e p : Nat} {bad : Bool} {s : Nat × (Nat → Int32)} (he50 : e ≤ 50) (hpe : p ≤ e) : EC (d + 2) 68 [.ref 48] (Wd X (RZ Z u e p bad s)) (PN X (RZ Z u e (clo (X 20) e p bad).1 (clo (X 20) e p bad).2 s)) := by
  refine er_enter (L := [(0, _)]) rfl rfl rfl ?_
  refine er_loc (pc' := 1) rfl rfl rfl ?_
  refine er_cIi (pc' := 4) (rest := []) 9 rfl rfl rfl rfl rfl rfl (l_ahead _ _ _ he50 hpe) ?_
  refine er_k (pc' := 6) (nI 41) rfl rfl rfl ?_
  refine er_cm_ne (pc' := 9) rfl rfl (fun h6 => ?_) (fun h6 => ?_)
  · refine er_loc (pc' := 23) rfl rfl rfl ?_
    refine er_k (pc' := 24) (nI 1) rfl rfl rfl ?_
    refine er_pfIZ (pc' := 27) 4 rfl rfl rfl rfl rfl rfl ?_
    refine er_vret rfl rfl ?_
    exact PN_of (by unfold clo; first | (rw [if_pos h6]; exact RZ_p) | (rw [if_neg h6]; exact RZ_b))
  · refine er_loc (pc' := 10) rfl rfl rfl ?_
    refine er_pure (pc' := 11) rfl rfl rfl ?_
    refine er_gf (pc' := 14) (.int (nI p)) rfl rfl rfl rfl rfl ?_
    refine er_k (pc' := 15) (nI 1) rfl rfl rfl ?_
    refine er_iadd (pc' := 16) rfl rfl ?_
    rw [nI_add]
    refine er_pfIZ (pc' := 19) 3 rfl rfl rfl rfl rfl rfl ?_
    refine er_goto rfl ?_
    refine er_vret rfl rfl ?_
    exact PN_of (by unfold clo; first | (rw [if_pos h6]; exact RZ_p) | (rw [if_neg h6]; exact RZ_b))
theorem dg_lt {tp : Nat → Int32} {e p : Nat} (h : dg (pk tp e p) = true) : p + 1 ≤ e := by
  rcases Nat.lt_or_ge p e with c | c
  · omega
  · unfold pk at h
    rw [if_neg (by omega)] at h
    exact absurd h (by decide +kernel)
set_option maxRecDepth 100000 in
set_option maxHeartbeats 4000000 in
theorem l_num_loop (d : Nat) (X Z : Nat → Nat → Int32) {u e : Nat} {s : Nat × (Nat → Int32)} (he50 : e ≤ 50) (hw : s.1 ≤ 50) : ∀ (m i p : Nat) (v x : Int32), i + m = 4 → x = nI i → p ≤ e → ER (d + 1) tb_m66 4 [(0, .ref 48), (1, .int v), (2, .int x)] [] (Wd X (RZ Z u e p false s)) (PN X (RZ Z u e (pNum (X 20) e m p v).1 false (wrC s (pNum (X 20) e m p v).2)))
  | 0, i, p, v, x, hi, hx, hpe => by
    have hi0 : i = 4 := by omega
    subst hx
    subst hi0
    refine er_loc (pc' := 5) rfl rfl rfl ?_
    refine er_k (pc' := 6) (nI 4) rfl rfl rfl ?_
    refine er_cm_geT rfl (nI_nlt (by omega) (by omega)) ?_
    refine er_loc (pc' := 49) rfl rfl rfl ?_
    refine er_loc (pc' := 50) rfl rfl rfl ?_
    refine er_cIn (pc' := 53) (rest := []) 9 rfl rfl rfl rfl rfl rfl (l_write _ _ _ hw _) ?_
    refine er_vret rfl rfl ?_
    exact PN_of rfl
  | m + 1, i, p, v, x, hi, hx, hpe => by
    subst hx
    refine er_loc (pc' := 5) rfl rfl rfl ?_
    refine er_k (pc' := 6) (nI 4) rfl rfl rfl ?_
    refine er_cm_geF (pc' := 9) rfl (nI_lt (by omega) (by omega)) rfl ?_
    refine er_loc (pc' := 10) rfl rfl rfl ?_
    refine er_cIi (pc' := 13) (rest := []) 9 rfl rfl rfl rfl rfl rfl (l_ahead _ _ _ he50 hpe) ?_
    rw [show ahd (X 20) e p false = pk (X 20) e p from rfl]
    refine er_cSi (pc' := 16) (rest := []) rfl rfl rfl (l_isDigit _ _ _) ?_
    refine er_if_eqb (pc' := 19) rfl rfl (fun h16 => ?_) (fun h16 => ?_)
    · refine er_loc (pc' := 49) rfl rfl rfl ?_
      refine er_loc (pc' := 50) rfl rfl rfl ?_
      refine er_cIn (pc' := 53) (rest := []) 9 rfl rfl rfl rfl rfl rfl (l_write _ _ _ hw _) ?_
      refine er_vret rfl rfl ?_
      have e2 : pNum (X 20) e (m + 1) p v = (p, v) := by
        show (if _ then _ else _) = _
        rw [if_neg (by rw [h16]; decide)]
      exact PN_of (by rw [e2])
    · refine er_loc (pc' := 20) rfl rfl rfl ?_
      refine er_k (pc' := 22) (nI 10) rfl rfl rfl ?_
      refine er_imul (pc' := 23) rfl rfl ?_
      refine er_loc (pc' := 24) rfl rfl rfl ?_
      refine er_cIi (pc' := 27) (rest := [_]) 9 rfl rfl rfl rfl rfl rfl (l_ahead _ _ _ he50 hpe) ?_
      rw [show ahd (X 20) e p false = pk (X 20) e p from rfl]
      refine er_iadd (pc' := 28) rfl rfl ?_
      refine er_k (pc' := 30) (nI 48) rfl rfl rfl ?_
      refine er_isub (pc' := 31) rfl rfl ?_
      refine er_loc (pc' := 32) (L' := [(1, _), (0, _), (2, _)]) rfl rfl rfl ?_
      refine er_loc (pc' := 33) rfl rfl rfl ?_
      refine er_pure (pc' := 34) rfl rfl rfl ?_
      refine er_gf (pc' := 37) (.int (nI p)) rfl rfl rfl rfl rfl ?_
      refine er_k (pc' := 38) (nI 1) rfl rfl rfl ?_
      refine er_iadd (pc' := 39) rfl rfl ?_
      refine er_pfIZ (pc' := 42) 3 rfl rfl rfl rfl rfl rfl ?_
      rw [nI_add, RZ_p]
      refine er_loc (L' := [(2, .int (_ + nI 1)), (1, _), (0, _)]) rfl rfl rfl ?_
      refine er_goto rfl ?_
      refine ER_loc [(0, _), (1, _), (2, _)] rfl (List.forall_mem_cons.mpr ⟨rfl, List.forall_mem_cons.mpr ⟨rfl, List.forall_mem_cons.mpr ⟨rfl, fun _ h => absurd h List.not_mem_nil⟩⟩⟩) rfl rfl ?_
      have e2 : pNum (X 20) e (m + 1) p v = pNum (X 20) e m (p + 1) (v * nI 10 + pk (X 20) e p - nI 48) := by
        show (if _ then _ else _) = _
        rw [if_pos h16]
      rw [e2]
      exact l_num_loop d X Z he50 hw m (i + 1) (p + 1) _ _ (by omega) (nI_add i 1) (dg_lt h16)
set_option maxRecDepth 100000 in
set_option maxHeartbeats 4000000 in
theorem l_readNumber (d : Nat) (X Z : Nat → Nat → Int32) {u e p : Nat} {s : Nat × (Nat → Int32)} (he50 : e ≤ 50) (hw : s.1 ≤ 50) (hpe : p ≤ e) : EC (d + 2) 66 [.ref 48] (Wd X (RZ Z u e p false s)) (PN X (RZ Z u e (pNum (X 20) e 4 p (nI 0)).1 false (wrC s (pNum (X 20) e 4 p (nI 0)).2))) := by
  refine er_enter (L := [(0, _)]) rfl rfl rfl ?_
  refine er_k (pc' := 1) (nI 0) rfl rfl rfl ?_
  refine er_loc (pc' := 2) (L' := [(1, _), (0, _)]) rfl rfl rfl ?_
  refine er_k (pc' := 3) (nI 0) rfl rfl rfl ?_
  refine er_loc (pc' := 4) (L' := [(2, _), (1, _), (0, _)]) rfl rfl rfl ?_
  refine ER_loc [(0, _), (1, _), (2, _)] rfl (List.forall_mem_cons.mpr ⟨rfl, List.forall_mem_cons.mpr ⟨rfl, List.forall_mem_cons.mpr ⟨rfl, fun _ h => absurd h List.not_mem_nil⟩⟩⟩) rfl rfl ?_
  exact l_num_loop d X Z he50 hw 4 0 p _ _ (by omega) rfl hpe
