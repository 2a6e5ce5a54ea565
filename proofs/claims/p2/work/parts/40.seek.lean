/-! THE FACE: the best order -/
abbrev skT : Type := Int32 × (Nat → Int32) × (Nat → Int32)
def skLoop (J : Nat → Nat → Int32) (dep : Nat) (f : Nat → skT → skT) : Nat → Nat → skT → skT
  | 0, _, s => s
  | m + 1, i, s => skLoop J dep f m (i + 1) (if sMayDo J i = true then f i (s.1, s.2.1, u1 s.2.2 dep (nI i)) else s)
def sk : Nat → Nat → (Nat → Nat → Int32) → skT → skT
  | 0, _, _, s => s
  | F + 1, dep, J, s => if sOpen J = 0 then (if s.1 < 0 ∨ J 0 10 < s.1 then (J 0 10, cpf s.2.2 s.2.1 0 0 5, s.2.2) else s) else if 5 ≤ dep then s else skLoop J dep (fun i t => sk F (dep + 1) (jPass J i) t) (jn J) 0 s
theorem skLoop_succ {J : Nat → Nat → Int32} {dep m i : Nat} {f : Nat → skT → skT} {s : skT} : skLoop J dep f (m + 1) i s = skLoop J dep f m (i + 1) (if sMayDo J i = true then f i (s.1, s.2.1, u1 s.2.2 dep (nI i)) else s) := rfl
theorem with_back {x : Int32} {k : Nat} (hk : k < 8) (h : bt x k = false) : sWith (sWith x (nI k) true) (nI k) false = x := by
  apply bt_ext
  intro i hi
  rw [bt_with (by omega), bt_with (by omega)]
  by_cases hik : i = k
  · subst hik; rw [if_pos rfl, h]
  · rw [if_neg hik, if_neg hik]
theorem xUnpass_pass {X : Nat → Nat → Int32} {b k : Nat} (hk : k < 8) (h : sBit (X b 6) (nI k) = false) : xUnpass (xPass X b k) b k (X b 9) (X b 10) = X := by
  rw [sBit_bt (by omega)] at h
  funext i j
  unfold xUnpass xPass
  simp only [ud_at]
  by_cases hi : i = b
  · subst hi
    simp only [if_true]
    by_cases h10 : j = 10
    · subst h10; simp
    · by_cases h9 : j = 9
      · subst h9; simp
      · by_cases h6 : j = 6
        · subst h6; simp [with_back hk h]
        · simp [h10, h9, h6]
  · simp [hi]
def PB (X : Nat → Nat → Int32) (s : skT) : Nat → Nat → Int32 := uc (uc X 61 s.2.2) 62 s.2.1
theorem PB_j {X : Nat → Nat → Int32} {s : skT} : jx (PB X s) 35 = jx X 35 := jx_off (fun c _ hc => by unfold PB; rw [uc_ne (by omega), uc_ne (by omega)])
theorem PB_35 {X : Nat → Nat → Int32} {s : skT} : PB X s 35 = X 35 := by unfold PB; rw [uc_ne (by omega), uc_ne (by omega)]
theorem PB_61 {X : Nat → Nat → Int32} {s : skT} : PB X s 61 = s.2.2 := by unfold PB; rw [uc_ne (by omega), uc_same]
theorem PB_62 {X : Nat → Nat → Int32} {s : skT} : PB X s 62 = s.2.1 := by unfold PB; rw [uc_same]
theorem uc_comm {X : Nat → Nat → Int32} {a b : Nat} {f g : Nat → Int32} (h : a ≠ b) : uc (uc X a f) b g = uc (uc X b g) a f := by
  funext i
  unfold uc
  by_cases h1 : i = a
  · subst h1; rw [if_neg h, if_pos rfl, if_pos rfl]
  · rw [if_neg h1, if_neg h1]
theorem PB_path {X : Nat → Nat → Int32} {l : Int32} {p q : Nat → Int32} {dep : Nat} {v : Int32} : ud (PB X (l, p, q)) 61 dep v = PB X (l, p, u1 q dep v) := by
  unfold ud
  rw [PB_61]
  unfold PB
  rw [uc_comm (show 62 ≠ 61 by omega), uc_uc]
theorem PB_best {X : Nat → Nat → Int32} {l l' : Int32} {p p' q : Nat → Int32} : uc (PB X (l, p, q)) 62 p' = PB X (l', p', q) := by
  unfold PB
  rw [uc_uc]
theorem PB_ud {X : Nat → Nat → Int32} {s : skT} {k : Nat} {v : Int32} : ud (PB X s) 35 k v = PB (ud X 35 k v) s := by
  unfold ud
  rw [PB_35]
  unfold PB
  rw [uc_comm (show 62 ≠ 35 by omega), uc_comm (show 61 ≠ 35 by omega)]
theorem PB_pass {X : Nat → Nat → Int32} {s : skT} {k : Nat} : xPass (PB X s) 35 k = PB (xPass X 35 k) s := by
  unfold xPass
  rw [PB_j, PB_35, show PB X s (35 + 3) = X (35 + 3) from by unfold PB; rw [uc_ne (by omega), uc_ne (by omega)], PB_ud, PB_ud, PB_ud]
theorem PB_unpass {X : Nat → Nat → Int32} {s : skT} {k : Nat} {g t : Int32} : xUnpass (PB X s) 35 k g t = PB (xUnpass X 35 k g t) s := by
  unfold xUnpass
  rw [PB_35, PB_ud, PB_ud, PB_ud]
set_option maxRecDepth 100000 in
set_option maxHeartbeats 4000000 in
theorem l_seek_loop (d F : Nat) (X : Nat → Nat → Int32) (dep : Nat) (hd : dep < 5) {T : Nat} (hI : IJ T (jx X 35)) (hT : T < 1000000000) (hrec : ∀ (X1 Z : Nat → Nat → Int32) (l : Int32) (p q : Nat → Int32) (i : Nat), sMayDo (jx X 35) i = true → jx X1 35 = jPass (jx X 35) i → EC (d + 6 + F) 97 [.ref 35, .ref 61, .ref 62, .int (nI (dep + 1)), .int l] (Wd (PB X1 (l, p, q)) Z) (RI (sk F (dep + 1) (jPass (jx X 35) i) (l, p, q)).1 (PB X1 (sk F (dep + 1) (jPass (jx X 35) i) (l, p, q))))) : ∀ (m i : Nat) (x : Int32) (Z : Nat → Nat → Int32) (l : Int32) (p q : Nat → Int32), i + m = jn (jx X 35) → x = nI i → ER (d + 6 + F) tb_m97 70 [(0, .ref 35), (1, .ref 61), (2, .ref 62), (3, .int (nI dep)), (5, .int (X 35 9)), (6, .int (X 35 10)), (7, .int l), (8, .int x)] [] (Wd (PB X (l, p, q)) Z) (RI (skLoop (jx X 35) dep (fun i t => sk F (dep + 1) (jPass (jx X 35) i) t) m i (l, p, q)).1 (PB X (skLoop (jx X 35) dep (fun i t => sk F (dep + 1) (jPass (jx X 35) i) t) m i (l, p, q))))
  | 0, i, x, Z, l, p, q, hi, hx => by
    have hI1 : IJ T (jx (PB X (l, p, q)) 35) := by rw [PB_j]; exact hI
    have h8 := jn8 hI
    subst hx
    refine er_loc (pc' := 72) rfl rfl rfl ?_
    refine er_loc (pc' := 73) rfl rfl rfl ?_
    refine er_gf (pc' := 76) (.int (X 35 1)) rfl rfl rfl rfl rfl ?_
    rw [show X 35 1 = nI (jn (jx X 35)) from hI.n.1]
    have hi0 : i = jn (jx X 35) := by omega
    refine er_cm_geT rfl (nI_nlt (by omega) (by omega)) ?_
    refine er_loc (pc' := 130) rfl rfl rfl ?_
    refine er_iret rfl rfl ?_
    exact ⟨_, rfl⟩
  | m + 1, i, x, Z, l, p, q, hi, hx => by
    have hI1 : IJ T (jx (PB X (l, p, q)) 35) := by rw [PB_j]; exact hI
    have h8 := jn8 hI
    subst hx
    refine er_loc (pc' := 72) rfl rfl rfl ?_
    refine er_loc (pc' := 73) rfl rfl rfl ?_
    refine er_gf (pc' := 76) (.int (X 35 1)) rfl rfl rfl rfl rfl ?_
    rw [show X 35 1 = nI (jn (jx X 35)) from hI.n.1]
    refine er_cm_geF (pc' := 79) rfl (nI_lt (by omega) (by omega)) rfl ?_
    refine er_loc (pc' := 80) rfl rfl rfl ?_
    refine er_loc (pc' := 82) rfl rfl rfl ?_
    refine er_cIi (pc' := 85) (rest := []) 7 rfl rfl rfl rfl rfl rfl (EC.up (l_mayBeDone d j35 _ _ hI1 (k := i) (by rw [PB_j]; omega)) (by omega)) ?_
    rw [PB_j]
    refine er_if_eqb (pc' := 88) rfl rfl (fun h85 => ?_) (fun h85 => ?_)
    · refine er_loc (L' := [(8, .int (_ + nI 1)), (0, _), (1, _), (2, _), (3, _), (5, _), (6, _), (7, _)]) (pc' := 125) rfl rfl rfl ?_
      refine er_goto rfl ?_
      refine ER_loc [(0, _), (1, _), (2, _), (3, _), (5, _), (6, _), (7, _), (8, _)] rfl (List.forall_mem_cons.mpr ⟨rfl, List.forall_mem_cons.mpr ⟨rfl, List.forall_mem_cons.mpr ⟨rfl, List.forall_mem_cons.mpr ⟨rfl, List.forall_mem_cons.mpr ⟨rfl, List.forall_mem_cons.mpr ⟨rfl, List.forall_mem_cons.mpr ⟨rfl, List.forall_mem_cons.mpr ⟨rfl, fun _ h => absurd h List.not_mem_nil⟩⟩⟩⟩⟩⟩⟩⟩) rfl rfl ?_
      rw [skLoop_succ, if_neg (by rw [h85]; decide)]
      exact l_seek_loop d F X dep hd hI hT hrec m (i + 1) _ Z _ _ _ (by omega) (nI_add i 1)
    · have hm := mayDo_k h85
      refine er_loc (pc' := 89) rfl rfl rfl ?_
      refine er_loc (pc' := 90) rfl rfl rfl ?_
      refine er_loc (pc' := 92) rfl rfl rfl ?_
      refine er_isX (pc' := 93) (dep) rfl rfl (fun _ => rfl) rfl (by omega) rfl rfl ?_
      rw [PB_path]
      have hI2 : IJ T (jx (PB X (l, p, u1 q dep (nI i))) 35) := by rw [PB_j]; exact hI
      refine er_loc (pc' := 94) rfl rfl rfl ?_
      refine er_loc (pc' := 96) rfl rfl rfl ?_
      refine er_cIv (pc' := 99) (rest := []) 7 rfl rfl rfl rfl rfl rfl (EC.up (l_pass d j35 _ _ hI2 (k := i) (by rw [PB_j]; omega)) (by omega)) ?_
      intro Z7
      rw [PB_pass]
      have hjP : jx (xPass X 35 i) 35 = jPass (jx X 35) i := jx_xPass (by omega)
      refine er_loc (pc' := 100) rfl rfl rfl ?_
      refine er_loc (pc' := 101) rfl rfl rfl ?_
      refine er_loc (pc' := 102) rfl rfl rfl ?_
      refine er_loc (pc' := 103) rfl rfl rfl ?_
      refine er_k (pc' := 104) (nI 1) rfl rfl rfl ?_
      refine er_iadd (pc' := 105) rfl rfl ?_
      rw [nI_add]
      refine er_loc (pc' := 107) rfl rfl rfl ?_
      refine er_cSz (pc' := 110) (rest := []) rfl rfl rfl (hrec (xPass X 35 i) Z7 l p (u1 q dep (nI i)) i h85 hjP) ?_
      intro Z8
      refine er_loc (L' := [(7, _), (0, _), (1, _), (2, _), (3, _), (5, _), (6, _), (8, _)]) (pc' := 112) rfl rfl rfl ?_
      refine er_loc (pc' := 113) rfl rfl rfl ?_
      refine er_loc (pc' := 115) rfl rfl rfl ?_
      refine er_loc (pc' := 117) rfl rfl rfl ?_
      refine er_loc (pc' := 119) rfl rfl rfl ?_
      refine er_cIv (pc' := 122) (rest := []) 7 rfl rfl rfl rfl rfl rfl (EC.up (l_unpass d j35 _ _ _ _ _) (by omega)) ?_
      intro Z9
      rw [PB_unpass, xUnpass_pass (by omega) (by have := hm.2.1; unfold sDone at this; rw [jx06] at this; exact this)]
      refine er_loc (L' := [(8, .int (_ + nI 1)), (7, _), (0, _), (1, _), (2, _), (3, _), (5, _), (6, _)]) (pc' := 125) rfl rfl rfl ?_
      refine er_goto rfl ?_
      refine ER_loc [(0, _), (1, _), (2, _), (3, _), (5, _), (6, _), (7, _), (8, _)] rfl (List.forall_mem_cons.mpr ⟨rfl, List.forall_mem_cons.mpr ⟨rfl, List.forall_mem_cons.mpr ⟨rfl, List.forall_mem_cons.mpr ⟨rfl, List.forall_mem_cons.mpr ⟨rfl, List.forall_mem_cons.mpr ⟨rfl, List.forall_mem_cons.mpr ⟨rfl, List.forall_mem_cons.mpr ⟨rfl, fun _ h => absurd h List.not_mem_nil⟩⟩⟩⟩⟩⟩⟩⟩) rfl rfl ?_
      rw [skLoop_succ, if_pos h85]
      generalize sk F (dep + 1) (jPass (jx X 35) i) (l, p, u1 q dep (nI i)) = t
      obtain ⟨l', p', q'⟩ := t
      exact l_seek_loop d F X dep hd hI hT hrec m (i + 1) _ _ _ _ _ (by omega) (nI_add i 1)
set_option maxRecDepth 100000 in
set_option maxHeartbeats 4000000 in
theorem l_seekBest (d : Nat) : ∀ (F dep : Nat) (X Z : Nat → Nat → Int32) (l : Int32) (p q : Nat → Int32) (T : Nat), dep + F = 5 → IJ T (jx X 35) → T + 300 * F < 1000000000 → EC (d + 6 + F + 1) 97 [.ref 35, .ref 61, .ref 62, .int (nI dep), .int l] (Wd (PB X (l, p, q)) Z) (RI (sk (F + 1) dep (jx X 35) (l, p, q)).1 (PB X (sk (F + 1) dep (jx X 35) (l, p, q)))) := by
  intro F
  induction F with
  | zero =>
    intro dep X Z l p q T hd hI hT
    have hO : (sk (0 + 1) dep (jx X 35) (l, p, q)) = if sOpen (jx X 35) = 0 then (if l < 0 ∨ jx X 35 0 10 < l then (jx X 35 0 10, cpf q p 0 0 5, q) else (l, p, q)) else if 5 ≤ dep then (l, p, q) else skLoop (jx X 35) dep (fun i t => sk 0 (dep + 1) (jPass (jx X 35) i) t) (jn (jx X 35)) 0 (l, p, q) := rfl
    rw [hO]
    refine er_enter (L := [(0, _), (1, _), (2, _), (3, _), (4, _)]) rfl rfl rfl ?_
    refine er_loc (pc' := 1) rfl rfl rfl ?_
    refine er_cIi (pc' := 4) (rest := []) 7 rfl rfl rfl rfl rfl rfl (EC.up (l_howManyOpen d j35 _ _) (by omega)) ?_
    rw [PB_j]
    refine er_if_ne (pc' := 7) rfl rfl (fun h4 => ?_) (fun h4 => ?_)
    rotate_left
    · rw [if_pos h4, jx010]
      refine er_loc (pc' := 9) rfl rfl rfl ?_
      refine er_if_lt (pc' := 12) rfl rfl (fun h9 => ?_) (fun h9 => ?_)
      · rw [if_pos (Or.inl h9)]
        refine er_loc (pc' := 25) rfl rfl rfl ?_
        refine er_k (pc' := 26) (nI 0) rfl rfl rfl ?_
        refine er_loc (pc' := 27) rfl rfl rfl ?_
        refine er_k (pc' := 28) (nI 0) rfl rfl rfl ?_
        refine er_loc (pc' := 29) rfl rfl rfl ?_
        refine er_al (pc' := 30) rfl rfl rfl rfl ?_
        refine er_cpX (pc' := 33) (0) (0) (5) rfl rfl rfl rfl rfl rfl (fun _ => rfl) rfl rfl rfl (by omega) (by omega) rfl rfl ?_
        refine er_loc (pc' := 34) rfl rfl rfl ?_
        refine er_gf (pc' := 37) (.int (X 35 10)) rfl rfl rfl rfl rfl ?_
        refine er_iret rfl rfl ?_
        exact RI_of rfl (by rw [PB_61, PB_62]; exact PB_best)
      · refine er_loc (pc' := 13) rfl rfl rfl ?_
        refine er_gf (pc' := 16) (.int (X 35 10)) rfl rfl rfl rfl rfl ?_
        refine er_loc (pc' := 18) rfl rfl rfl ?_
        refine er_cm_lt (pc' := 21) rfl rfl (fun h18 => ?_) (fun h18 => ?_)
        · rw [if_pos (Or.inr h18)]
          refine er_loc (pc' := 25) rfl rfl rfl ?_
          refine er_k (pc' := 26) (nI 0) rfl rfl rfl ?_
          refine er_loc (pc' := 27) rfl rfl rfl ?_
          refine er_k (pc' := 28) (nI 0) rfl rfl rfl ?_
          refine er_loc (pc' := 29) rfl rfl rfl ?_
          refine er_al (pc' := 30) rfl rfl rfl rfl ?_
          refine er_cpX (pc' := 33) (0) (0) (5) rfl rfl rfl rfl rfl rfl (fun _ => rfl) rfl rfl rfl (by omega) (by omega) rfl rfl ?_
          refine er_loc (pc' := 34) rfl rfl rfl ?_
          refine er_gf (pc' := 37) (.int (X 35 10)) rfl rfl rfl rfl rfl ?_
          refine er_iret rfl rfl ?_
          exact RI_of rfl (by rw [PB_61, PB_62]; exact PB_best)
        · rw [if_neg (fun c => c.elim h9 h18)]
          refine er_loc (pc' := 23) rfl rfl rfl ?_
          refine er_iret rfl rfl ?_
          exact RI_of rfl rfl
    · rw [if_neg h4]
      refine er_loc (pc' := 39) rfl rfl rfl ?_
      refine er_if_ltF (pc' := 42) rfl (nI_pos (by omega)) rfl ?_
      refine er_loc (pc' := 43) rfl rfl rfl ?_
      refine er_loc (pc' := 44) rfl rfl rfl ?_
      refine er_al (pc' := 45) rfl rfl rfl rfl ?_
      refine er_cm_ltF (pc' := 48) rfl (nI_nlt (by omega) (by omega)) rfl ?_
      refine er_loc (pc' := 50) rfl rfl rfl ?_
      refine er_iret rfl rfl ?_
      rw [if_pos (by omega)]
      exact RI_of rfl rfl
  | succ F ih =>
    intro dep X Z l p q T hd hI hT
    have hO : (sk ((F + 1) + 1) dep (jx X 35) (l, p, q)) = if sOpen (jx X 35) = 0 then (if l < 0 ∨ jx X 35 0 10 < l then (jx X 35 0 10, cpf q p 0 0 5, q) else (l, p, q)) else if 5 ≤ dep then (l, p, q) else skLoop (jx X 35) dep (fun i t => sk (F + 1) (dep + 1) (jPass (jx X 35) i) t) (jn (jx X 35)) 0 (l, p, q) := rfl
    rw [hO]
    refine er_enter (L := [(0, _), (1, _), (2, _), (3, _), (4, _)]) rfl rfl rfl ?_
    refine er_loc (pc' := 1) rfl rfl rfl ?_
    refine er_cIi (pc' := 4) (rest := []) 7 rfl rfl rfl rfl rfl rfl (EC.up (l_howManyOpen d j35 _ _) (by omega)) ?_
    rw [PB_j]
    refine er_if_ne (pc' := 7) rfl rfl (fun h4 => ?_) (fun h4 => ?_)
    rotate_left
    · rw [if_pos h4, jx010]
      refine er_loc (pc' := 9) rfl rfl rfl ?_
      refine er_if_lt (pc' := 12) rfl rfl (fun h9 => ?_) (fun h9 => ?_)
      · rw [if_pos (Or.inl h9)]
        refine er_loc (pc' := 25) rfl rfl rfl ?_
        refine er_k (pc' := 26) (nI 0) rfl rfl rfl ?_
        refine er_loc (pc' := 27) rfl rfl rfl ?_
        refine er_k (pc' := 28) (nI 0) rfl rfl rfl ?_
        refine er_loc (pc' := 29) rfl rfl rfl ?_
        refine er_al (pc' := 30) rfl rfl rfl rfl ?_
        refine er_cpX (pc' := 33) (0) (0) (5) rfl rfl rfl rfl rfl rfl (fun _ => rfl) rfl rfl rfl (by omega) (by omega) rfl rfl ?_
        refine er_loc (pc' := 34) rfl rfl rfl ?_
        refine er_gf (pc' := 37) (.int (X 35 10)) rfl rfl rfl rfl rfl ?_
        refine er_iret rfl rfl ?_
        exact RI_of rfl (by rw [PB_61, PB_62]; exact PB_best)
      · refine er_loc (pc' := 13) rfl rfl rfl ?_
        refine er_gf (pc' := 16) (.int (X 35 10)) rfl rfl rfl rfl rfl ?_
        refine er_loc (pc' := 18) rfl rfl rfl ?_
        refine er_cm_lt (pc' := 21) rfl rfl (fun h18 => ?_) (fun h18 => ?_)
        · rw [if_pos (Or.inr h18)]
          refine er_loc (pc' := 25) rfl rfl rfl ?_
          refine er_k (pc' := 26) (nI 0) rfl rfl rfl ?_
          refine er_loc (pc' := 27) rfl rfl rfl ?_
          refine er_k (pc' := 28) (nI 0) rfl rfl rfl ?_
          refine er_loc (pc' := 29) rfl rfl rfl ?_
          refine er_al (pc' := 30) rfl rfl rfl rfl ?_
          refine er_cpX (pc' := 33) (0) (0) (5) rfl rfl rfl rfl rfl rfl (fun _ => rfl) rfl rfl rfl (by omega) (by omega) rfl rfl ?_
          refine er_loc (pc' := 34) rfl rfl rfl ?_
          refine er_gf (pc' := 37) (.int (X 35 10)) rfl rfl rfl rfl rfl ?_
          refine er_iret rfl rfl ?_
          exact RI_of rfl (by rw [PB_61, PB_62]; exact PB_best)
        · rw [if_neg (fun c => c.elim h9 h18)]
          refine er_loc (pc' := 23) rfl rfl rfl ?_
          refine er_iret rfl rfl ?_
          exact RI_of rfl rfl
    · rw [if_neg h4]
      refine er_loc (pc' := 39) rfl rfl rfl ?_
      refine er_if_ltF (pc' := 42) rfl (nI_pos (by omega)) rfl ?_
      refine er_loc (pc' := 43) rfl rfl rfl ?_
      refine er_loc (pc' := 44) rfl rfl rfl ?_
      refine er_al (pc' := 45) rfl rfl rfl rfl ?_
      refine er_cm_ltT rfl (nI_lt (by omega) (by omega)) ?_
      refine er_loc (pc' := 52) rfl rfl rfl ?_
      refine er_gf (pc' := 55) (.int (X 35 9)) rfl rfl rfl rfl rfl ?_
      refine er_loc (L' := [(5, _), (0, _), (1, _), (2, _), (3, _), (4, _)]) (pc' := 57) rfl rfl rfl ?_
      refine er_loc (pc' := 58) rfl rfl rfl ?_
      refine er_gf (pc' := 61) (.int (X 35 10)) rfl rfl rfl rfl rfl ?_
      refine er_loc (L' := [(6, _), (5, _), (0, _), (1, _), (2, _), (3, _), (4, _)]) (pc' := 63) rfl rfl rfl ?_
      refine er_loc (pc' := 65) rfl rfl rfl ?_
      refine er_loc (L' := [(7, _), (6, _), (5, _), (0, _), (1, _), (2, _), (3, _), (4, _)]) (pc' := 67) rfl rfl rfl ?_
      refine er_k (pc' := 68) (nI 0) rfl rfl rfl ?_
      refine er_loc (L' := [(8, _), (7, _), (6, _), (5, _), (0, _), (1, _), (2, _), (3, _), (4, _)]) (pc' := 70) rfl rfl rfl ?_
      rw [if_neg (by omega)]
      refine ER_loc [(0, _), (1, _), (2, _), (3, _), (5, _), (6, _), (7, _), (8, _)] rfl (List.forall_mem_cons.mpr ⟨rfl, List.forall_mem_cons.mpr ⟨rfl, List.forall_mem_cons.mpr ⟨rfl, List.forall_mem_cons.mpr ⟨rfl, List.forall_mem_cons.mpr ⟨rfl, List.forall_mem_cons.mpr ⟨rfl, List.forall_mem_cons.mpr ⟨rfl, List.forall_mem_cons.mpr ⟨rfl, fun _ h => absurd h List.not_mem_nil⟩⟩⟩⟩⟩⟩⟩⟩) rfl rfl ?_
      refine l_seek_loop d (F + 1) X dep (by omega) hI (by omega) ?_ (jn (jx X 35)) 0 _ Z l p q (by omega) rfl
      intro X1 Z1 l1 p1 q1 i hm hj
      have h := ih (dep + 1) X1 Z1 l1 p1 q1 (T + 300) (by omega) (by rw [hj]; exact hI.pass (by omega) hm) (by omega)
      rw [hj] at h
      exact EC.up h (by omega)
