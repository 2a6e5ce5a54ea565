/-! TEXTS: what their code gives, on a pile; the class's side -/
def sVal (g a b c : Int32) : Int32 := if g = -3 then c else if g = -2 then b else if g = -1 then a else g
def sJoin (g x y : Int32) : Int32 :=
  if g = 38 then bI (!decide (x = 0) && !decide (y = 0))
  else if g = 42 then x * y
  else if g = 43 then x + y
  else if g = 45 then x - y
  else if g = 47 then (if y = 0 then nI 0 else x / y)
  else if g = 60 then bI (decide (x < y))
  else if g = 61 then bI (decide (x = y))
  else if g = 62 then bI (decide (y < x))
  else if g = 124 then bI (!decide (x = 0) || !decide (y = 0))
  else (if y = 0 then nI 0 else x - x / y * y)
def sStep (g a b c : Int32) (l : List Int32) : List Int32 :=
  if g < -3 then (if g = -33 then (match l with
    | x :: r => bI (decide (x = 0)) :: r
    | [] => []) else (match l with
    | y :: x :: r => sJoin (-g) x y :: r
    | l => l)) else sVal g a b c :: l
def sEv (f : Nat → Int32) (a b c : Int32) : Nat → List Int32
  | 0 => []
  | n + 1 => sStep (f n) a b c (sEv f a b c n)
def sDp (f : Nat → Int32) : Nat → Nat
  | 0 => 0
  | n + 1 => if f n < -3 then (if f n = -33 then sDp f n else sDp f n - 1) else sDp f n + 1
/-- a code that never takes from an empty pile, and leaves one number -/
def wfC (f : Nat → Int32) (n : Nat) : Prop := n ≤ 50 ∧ (0 < n → sDp f n = 1) ∧ ∀ i, i < n → (¬ f i < -3 → sDp f i < 50) ∧ (f i = -33 → 1 ≤ sDp f i) ∧ (f i < -3 → f i ≠ -33 → 2 ≤ sDp f i)
def Stk (z : Nat → Int32) : List Int32 → Prop
  | [] => True
  | x :: r => z r.length = x ∧ Stk z r
theorem Stk_up {z : Nat → Int32} {k : Nat} {v : Int32} : ∀ {l : List Int32}, l.length ≤ k → Stk z l → Stk (u1 z k v) l
  | [], _, _ => trivial
  | x :: r, h, hs => by
    simp only [List.length_cons] at h
    exact ⟨by rw [u1_ne (by omega)]; exact hs.1, Stk_up (by omega) hs.2⟩
theorem Stk_push {z : Nat → Int32} {l : List Int32} (v : Int32) (h : Stk z l) : Stk (u1 z l.length v) (v :: l) := ⟨u1_same _ _ _, Stk_up (Nat.le_refl _) h⟩
theorem sEv_len {f : Nat → Int32} {a b c : Int32} {n : Nat} (hw : wfC f n) : ∀ i, i ≤ n → (sEv f a b c i).length = sDp f i
  | 0, _ => rfl
  | i + 1, h => by
    have ih := sEv_len (a := a) (b := b) (c := c) hw i (by omega)
    obtain ⟨w1, w2, w3⟩ := hw.2.2 i (by omega)
    unfold sEv sDp sStep
    by_cases h1 : f i < -3
    · rw [if_pos h1, if_pos h1]
      by_cases h2 : f i = -33
      · rw [if_pos h2, if_pos h2]
        have := w2 h2
        match hl : sEv f a b c i, ih with
        | [], ih => simp at ih; omega
        | x :: r, ih => simpa using ih
      · rw [if_neg h2, if_neg h2]
        have := w3 h1 h2
        match hl : sEv f a b c i, ih with
        | [], ih => simp at ih; omega
        | [x], ih => simp at ih; omega
        | y :: x :: r, ih => simp at ih ⊢; omega
    · rw [if_neg h1, if_neg h1]
      simp [ih]
theorem bI_1 : bI true = nI 1 := rfl
theorem bI_0 : bI false = nI 0 := rfl
set_option maxRecDepth 100000 in
set_option maxHeartbeats 4000000 in
theorem l_valueOf (d : Nat) (g a b c : Int32) (w : ab_W) : EC (d + 1) 57 [.int g, .int a, .int b, .int c] w (PI (sVal g a b c) w) := by
  refine er_enter (L := [(0, _), (1, _), (2, _), (3, _)]) rfl rfl rfl ?_
  refine er_loc (pc' := 1) rfl rfl rfl ?_
  refine er_sw (-3) rfl rfl (fun s1_m3 => ?_) (fun s1_m3 => ?_)
  · refine er_loc (pc' := 33) rfl rfl rfl ?_
    refine er_iret rfl rfl ?_
    exact PI_of (by simp [sVal, *])
  refine er_sw (-2) rfl rfl (fun s1_m2 => ?_) (fun s1_m2 => ?_)
  · refine er_loc (pc' := 31) rfl rfl rfl ?_
    refine er_iret rfl rfl ?_
    exact PI_of (by simp [sVal, *])
  refine er_sw (-1) rfl rfl (fun s1_m1 => ?_) (fun s1_m1 => ?_)
  · refine er_loc (pc' := 29) rfl rfl rfl ?_
    refine er_iret rfl rfl ?_
    exact PI_of (by simp [sVal, *])
  refine er_tsD [-3, -2, -1] rfl rfl rfl rfl (List.forall_mem_cons.mpr ⟨ne_toInt s1_m3 rfl, List.forall_mem_cons.mpr ⟨ne_toInt s1_m2 rfl, List.forall_mem_cons.mpr ⟨ne_toInt s1_m1 rfl, fun _ h => absurd h List.not_mem_nil⟩⟩⟩) ?_
  refine er_loc (pc' := 35) rfl rfl rfl ?_
  refine er_iret rfl rfl ?_
  exact PI_of (by simp [sVal, *])
set_option maxRecDepth 100000 in
set_option maxHeartbeats 4000000 in
theorem l_joined (d : Nat) (g x y : Int32) (w : ab_W) : EC (d + 1) 58 [.int g, .int x, .int y] w (PI (sJoin g x y) w) := by
  refine er_enter (L := [(0, _), (1, _), (2, _)]) rfl rfl rfl ?_
  refine er_loc (pc' := 1) rfl rfl rfl ?_
  refine er_sw (38) rfl rfl (fun s1_38 => ?_) (fun s1_38 => ?_)
  · refine er_loc (pc' := 99) rfl rfl rfl ?_
    refine er_if_eq (pc' := 102) rfl rfl (fun h99 => ?_) (fun h99 => ?_)
    · refine er_k (pc' := 111) (nI 0) rfl rfl rfl ?_
      refine er_iret rfl rfl ?_
      exact PI_of (by simp [sJoin, bI, *])
    · refine er_loc (pc' := 103) rfl rfl rfl ?_
      refine er_if_eq (pc' := 106) rfl rfl (fun h103 => ?_) (fun h103 => ?_)
      · refine er_k (pc' := 111) (nI 0) rfl rfl rfl ?_
        refine er_iret rfl rfl ?_
        exact PI_of (by simp [sJoin, bI, *])
      · refine er_k (pc' := 107) (nI 1) rfl rfl rfl ?_
        refine er_goto rfl ?_
        refine er_iret rfl rfl ?_
        exact PI_of (by simp [sJoin, bI, *])
  refine er_sw (42) rfl rfl (fun s1_42 => ?_) (fun s1_42 => ?_)
  · refine er_loc (pc' := 154) rfl rfl rfl ?_
    refine er_loc (pc' := 155) rfl rfl rfl ?_
    refine er_imul (pc' := 156) rfl rfl ?_
    refine er_iret rfl rfl ?_
    exact PI_of (by simp [sJoin, bI, *])
  refine er_sw (43) rfl rfl (fun s1_43 => ?_) (fun s1_43 => ?_)
  · refine er_loc (pc' := 146) rfl rfl rfl ?_
    refine er_loc (pc' := 147) rfl rfl rfl ?_
    refine er_iadd (pc' := 148) rfl rfl ?_
    refine er_iret rfl rfl ?_
    exact PI_of (by simp [sJoin, bI, *])
  refine er_sw (45) rfl rfl (fun s1_45 => ?_) (fun s1_45 => ?_)
  · refine er_loc (pc' := 150) rfl rfl rfl ?_
    refine er_loc (pc' := 151) rfl rfl rfl ?_
    refine er_isub (pc' := 152) rfl rfl ?_
    refine er_iret rfl rfl ?_
    exact PI_of (by simp [sJoin, bI, *])
  refine er_sw (47) rfl rfl (fun s1_47 => ?_) (fun s1_47 => ?_)
  · refine er_loc (pc' := 158) rfl rfl rfl ?_
    refine er_if_ne (pc' := 161) rfl rfl (fun h158 => ?_) (fun h158 => ?_)
    · refine er_loc (pc' := 166) rfl rfl rfl ?_
      refine er_loc (pc' := 167) rfl rfl rfl ?_
      refine er_idiv (pc' := 168) rfl rfl h158 ?_
      refine er_iret rfl rfl ?_
      exact PI_of (by simp [sJoin, bI, *])
    · refine er_k (pc' := 162) (nI 0) rfl rfl rfl ?_
      refine er_goto rfl ?_
      refine er_iret rfl rfl ?_
      exact PI_of (by simp [sJoin, bI, *])
  refine er_sw (60) rfl rfl (fun s1_60 => ?_) (fun s1_60 => ?_)
  · refine er_loc (pc' := 113) rfl rfl rfl ?_
    refine er_loc (pc' := 114) rfl rfl rfl ?_
    refine er_cm_ge (pc' := 117) rfl rfl (fun h114 => ?_) (fun h114 => ?_)
    · refine er_k (pc' := 122) (nI 0) rfl rfl rfl ?_
      refine er_iret rfl rfl ?_
      exact PI_of (by simp [sJoin, bI, *])
    · refine er_k (pc' := 118) (nI 1) rfl rfl rfl ?_
      refine er_goto rfl ?_
      refine er_iret rfl rfl ?_
      exact PI_of (by simp [sJoin, bI, *])
  refine er_sw (61) rfl rfl (fun s1_61 => ?_) (fun s1_61 => ?_)
  · refine er_loc (pc' := 124) rfl rfl rfl ?_
    refine er_loc (pc' := 125) rfl rfl rfl ?_
    refine er_cm_ne (pc' := 128) rfl rfl (fun h125 => ?_) (fun h125 => ?_)
    · refine er_k (pc' := 133) (nI 0) rfl rfl rfl ?_
      refine er_iret rfl rfl ?_
      exact PI_of (by simp [sJoin, bI, *])
    · refine er_k (pc' := 129) (nI 1) rfl rfl rfl ?_
      refine er_goto rfl ?_
      refine er_iret rfl rfl ?_
      exact PI_of (by simp [sJoin, bI, *])
  refine er_sw (62) rfl rfl (fun s1_62 => ?_) (fun s1_62 => ?_)
  · refine er_loc (pc' := 135) rfl rfl rfl ?_
    refine er_loc (pc' := 136) rfl rfl rfl ?_
    refine er_cm_le (pc' := 139) rfl rfl (fun h136 => ?_) (fun h136 => ?_)
    · refine er_k (pc' := 144) (nI 0) rfl rfl rfl ?_
      refine er_iret rfl rfl ?_
      exact PI_of (by simp [sJoin, bI, *])
    · refine er_k (pc' := 140) (nI 1) rfl rfl rfl ?_
      refine er_goto rfl ?_
      refine er_iret rfl rfl ?_
      exact PI_of (by simp [sJoin, bI, *])
  refine er_sw (124) rfl rfl (fun s1_124 => ?_) (fun s1_124 => ?_)
  · refine er_loc (pc' := 85) rfl rfl rfl ?_
    refine er_if_ne (pc' := 88) rfl rfl (fun h85 => ?_) (fun h85 => ?_)
    · refine er_k (pc' := 93) (nI 1) rfl rfl rfl ?_
      refine er_goto rfl ?_
      refine er_iret rfl rfl ?_
      exact PI_of (by simp [sJoin, bI, *])
    · refine er_loc (pc' := 89) rfl rfl rfl ?_
      refine er_if_eq (pc' := 92) rfl rfl (fun h89 => ?_) (fun h89 => ?_)
      · refine er_k (pc' := 97) (nI 0) rfl rfl rfl ?_
        refine er_iret rfl rfl ?_
        exact PI_of (by simp [sJoin, bI, *])
      · refine er_k (pc' := 93) (nI 1) rfl rfl rfl ?_
        refine er_goto rfl ?_
        refine er_iret rfl rfl ?_
        exact PI_of (by simp [sJoin, bI, *])
  refine er_lsD rfl rfl rfl (List.forall_mem_cons.mpr ⟨ne_toInt s1_38 rfl, List.forall_mem_cons.mpr ⟨ne_toInt s1_42 rfl, List.forall_mem_cons.mpr ⟨ne_toInt s1_43 rfl, List.forall_mem_cons.mpr ⟨ne_toInt s1_45 rfl, List.forall_mem_cons.mpr ⟨ne_toInt s1_47 rfl, List.forall_mem_cons.mpr ⟨ne_toInt s1_60 rfl, List.forall_mem_cons.mpr ⟨ne_toInt s1_61 rfl, List.forall_mem_cons.mpr ⟨ne_toInt s1_62 rfl, List.forall_mem_cons.mpr ⟨ne_toInt s1_124 rfl, fun _ h => absurd h List.not_mem_nil⟩⟩⟩⟩⟩⟩⟩⟩⟩) ?_
  refine er_loc (pc' := 170) rfl rfl rfl ?_
  refine er_if_ne (pc' := 173) rfl rfl (fun h170 => ?_) (fun h170 => ?_)
  · refine er_loc (pc' := 178) rfl rfl rfl ?_
    refine er_loc (pc' := 179) rfl rfl rfl ?_
    refine er_irem (pc' := 180) rfl rfl h170 ?_
    refine er_iret rfl rfl ?_
    exact PI_of (by simp [sJoin, bI, *])
  · refine er_k (pc' := 174) (nI 0) rfl rfl rfl ?_
    refine er_goto rfl ?_
    refine er_iret rfl rfl ?_
    exact PI_of (by simp [sJoin, bI, *])
def okSg (g : Int32) : Prop := g = 38 ∨ g = 42 ∨ g = 43 ∨ g = 45 ∨ g = 47 ∨ g = 60 ∨ g = 61 ∨ g = 62 ∨ g = 124 ∨ g = 37
set_option maxRecDepth 100000 in
set_option maxHeartbeats 4000000 in
theorem l_twoOf (d : Nat) (g x y : Int32) (w : ab_W) (hg : okSg g) : EC (d + 1) 144 [.int g, .int x, .int y] w (PI (sJoin g x y) w) := by
  refine er_enter (L := [(0, _), (1, _), (2, _)]) rfl rfl rfl ?_
  refine er_loc (pc' := 1) rfl rfl rfl ?_
  refine er_sw (37) rfl rfl (fun s1_37 => ?_) (fun s1_37 => ?_)
  · refine er_loc (pc' := 145) rfl rfl rfl ?_
    refine er_if_ne (pc' := 148) rfl rfl (fun h145 => ?_) (fun h145 => ?_)
    · refine er_loc (pc' := 153) rfl rfl rfl ?_
      refine er_loc (pc' := 154) rfl rfl rfl ?_
      refine er_irem (pc' := 155) rfl rfl h145 ?_
      refine er_iret rfl rfl ?_
      exact PI_of (by simp [sJoin, bI, *])
    · refine er_k (pc' := 149) (nI 0) rfl rfl rfl ?_
      refine er_goto rfl ?_
      refine er_iret rfl rfl ?_
      exact PI_of (by simp [sJoin, bI, *])
  refine er_sw (38) rfl rfl (fun s1_38 => ?_) (fun s1_38 => ?_)
  · refine er_loc (pc' := 190) rfl rfl rfl ?_
    refine er_if_eq (pc' := 193) rfl rfl (fun h190 => ?_) (fun h190 => ?_)
    · refine er_k (pc' := 202) (nI 0) rfl rfl rfl ?_
      refine er_iret rfl rfl ?_
      exact PI_of (by simp [sJoin, bI, *])
    · refine er_loc (pc' := 194) rfl rfl rfl ?_
      refine er_if_eq (pc' := 197) rfl rfl (fun h194 => ?_) (fun h194 => ?_)
      · refine er_k (pc' := 202) (nI 0) rfl rfl rfl ?_
        refine er_iret rfl rfl ?_
        exact PI_of (by simp [sJoin, bI, *])
      · refine er_k (pc' := 198) (nI 1) rfl rfl rfl ?_
        refine er_goto rfl ?_
        refine er_iret rfl rfl ?_
        exact PI_of (by simp [sJoin, bI, *])
  refine er_sw (42) rfl rfl (fun s1_42 => ?_) (fun s1_42 => ?_)
  · refine er_loc (pc' := 129) rfl rfl rfl ?_
    refine er_loc (pc' := 130) rfl rfl rfl ?_
    refine er_imul (pc' := 131) rfl rfl ?_
    refine er_iret rfl rfl ?_
    exact PI_of (by simp [sJoin, bI, *])
  refine er_sw (43) rfl rfl (fun s1_43 => ?_) (fun s1_43 => ?_)
  · refine er_loc (pc' := 121) rfl rfl rfl ?_
    refine er_loc (pc' := 122) rfl rfl rfl ?_
    refine er_iadd (pc' := 123) rfl rfl ?_
    refine er_iret rfl rfl ?_
    exact PI_of (by simp [sJoin, bI, *])
  refine er_sw (45) rfl rfl (fun s1_45 => ?_) (fun s1_45 => ?_)
  · refine er_loc (pc' := 125) rfl rfl rfl ?_
    refine er_loc (pc' := 126) rfl rfl rfl ?_
    refine er_isub (pc' := 127) rfl rfl ?_
    refine er_iret rfl rfl ?_
    exact PI_of (by simp [sJoin, bI, *])
  refine er_sw (47) rfl rfl (fun s1_47 => ?_) (fun s1_47 => ?_)
  · refine er_loc (pc' := 133) rfl rfl rfl ?_
    refine er_if_ne (pc' := 136) rfl rfl (fun h133 => ?_) (fun h133 => ?_)
    · refine er_loc (pc' := 141) rfl rfl rfl ?_
      refine er_loc (pc' := 142) rfl rfl rfl ?_
      refine er_idiv (pc' := 143) rfl rfl h133 ?_
      refine er_iret rfl rfl ?_
      exact PI_of (by simp [sJoin, bI, *])
    · refine er_k (pc' := 137) (nI 0) rfl rfl rfl ?_
      refine er_goto rfl ?_
      refine er_iret rfl rfl ?_
      exact PI_of (by simp [sJoin, bI, *])
  refine er_sw (60) rfl rfl (fun s1_60 => ?_) (fun s1_60 => ?_)
  · refine er_loc (pc' := 157) rfl rfl rfl ?_
    refine er_loc (pc' := 158) rfl rfl rfl ?_
    refine er_cm_ge (pc' := 161) rfl rfl (fun h158 => ?_) (fun h158 => ?_)
    · refine er_k (pc' := 166) (nI 0) rfl rfl rfl ?_
      refine er_iret rfl rfl ?_
      exact PI_of (by simp [sJoin, bI, *])
    · refine er_k (pc' := 162) (nI 1) rfl rfl rfl ?_
      refine er_goto rfl ?_
      refine er_iret rfl rfl ?_
      exact PI_of (by simp [sJoin, bI, *])
  refine er_sw (61) rfl rfl (fun s1_61 => ?_) (fun s1_61 => ?_)
  · refine er_loc (pc' := 168) rfl rfl rfl ?_
    refine er_loc (pc' := 169) rfl rfl rfl ?_
    refine er_cm_ne (pc' := 172) rfl rfl (fun h169 => ?_) (fun h169 => ?_)
    · refine er_k (pc' := 177) (nI 0) rfl rfl rfl ?_
      refine er_iret rfl rfl ?_
      exact PI_of (by simp [sJoin, bI, *])
    · refine er_k (pc' := 173) (nI 1) rfl rfl rfl ?_
      refine er_goto rfl ?_
      refine er_iret rfl rfl ?_
      exact PI_of (by simp [sJoin, bI, *])
  refine er_sw (62) rfl rfl (fun s1_62 => ?_) (fun s1_62 => ?_)
  · refine er_loc (pc' := 179) rfl rfl rfl ?_
    refine er_loc (pc' := 180) rfl rfl rfl ?_
    refine er_cm_le (pc' := 183) rfl rfl (fun h180 => ?_) (fun h180 => ?_)
    · refine er_k (pc' := 188) (nI 0) rfl rfl rfl ?_
      refine er_iret rfl rfl ?_
      exact PI_of (by simp [sJoin, bI, *])
    · refine er_k (pc' := 184) (nI 1) rfl rfl rfl ?_
      refine er_goto rfl ?_
      refine er_iret rfl rfl ?_
      exact PI_of (by simp [sJoin, bI, *])
  refine er_tsD [37, 38, 42, 43, 45, 47, 60, 61, 62] rfl rfl rfl rfl (List.forall_mem_cons.mpr ⟨ne_toInt s1_37 rfl, List.forall_mem_cons.mpr ⟨ne_toInt s1_38 rfl, List.forall_mem_cons.mpr ⟨ne_toInt s1_42 rfl, List.forall_mem_cons.mpr ⟨ne_toInt s1_43 rfl, List.forall_mem_cons.mpr ⟨ne_toInt s1_45 rfl, List.forall_mem_cons.mpr ⟨ne_toInt s1_47 rfl, List.forall_mem_cons.mpr ⟨ne_toInt s1_60 rfl, List.forall_mem_cons.mpr ⟨ne_toInt s1_61 rfl, List.forall_mem_cons.mpr ⟨ne_toInt s1_62 rfl, fun _ h => absurd h List.not_mem_nil⟩⟩⟩⟩⟩⟩⟩⟩⟩) ?_
  have hq : g = 124 := by simp_all [okSg]
  refine er_loc (pc' := 204) rfl rfl rfl ?_
  refine er_if_ne (pc' := 207) rfl rfl (fun h204 => ?_) (fun h204 => ?_)
  · refine er_k (pc' := 212) (nI 1) rfl rfl rfl ?_
    refine er_goto rfl ?_
    refine er_iret rfl rfl ?_
    exact PI_of (by simp [sJoin, bI, *])
  · refine er_loc (pc' := 208) rfl rfl rfl ?_
    refine er_if_eq (pc' := 211) rfl rfl (fun h208 => ?_) (fun h208 => ?_)
    · refine er_k (pc' := 216) (nI 0) rfl rfl rfl ?_
      refine er_iret rfl rfl ?_
      exact PI_of (by simp [sJoin, bI, *])
    · refine er_k (pc' := 212) (nI 1) rfl rfl rfl ?_
      refine er_goto rfl ?_
      refine er_iret rfl rfl ?_
      exact PI_of (by simp [sJoin, bI, *])
