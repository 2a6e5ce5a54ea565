section
/-! THE WORLD AS A FUNCTION: numbers by cell and place; x what stays from call to call, z what is written before it is read -/
def qa (n : Nat) (f : Nat → Int32) : List Int32 := (List.range n).map f
def cO0 (c : Nat) (x z : Nat → Int32) : ab_C := match c with
  | 0 => .inl (11, [.ref 1, .ref 9, .ref 22, .ref 35, .int (x 4), .ref 48, .ref 51, .ref 53, .ref 54, .ref 59, .ref 60, .ref 61, .ref 62])
  | 1 => .inr (.inr (0, (List.range 7).map (fun k => some (2 + k))))
  | 2 => .inl (0, [])
  | 3 => .inl (1, [])
  | 4 => .inl (2, [])
  | 5 => .inl (3, [])
  | 6 => .inl (4, [])
  | 7 => .inl (5, [])
  | 8 => .inl (6, [])
  | _ => .inl (7, [.ref 1, .int (x 1), .ref 10, .ref 11, .ref 12, .ref 13, .int (x 6), .int (x 7), .int (x 8), .int (x 9), .int (x 10), .ref 14, .ref 17, .ref 20, .int (x 14), .ref 21, .int (x 16), .int (x 17)])
def cO1 (c : Nat) (x z : Nat → Int32) : ab_C := match c with
  | 0 => .inr (.inl (qa 8 x))
  | 1 => .inr (.inl (qa 8 x))
  | 2 => .inr (.inl (qa 8 x))
  | 3 => .inr (.inl (qa 8 x))
  | 4 => .inl (8, [.ref 15, .ref 16, .int (x 2)])
  | 5 => .inr (.inl (qa 50 x))
  | 6 => .inr (.inl (qa 50 z))
  | 7 => .inl (8, [.ref 18, .ref 19, .int (x 2)])
  | 8 => .inr (.inl (qa 50 x))
  | _ => .inr (.inl (qa 50 z))
def cO2 (c : Nat) (x z : Nat → Int32) : ab_C := match c with
  | 0 => .inr (.inl (qa 50 x))
  | 1 => .inr (.inl (qa 20 x))
  | 2 => .inl (7, [.ref 1, .int (x 1), .ref 23, .ref 24, .ref 25, .ref 26, .int (x 6), .int (x 7), .int (x 8), .int (x 9), .int (x 10), .ref 27, .ref 30, .ref 33, .int (x 14), .ref 34, .int (x 16), .int (x 17)])
  | 3 => .inr (.inl (qa 8 x))
  | 4 => .inr (.inl (qa 8 x))
  | 5 => .inr (.inl (qa 8 x))
  | 6 => .inr (.inl (qa 8 x))
  | 7 => .inl (8, [.ref 28, .ref 29, .int (x 2)])
  | 8 => .inr (.inl (qa 50 x))
  | _ => .inr (.inl (qa 50 z))
def cO3 (c : Nat) (x z : Nat → Int32) : ab_C := match c with
  | 0 => .inl (8, [.ref 31, .ref 32, .int (x 2)])
  | 1 => .inr (.inl (qa 50 x))
  | 2 => .inr (.inl (qa 50 z))
  | 3 => .inr (.inl (qa 50 x))
  | 4 => .inr (.inl (qa 20 x))
  | 5 => .inl (7, [.ref 1, .int (x 1), .ref 36, .ref 37, .ref 38, .ref 39, .int (x 6), .int (x 7), .int (x 8), .int (x 9), .int (x 10), .ref 40, .ref 43, .ref 46, .int (x 14), .ref 47, .int (x 16), .int (x 17)])
  | 6 => .inr (.inl (qa 8 x))
  | 7 => .inr (.inl (qa 8 x))
  | 8 => .inr (.inl (qa 8 x))
  | _ => .inr (.inl (qa 8 x))
def cO4 (c : Nat) (x z : Nat → Int32) : ab_C := match c with
  | 0 => .inl (8, [.ref 41, .ref 42, .int (x 2)])
  | 1 => .inr (.inl (qa 50 x))
  | 2 => .inr (.inl (qa 50 z))
  | 3 => .inl (8, [.ref 44, .ref 45, .int (x 2)])
  | 4 => .inr (.inl (qa 50 x))
  | 5 => .inr (.inl (qa 50 z))
  | 6 => .inr (.inl (qa 50 x))
  | 7 => .inr (.inl (qa 20 x))
  | 8 => .inl (9, [.ref (z 0).toNatClampNeg, .int (z 1), .ref (z 2).toNatClampNeg, .int (z 3), .int (z 4), .ref 50, .int (z 6)])
  | _ => .inr (.inl (qa 0 z))
def cO5 (c : Nat) (x z : Nat → Int32) : ab_C := match c with
  | 0 => .inr (.inl (qa 50 z))
  | 1 => .inl (10, [.ref 52, .int (x 1), .int (x 2), .int (x 3)])
  | 2 => .inr (.inl (qa 40 x))
  | 3 => .inr (.inl (qa 6 x))
  | 4 => .inr (.inr (1, (List.range 4).map (fun k => some (55 + k))))
  | 5 => .inr (.inl (qa 40 x))
  | 6 => .inr (.inl (qa 40 x))
  | 7 => .inr (.inl (qa 40 x))
  | 8 => .inr (.inl (qa 40 x))
  | _ => .inr (.inl (qa 4 x))
def cO6 (c : Nat) (x z : Nat → Int32) : ab_C := match c with
  | 0 => .inr (.inl (qa 4 x))
  | 1 => .inr (.inl (qa 5 x))
  | 2 => .inr (.inl (qa 5 x))
  | 3 => .inl (12, [.ref 64, .ref 65, .ref 66, .int (x 3), .ref 67, .ref 68, .ref 69, .ref 70, .ref 71, .int (z 9), .int (z 10), .int (z 11), .int (z 12), .int (z 13), .ref 72, .ref 73, .int (x 16), .ref 74, .int (x 18), .int (x 19), .ref 75, .int (x 21), .ref 76, .ref 77, .ref 78])
  | 4 => .inr (.inl (qa 327 x))
  | 5 => .inr (.inl (qa 327 x))
  | 6 => .inr (.inl (qa 327 x))
  | 7 => .inr (.inl (qa 6 x))
  | 8 => .inr (.inl (qa 50 z))
  | _ => .inr (.inl (qa 50 z))
def cO7 (c : Nat) (x z : Nat → Int32) : ab_C := match c with
  | 0 => .inr (.inl (qa 3 z))
  | 1 => .inr (.inl (qa 50 z))
  | 2 => .inr (.inl (qa 5 x))
  | 3 => .inr (.inl (qa 5 x))
  | 4 => .inr (.inl (qa 625 x))
  | 5 => .inr (.inl (qa 40 x))
  | 6 => .inr (.inl (qa 4 x))
  | 7 => .inr (.inl (qa 4 x))
  | 8 => .inr (.inl (qa 160 x))
  | _ => .inr (.inl [])
def cO (c : Nat) (x z : Nat → Int32) : ab_C := match c / 10 with
  | 0 => cO0 (c % 10) x z
  | 1 => cO1 (c % 10) x z
  | 2 => cO2 (c % 10) x z
  | 3 => cO3 (c % 10) x z
  | 4 => cO4 (c % 10) x z
  | 5 => cO5 (c % 10) x z
  | 6 => cO6 (c % 10) x z
  | _ => cO7 (c % 10) x z
def Wd (X Z : Nat → Nat → Int32) : ab_W := (List.range 79).map (fun c => cO c (X c) (Z c))
def u1 (f : Nat → Int32) (k : Nat) (v : Int32) : Nat → Int32 := fun i => if i = k then v else f i
def uc (X : Nat → Nat → Int32) (c : Nat) (f : Nat → Int32) : Nat → Nat → Int32 := fun i => if i = c then f else X i
def ud (X : Nat → Nat → Int32) (c k : Nat) (v : Int32) : Nat → Nat → Int32 := uc X c (u1 (X c) k v)
def bI (b : Bool) : Int32 := cond b (nI 1) (nI 0)
def SP : List (List Int32) := [[0, 0, 0, 0, 1, 2, 3]]
def EC (d j : Nat) (As : List Value) (w : ab_W) (P : ab_R → Prop) : Prop := ∃ r, ev_Call tb SP d j As w r ∧ P r
def ER (d : Nat) (M : ab_M) (pc : Nat) (L : ab_Lo) (st : List Value) (w : ab_W) (P : ab_R → Prop) : Prop := ∃ r, ev_Run tb SP SP d M (pc, L, st, w, 0, 0) r ∧ P r
theorem u1_same (f : Nat → Int32) (k : Nat) (v : Int32) : u1 f k v k = v := if_pos rfl
theorem u1_ne {f : Nat → Int32} {k i : Nat} {v : Int32} (h : i ≠ k) : u1 f k v i = f i := if_neg h
theorem u1_at (f : Nat → Int32) (k : Nat) (v : Int32) (i : Nat) : u1 f k v i = if i = k then v else f i := rfl
theorem uc_same (X : Nat → Nat → Int32) (c : Nat) (f : Nat → Int32) : uc X c f c = f := if_pos rfl
theorem uc_ne {X : Nat → Nat → Int32} {c i : Nat} {f : Nat → Int32} (h : i ≠ c) : uc X c f i = X i := if_neg h
theorem u1_id (f : Nat → Int32) (k : Nat) : u1 f k (f k) = f := by
  funext i
  unfold u1
  split
  · rename_i h; rw [h]
  · rfl
theorem uc_id (X : Nat → Nat → Int32) (c : Nat) : uc X c (X c) = X := by
  funext i
  unfold uc
  split
  · rename_i h; rw [h]
  · rfl
theorem uc_uc (X : Nat → Nat → Int32) (c : Nat) (f g : Nat → Int32) : uc (uc X c f) c g = uc X c g := by
  funext i
  unfold uc
  split <;> rfl
theorem ud_same (X : Nat → Nat → Int32) (c k : Nat) (v : Int32) : ud X c k v c = u1 (X c) k v := if_pos rfl
theorem ud_ne {X : Nat → Nat → Int32} {c i k : Nat} {v : Int32} (h : i ≠ c) : ud X c k v i = X i := if_neg h
theorem qa_len (n : Nat) (f : Nat → Int32) : (qa n f).length = n := by simp [qa]
theorem qa_at (n : Nat) (f : Nat → Int32) (k : Nat) (h : k < n) : (qa n f)[k]? = some (f k) := by
  unfold qa
  rw [List.getElem?_map, List.getElem?_range h]
  rfl
theorem qa_set (n : Nat) (f : Nat → Int32) (k : Nat) (v : Int32) : (qa n f).set k v = qa n (u1 f k v) := by
  apply List.ext_getElem?
  intro i
  rw [List.getElem?_set, qa_len]
  by_cases hi : i < n
  · rw [qa_at n f i hi, qa_at n (u1 f k v) i hi]
    unfold u1
    by_cases hk : k = i
    · subst hk; simp [hi]
    · rw [if_neg hk, if_neg (Ne.symm hk)]
  · rw [List.getElem?_eq_none (by rw [qa_len]; omega)]
    by_cases hk : k = i
    · subst hk; simp [hi, qa_len]
    · rw [if_neg hk, List.getElem?_eq_none (by rw [qa_len]; omega)]
theorem qa_cong {n : Nat} {f g : Nat → Int32} (h : ∀ i, i < n → f i = g i) : qa n f = qa n g := by
  unfold qa
  exact List.map_congr_left (fun i hi => h i (List.mem_range.mp hi))
theorem qa_ix {n : Nat} {f : Nat → Int32} {k : Nat} (h : k < n) (hn : n < 2 ^ 31) : ab_ix (qa n f) (nI k) = some (f k) := by
  unfold ab_ix
  rw [decide_eq_false (nI_pos (by omega)), nI_clamp (by omega), ab_nth_eq, qa_at n f k h]
  rfl
theorem Wd_cell {X Z : Nat → Nat → Int32} {c : Nat} (h : Nat.blt c 79 = true) : ab_cell (Wd X Z) c = some (cO c (X c) (Z c)) := by
  have h1 : c < 79 := Nat.le_of_ble_eq_true h
  unfold ab_cell Wd
  rw [show Nat.ble ab_B c = false from by
    cases hb : Nat.ble ab_B c with
    | false => rfl
    | true => have := Nat.le_of_ble_eq_true hb; simp only [ab_B] at this; omega]
  rw [ab_nth_eq, List.getElem?_map, List.getElem?_range h1]
  rfl
theorem Wd_set {X Z X' Z' : Nat → Nat → Int32} {c : Nat} {e : ab_C} (h : Nat.blt c 79 = true) (he : e = cO c (X' c) (Z' c)) (hX : ∀ i, i ≠ c → X' i = X i) (hZ : ∀ i, i ≠ c → Z' i = Z i) : (Wd X Z).set c e = Wd X' Z' := by
  have h1 : c < 79 := Nat.le_of_ble_eq_true h
  apply List.ext_getElem?
  intro i
  rw [List.getElem?_set]
  unfold Wd
  by_cases hi : c = i
  · subst hi
    rw [if_pos rfl, if_pos (by simp; exact h1), List.getElem?_map, List.getElem?_range h1, he]
    rfl
  · rw [if_neg hi, List.getElem?_map, List.getElem?_map]
    by_cases h2 : i < 79
    · rw [List.getElem?_range h2]
      simp only [Option.map_some]
      rw [hX i (Ne.symm hi), hZ i (Ne.symm hi)]
    · rw [List.getElem?_eq_none (by simp; omega)]
      rfl
theorem Wd_setX {X Z : Nat → Nat → Int32} {c : Nat} {e : ab_C} {g : Nat → Int32} (h : Nat.blt c 79 = true) (he : e = cO c g (Z c)) : (Wd X Z).set c e = Wd (uc X c g) Z :=
  Wd_set h (by rw [uc_same]; exact he) (fun _ hi => uc_ne hi) (fun _ _ => rfl)
theorem Wd_setZ {X Z : Nat → Nat → Int32} {c : Nat} {e : ab_C} {g : Nat → Int32} (h : Nat.blt c 79 = true) (he : e = cO c (X c) g) : (Wd X Z).set c e = Wd X (uc Z c g) :=
  Wd_set h (by rw [uc_same]; exact he) (fun _ _ => rfl) (fun _ hi => uc_ne hi)
theorem EC.mono {d j : Nat} {As : List Value} {w : ab_W} {P Q : ab_R → Prop} (h : EC d j As w P) (hpq : ∀ r, P r → Q r) : EC d j As w Q := by
  obtain ⟨r, h1, h2⟩ := h
  exact ⟨r, h1, hpq r h2⟩
theorem EC.up {d d' j : Nat} {As : List Value} {w : ab_W} {P : ab_R → Prop} (h : EC d j As w P) (hd : d ≤ d') : EC d' j As w P := by
  obtain ⟨r, h1, h2⟩ := h
  exact ⟨r, ev_up hd h1, h2⟩
theorem ER.mono {d pc : Nat} {M : ab_M} {L : ab_Lo} {st : List Value} {w : ab_W} {P Q : ab_R → Prop} (h : ER d M pc L st w P) (hpq : ∀ r, P r → Q r) : ER d M pc L st w Q := by
  obtain ⟨r, h1, h2⟩ := h
  exact ⟨r, h1, hpq r h2⟩
section ERS
variable {d pc pc' lk : Nat} {M : ab_M} {L L' : ab_Lo} {st : List Value} {w : ab_W} {P : ab_R → Prop} {X Z : Nat → Nat → Int32}
theorem er_of {st' : List Value} {w' : ab_W} {r0 : ab_R → Prop} (h : ∀ r, ev_Run tb SP SP d M (pc', L', st', w', 0, 0) r → ev_Run tb SP SP d M (pc, L, st, w, 0, 0) r) (k : ER d M pc' L' st' w' P) : ER d M pc L st w P := by
  obtain ⟨r, h1, h2⟩ := k
  exact ⟨r, h r h1, h2⟩
theorem er_enter {j : Nat} {As : List Value} (hM : ab_nth tb.2.2.2.2.1 j = some M) (hs : Nat.ble ((As.map fun v => v.category).sum) M.2.2.1 = true) (hL : lv_args 0 As = L) (k : ER d M 0 L [] w P) : EC (d + 1) j As w P := by
  obtain ⟨r, h1, h2⟩ := k
  subst hL
  exact ⟨r, ev_enter hM hs h1, h2⟩
theorem er_pure {st st' : List Value} {ins : Instr} (hf : ab_fetch M.2.2.2.2.2.2.2 pc = some (ins, lk)) (h : ab_pure ins st = some st') (hp : pc + ab_len ins = pc') (k : ER d M pc' L st' w P) : ER d M pc L st w P := by
  obtain ⟨r, h1, h2⟩ := k
  subst hp
  exact ⟨r, ev_pure hf h h1, h2⟩
theorem er_loc {st st' : List Value} {ins : Instr} (hf : ab_fetch M.2.2.2.2.2.2.2 pc = some (ins, lk)) (h : ab_loc M.2.2.1 ins L st = some (L', st')) (hp : pc + ab_len ins = pc') (k : ER d M pc' L' st' w P) : ER d M pc L st w P := by
  obtain ⟨r, h1, h2⟩ := k
  subst hp
  exact ⟨r, ev_loc hf h h1, h2⟩
theorem er_goto {off : Int} (hf : ab_fetch M.2.2.2.2.2.2.2 pc = some (.goto off, lk)) (k : ER d M lk L st w P) : ER d M pc L st w P := by
  obtain ⟨r, h1, h2⟩ := k
  exact ⟨r, ev_goto hf h1, h2⟩
theorem er_br {st st' : List Value} {ins : Instr} (hf : ab_fetch M.2.2.2.2.2.2.2 pc = some (ins, lk)) (h : ab_br ins pc lk st = some (pc', st')) (k : ER d M pc' L st' w P) : ER d M pc L st w P := by
  obtain ⟨r, h1, h2⟩ := k
  exact ⟨r, ev_br hf h h1, h2⟩
theorem er_iadd {x y : Int32} (hf : ab_fetch M.2.2.2.2.2.2.2 pc = some (.iadd, lk)) (hp : pc + 1 = pc') (k : ER d M pc' L (.int (x + y) :: st) w P) : ER d M pc L (.int y :: .int x :: st) w P := er_pure hf (by rfl) hp k
theorem er_isub {x y : Int32} (hf : ab_fetch M.2.2.2.2.2.2.2 pc = some (.isub, lk)) (hp : pc + 1 = pc') (k : ER d M pc' L (.int (x - y) :: st) w P) : ER d M pc L (.int y :: .int x :: st) w P := er_pure hf (by rfl) hp k
theorem er_imul {x y : Int32} (hf : ab_fetch M.2.2.2.2.2.2.2 pc = some (.imul, lk)) (hp : pc + 1 = pc') (k : ER d M pc' L (.int (x * y) :: st) w P) : ER d M pc L (.int y :: .int x :: st) w P := er_pure hf (by rfl) hp k
theorem er_iand {x y : Int32} (hf : ab_fetch M.2.2.2.2.2.2.2 pc = some (.iand, lk)) (hp : pc + 1 = pc') (k : ER d M pc' L (.int (x &&& y) :: st) w P) : ER d M pc L (.int y :: .int x :: st) w P := er_pure hf (by rfl) hp k
theorem er_ior {x y : Int32} (hf : ab_fetch M.2.2.2.2.2.2.2 pc = some (.ior, lk)) (hp : pc + 1 = pc') (k : ER d M pc' L (.int (x ||| y) :: st) w P) : ER d M pc L (.int y :: .int x :: st) w P := er_pure hf (by rfl) hp k
theorem er_ixor {x y : Int32} (hf : ab_fetch M.2.2.2.2.2.2.2 pc = some (.ixor, lk)) (hp : pc + 1 = pc') (k : ER d M pc' L (.int (x ^^^ y) :: st) w P) : ER d M pc L (.int y :: .int x :: st) w P := er_pure hf (by rfl) hp k
theorem er_ishl {x y : Int32} (hf : ab_fetch M.2.2.2.2.2.2.2 pc = some (.ishl, lk)) (hp : pc + 1 = pc') (k : ER d M pc' L (.int (x <<< (y &&& 31)) :: st) w P) : ER d M pc L (.int y :: .int x :: st) w P := er_pure hf (by rfl) hp k
theorem er_ishr {x y : Int32} (hf : ab_fetch M.2.2.2.2.2.2.2 pc = some (.ishr, lk)) (hp : pc + 1 = pc') (k : ER d M pc' L (.int (x >>> (y &&& 31)) :: st) w P) : ER d M pc L (.int y :: .int x :: st) w P := er_pure hf (by rfl) hp k
theorem er_iushr {x y : Int32} (hf : ab_fetch M.2.2.2.2.2.2.2 pc = some (.iushr, lk)) (hp : pc + 1 = pc') (k : ER d M pc' L (.int ((x.toUInt32 >>> (y.toUInt32 &&& Int32.toUInt32 31)).toInt32) :: st) w P) : ER d M pc L (.int y :: .int x :: st) w P := er_pure hf (by rfl) hp k
theorem er_ineg {x : Int32} (hf : ab_fetch M.2.2.2.2.2.2.2 pc = some (.ineg, lk)) (hp : pc + 1 = pc') (k : ER d M pc' L (.int (-x) :: st) w P) : ER d M pc L (.int x :: st) w P := er_pure hf (by rfl) hp k
theorem er_i2b {x : Int32} (hf : ab_fetch M.2.2.2.2.2.2.2 pc = some (.i2b, lk)) (hp : pc + 1 = pc') (k : ER d M pc' L (.int x.toInt8.toInt32 :: st) w P) : ER d M pc L (.int x :: st) w P := er_pure hf (by rfl) hp k
theorem er_i2s {x : Int32} (hf : ab_fetch M.2.2.2.2.2.2.2 pc = some (.i2s, lk)) (hp : pc + 1 = pc') (k : ER d M pc' L (.int x.toInt16.toInt32 :: st) w P) : ER d M pc L (.int x :: st) w P := er_pure hf (by rfl) hp k
theorem er_i2c {x : Int32} (hf : ab_fetch M.2.2.2.2.2.2.2 pc = some (.i2c, lk)) (hp : pc + 1 = pc') (k : ER d M pc' L (.int ((x.toUInt32 % 65536).toInt32) :: st) w P) : ER d M pc L (.int x :: st) w P := er_pure hf (by rfl) hp k
theorem er_idiv {x y : Int32} (hf : ab_fetch M.2.2.2.2.2.2.2 pc = some (.idiv, lk)) (hp : pc + 1 = pc') (h0 : ¬ y = 0) (k : ER d M pc' L (.int (x / y) :: st) w P) : ER d M pc L (.int y :: .int x :: st) w P := er_pure hf (by simp only [ab_pure, ab_d2, decide_eq_false h0, cond_false]) hp k
theorem er_irem {x y : Int32} (hf : ab_fetch M.2.2.2.2.2.2.2 pc = some (.irem, lk)) (hp : pc + 1 = pc') (h0 : ¬ y = 0) (k : ER d M pc' L (.int (x - x / y * y) :: st) w P) : ER d M pc L (.int y :: .int x :: st) w P := er_pure hf (by simp only [ab_pure, ab_d2, decide_eq_false h0, cond_false]) hp k
def kv (ins : Instr) : Option Int32 := match ins with
  | .iconst n => some (Int32.ofInt n)
  | .bipush n => some (Int8.ofInt n).toInt32
  | .sipush n => some (Int16.ofInt n).toInt32
  | _ => none
theorem er_k (v : Int32) {ins : Instr} (hf : ab_fetch M.2.2.2.2.2.2.2 pc = some (ins, lk)) (hv : kv ins = some v) (hp : pc + ab_len ins = pc') (k : ER d M pc' L (.int v :: st) w P) : ER d M pc L st w P := by
  refine er_pure hf ?_ hp k
  cases ins <;> cases hv <;> rfl
theorem er_ldc (v : Int32) {ins : Instr} {q : ab_K} (hf : ab_fetch M.2.2.2.2.2.2.2 pc = some (ins, lk)) (hq : ab_nth tb.2.2.1 lk = some q) (hv : q.2.2.1 = .int v) (hi : (match ins with
    | .ldc _ => true
    | .ldc_w _ => true
    | _ => false) = true) (hp : pc + ab_len ins = pc') (k : ER d M pc' L (.int v :: st) w P) : ER d M pc L st w P := by
  obtain ⟨r, h1, h2⟩ := k
  subst hp
  refine ⟨r, ev_heap hf ?_ h1, h2⟩
  rw [← hv]
  cases ins <;> first | (simp only [ab_heap, hq]; done) | (cases hi; done)
theorem er_ret (v : Option Value) {ins : Instr} (hf : ab_fetch M.2.2.2.2.2.2.2 pc = some (ins, lk)) (h : ab_ret M.2.2.2.1 ins st = some v) (hP : P (v, w)) : ER d M pc L st w P := ⟨_, ev_ret hf h, hP⟩
theorem er_iret {v : Int32} (hf : ab_fetch M.2.2.2.2.2.2.2 pc = some (.ireturn, lk)) (ht : M.2.2.2.1 = some .int) (hP : P (some (.int v), w)) : ER d M pc L [.int v] w P := er_ret _ hf (by rw [ht]; rfl) hP
theorem er_zret {b : Bool} (hf : ab_fetch M.2.2.2.2.2.2.2 pc = some (.ireturn, lk)) (ht : M.2.2.2.1 = some .boolean) (hP : P (some (.int (bI b)), w)) : ER d M pc L [.int (bI b)] w P := er_ret _ hf (by rw [ht]; cases b <;> rfl) hP
theorem er_vret (hf : ab_fetch M.2.2.2.2.2.2.2 pc = some (.return_, lk)) (ht : M.2.2.2.1 = none) (hP : P (none, w)) : ER d M pc L [] w P := er_ret _ hf (by rw [ht]; rfl) hP
theorem er_cm_eqT {x y : Int32} {off : Int} (hf : ab_fetch M.2.2.2.2.2.2.2 pc = some (.if_icmp .eq off, lk)) (h : x = y) (k : ER d M lk L st w P) : ER d M pc L (.int y :: .int x :: st) w P := by
  have e : ab_c2 .eq x y = true := by simp only [ab_c1, ab_c2]; simp [h, ← Int32.not_lt]
  refine er_br hf ?_ k
  show some (cond (ab_c2 .eq x y) lk (pc + 3), st) = _
  rw [e]; rfl
theorem er_cm_eqF {x y : Int32} {off : Int} (hf : ab_fetch M.2.2.2.2.2.2.2 pc = some (.if_icmp .eq off, lk)) (h : ¬ x = y) (hp : pc + 3 = pc') (k : ER d M pc' L st w P) : ER d M pc L (.int y :: .int x :: st) w P := by
  have e : ab_c2 .eq x y = false := by simp only [ab_c1, ab_c2]; simp [h, ← Int32.not_lt]
  subst hp
  refine er_br hf ?_ k
  show some (cond (ab_c2 .eq x y) lk (pc + 3), st) = _
  rw [e]; rfl
theorem er_cm_eq {x y : Int32} {off : Int} (hf : ab_fetch M.2.2.2.2.2.2.2 pc = some (.if_icmp .eq off, lk)) (hp : pc + 3 = pc') (k1 : x = y → ER d M lk L st w P) (k2 : ¬ x = y → ER d M pc' L st w P) : ER d M pc L (.int y :: .int x :: st) w P := by
  by_cases h : x = y
  · exact er_cm_eqT hf h (k1 h)
  · exact er_cm_eqF hf h hp (k2 h)
theorem er_if_eqT {x : Int32} {off : Int} (hf : ab_fetch M.2.2.2.2.2.2.2 pc = some (.ifCond .eq off, lk)) (h : x = 0) (k : ER d M lk L st w P) : ER d M pc L (.int x :: st) w P := by
  have e : ab_c1 .eq x = true := by simp only [ab_c1, ab_c2]; simp [h, ← Int32.not_lt]
  refine er_br hf ?_ k
  show some (cond (ab_c1 .eq x) lk (pc + 3), st) = _
  rw [e]; rfl
theorem er_if_eqF {x : Int32} {off : Int} (hf : ab_fetch M.2.2.2.2.2.2.2 pc = some (.ifCond .eq off, lk)) (h : ¬ x = 0) (hp : pc + 3 = pc') (k : ER d M pc' L st w P) : ER d M pc L (.int x :: st) w P := by
  have e : ab_c1 .eq x = false := by simp only [ab_c1, ab_c2]; simp [h, ← Int32.not_lt]
  subst hp
  refine er_br hf ?_ k
  show some (cond (ab_c1 .eq x) lk (pc + 3), st) = _
  rw [e]; rfl
theorem er_if_eq {x : Int32} {off : Int} (hf : ab_fetch M.2.2.2.2.2.2.2 pc = some (.ifCond .eq off, lk)) (hp : pc + 3 = pc') (k1 : x = 0 → ER d M lk L st w P) (k2 : ¬ x = 0 → ER d M pc' L st w P) : ER d M pc L (.int x :: st) w P := by
  by_cases h : x = 0
  · exact er_if_eqT hf h (k1 h)
  · exact er_if_eqF hf h hp (k2 h)
theorem er_cm_neT {x y : Int32} {off : Int} (hf : ab_fetch M.2.2.2.2.2.2.2 pc = some (.if_icmp .ne off, lk)) (h : ¬ x = y) (k : ER d M lk L st w P) : ER d M pc L (.int y :: .int x :: st) w P := by
  have e : ab_c2 .ne x y = true := by simp only [ab_c1, ab_c2]; simp [h, ← Int32.not_lt]
  refine er_br hf ?_ k
  show some (cond (ab_c2 .ne x y) lk (pc + 3), st) = _
  rw [e]; rfl
theorem er_cm_neF {x y : Int32} {off : Int} (hf : ab_fetch M.2.2.2.2.2.2.2 pc = some (.if_icmp .ne off, lk)) (h : x = y) (hp : pc + 3 = pc') (k : ER d M pc' L st w P) : ER d M pc L (.int y :: .int x :: st) w P := by
  have e : ab_c2 .ne x y = false := by simp only [ab_c1, ab_c2]; simp [h, ← Int32.not_lt]
  subst hp
  refine er_br hf ?_ k
  show some (cond (ab_c2 .ne x y) lk (pc + 3), st) = _
  rw [e]; rfl
theorem er_cm_ne {x y : Int32} {off : Int} (hf : ab_fetch M.2.2.2.2.2.2.2 pc = some (.if_icmp .ne off, lk)) (hp : pc + 3 = pc') (k1 : ¬ x = y → ER d M lk L st w P) (k2 : x = y → ER d M pc' L st w P) : ER d M pc L (.int y :: .int x :: st) w P := by
  by_cases h : x = y
  · exact er_cm_neF hf h hp (k2 h)
  · exact er_cm_neT hf h (k1 h)
theorem er_if_neT {x : Int32} {off : Int} (hf : ab_fetch M.2.2.2.2.2.2.2 pc = some (.ifCond .ne off, lk)) (h : ¬ x = 0) (k : ER d M lk L st w P) : ER d M pc L (.int x :: st) w P := by
  have e : ab_c1 .ne x = true := by simp only [ab_c1, ab_c2]; simp [h, ← Int32.not_lt]
  refine er_br hf ?_ k
  show some (cond (ab_c1 .ne x) lk (pc + 3), st) = _
  rw [e]; rfl
theorem er_if_neF {x : Int32} {off : Int} (hf : ab_fetch M.2.2.2.2.2.2.2 pc = some (.ifCond .ne off, lk)) (h : x = 0) (hp : pc + 3 = pc') (k : ER d M pc' L st w P) : ER d M pc L (.int x :: st) w P := by
  have e : ab_c1 .ne x = false := by simp only [ab_c1, ab_c2]; simp [h, ← Int32.not_lt]
  subst hp
  refine er_br hf ?_ k
  show some (cond (ab_c1 .ne x) lk (pc + 3), st) = _
  rw [e]; rfl
theorem er_if_ne {x : Int32} {off : Int} (hf : ab_fetch M.2.2.2.2.2.2.2 pc = some (.ifCond .ne off, lk)) (hp : pc + 3 = pc') (k1 : ¬ x = 0 → ER d M lk L st w P) (k2 : x = 0 → ER d M pc' L st w P) : ER d M pc L (.int x :: st) w P := by
  by_cases h : x = 0
  · exact er_if_neF hf h hp (k2 h)
  · exact er_if_neT hf h (k1 h)
theorem er_cm_ltT {x y : Int32} {off : Int} (hf : ab_fetch M.2.2.2.2.2.2.2 pc = some (.if_icmp .lt off, lk)) (h : x < y) (k : ER d M lk L st w P) : ER d M pc L (.int y :: .int x :: st) w P := by
  have e : ab_c2 .lt x y = true := by simp only [ab_c1, ab_c2]; simp [h, ← Int32.not_lt]
  refine er_br hf ?_ k
  show some (cond (ab_c2 .lt x y) lk (pc + 3), st) = _
  rw [e]; rfl
theorem er_cm_ltF {x y : Int32} {off : Int} (hf : ab_fetch M.2.2.2.2.2.2.2 pc = some (.if_icmp .lt off, lk)) (h : ¬ x < y) (hp : pc + 3 = pc') (k : ER d M pc' L st w P) : ER d M pc L (.int y :: .int x :: st) w P := by
  have e : ab_c2 .lt x y = false := by simp only [ab_c1, ab_c2]; simp [h, ← Int32.not_lt]
  subst hp
  refine er_br hf ?_ k
  show some (cond (ab_c2 .lt x y) lk (pc + 3), st) = _
  rw [e]; rfl
theorem er_cm_lt {x y : Int32} {off : Int} (hf : ab_fetch M.2.2.2.2.2.2.2 pc = some (.if_icmp .lt off, lk)) (hp : pc + 3 = pc') (k1 : x < y → ER d M lk L st w P) (k2 : ¬ x < y → ER d M pc' L st w P) : ER d M pc L (.int y :: .int x :: st) w P := by
  by_cases h : x < y
  · exact er_cm_ltT hf h (k1 h)
  · exact er_cm_ltF hf h hp (k2 h)
theorem er_if_ltT {x : Int32} {off : Int} (hf : ab_fetch M.2.2.2.2.2.2.2 pc = some (.ifCond .lt off, lk)) (h : x < 0) (k : ER d M lk L st w P) : ER d M pc L (.int x :: st) w P := by
  have e : ab_c1 .lt x = true := by simp only [ab_c1, ab_c2]; simp [h, ← Int32.not_lt]
  refine er_br hf ?_ k
  show some (cond (ab_c1 .lt x) lk (pc + 3), st) = _
  rw [e]; rfl
theorem er_if_ltF {x : Int32} {off : Int} (hf : ab_fetch M.2.2.2.2.2.2.2 pc = some (.ifCond .lt off, lk)) (h : ¬ x < 0) (hp : pc + 3 = pc') (k : ER d M pc' L st w P) : ER d M pc L (.int x :: st) w P := by
  have e : ab_c1 .lt x = false := by simp only [ab_c1, ab_c2]; simp [h, ← Int32.not_lt]
  subst hp
  refine er_br hf ?_ k
  show some (cond (ab_c1 .lt x) lk (pc + 3), st) = _
  rw [e]; rfl
theorem er_if_lt {x : Int32} {off : Int} (hf : ab_fetch M.2.2.2.2.2.2.2 pc = some (.ifCond .lt off, lk)) (hp : pc + 3 = pc') (k1 : x < 0 → ER d M lk L st w P) (k2 : ¬ x < 0 → ER d M pc' L st w P) : ER d M pc L (.int x :: st) w P := by
  by_cases h : x < 0
  · exact er_if_ltT hf h (k1 h)
  · exact er_if_ltF hf h hp (k2 h)
theorem er_cm_geT {x y : Int32} {off : Int} (hf : ab_fetch M.2.2.2.2.2.2.2 pc = some (.if_icmp .ge off, lk)) (h : ¬ x < y) (k : ER d M lk L st w P) : ER d M pc L (.int y :: .int x :: st) w P := by
  have e : ab_c2 .ge x y = true := by simp only [ab_c1, ab_c2]; simp [h, ← Int32.not_lt]
  refine er_br hf ?_ k
  show some (cond (ab_c2 .ge x y) lk (pc + 3), st) = _
  rw [e]; rfl
theorem er_cm_geF {x y : Int32} {off : Int} (hf : ab_fetch M.2.2.2.2.2.2.2 pc = some (.if_icmp .ge off, lk)) (h : x < y) (hp : pc + 3 = pc') (k : ER d M pc' L st w P) : ER d M pc L (.int y :: .int x :: st) w P := by
  have e : ab_c2 .ge x y = false := by simp only [ab_c1, ab_c2]; simp [h, ← Int32.not_lt]
  subst hp
  refine er_br hf ?_ k
  show some (cond (ab_c2 .ge x y) lk (pc + 3), st) = _
  rw [e]; rfl
theorem er_cm_ge {x y : Int32} {off : Int} (hf : ab_fetch M.2.2.2.2.2.2.2 pc = some (.if_icmp .ge off, lk)) (hp : pc + 3 = pc') (k1 : ¬ x < y → ER d M lk L st w P) (k2 : x < y → ER d M pc' L st w P) : ER d M pc L (.int y :: .int x :: st) w P := by
  by_cases h : x < y
  · exact er_cm_geF hf h hp (k2 h)
  · exact er_cm_geT hf h (k1 h)
theorem er_if_geT {x : Int32} {off : Int} (hf : ab_fetch M.2.2.2.2.2.2.2 pc = some (.ifCond .ge off, lk)) (h : ¬ x < 0) (k : ER d M lk L st w P) : ER d M pc L (.int x :: st) w P := by
  have e : ab_c1 .ge x = true := by simp only [ab_c1, ab_c2]; simp [h, ← Int32.not_lt]
  refine er_br hf ?_ k
  show some (cond (ab_c1 .ge x) lk (pc + 3), st) = _
  rw [e]; rfl
theorem er_if_geF {x : Int32} {off : Int} (hf : ab_fetch M.2.2.2.2.2.2.2 pc = some (.ifCond .ge off, lk)) (h : x < 0) (hp : pc + 3 = pc') (k : ER d M pc' L st w P) : ER d M pc L (.int x :: st) w P := by
  have e : ab_c1 .ge x = false := by simp only [ab_c1, ab_c2]; simp [h, ← Int32.not_lt]
  subst hp
  refine er_br hf ?_ k
  show some (cond (ab_c1 .ge x) lk (pc + 3), st) = _
  rw [e]; rfl
theorem er_if_ge {x : Int32} {off : Int} (hf : ab_fetch M.2.2.2.2.2.2.2 pc = some (.ifCond .ge off, lk)) (hp : pc + 3 = pc') (k1 : ¬ x < 0 → ER d M lk L st w P) (k2 : x < 0 → ER d M pc' L st w P) : ER d M pc L (.int x :: st) w P := by
  by_cases h : x < 0
  · exact er_if_geF hf h hp (k2 h)
  · exact er_if_geT hf h (k1 h)
theorem er_cm_gtT {x y : Int32} {off : Int} (hf : ab_fetch M.2.2.2.2.2.2.2 pc = some (.if_icmp .gt off, lk)) (h : y < x) (k : ER d M lk L st w P) : ER d M pc L (.int y :: .int x :: st) w P := by
  have e : ab_c2 .gt x y = true := by simp only [ab_c1, ab_c2]; simp [h, ← Int32.not_lt]
  refine er_br hf ?_ k
  show some (cond (ab_c2 .gt x y) lk (pc + 3), st) = _
  rw [e]; rfl
theorem er_cm_gtF {x y : Int32} {off : Int} (hf : ab_fetch M.2.2.2.2.2.2.2 pc = some (.if_icmp .gt off, lk)) (h : ¬ y < x) (hp : pc + 3 = pc') (k : ER d M pc' L st w P) : ER d M pc L (.int y :: .int x :: st) w P := by
  have e : ab_c2 .gt x y = false := by simp only [ab_c1, ab_c2]; simp [h, ← Int32.not_lt]
  subst hp
  refine er_br hf ?_ k
  show some (cond (ab_c2 .gt x y) lk (pc + 3), st) = _
  rw [e]; rfl
theorem er_cm_gt {x y : Int32} {off : Int} (hf : ab_fetch M.2.2.2.2.2.2.2 pc = some (.if_icmp .gt off, lk)) (hp : pc + 3 = pc') (k1 : y < x → ER d M lk L st w P) (k2 : ¬ y < x → ER d M pc' L st w P) : ER d M pc L (.int y :: .int x :: st) w P := by
  by_cases h : y < x
  · exact er_cm_gtT hf h (k1 h)
  · exact er_cm_gtF hf h hp (k2 h)
theorem er_if_gtT {x : Int32} {off : Int} (hf : ab_fetch M.2.2.2.2.2.2.2 pc = some (.ifCond .gt off, lk)) (h : 0 < x) (k : ER d M lk L st w P) : ER d M pc L (.int x :: st) w P := by
  have e : ab_c1 .gt x = true := by simp only [ab_c1, ab_c2]; simp [h, ← Int32.not_lt]
  refine er_br hf ?_ k
  show some (cond (ab_c1 .gt x) lk (pc + 3), st) = _
  rw [e]; rfl
theorem er_if_gtF {x : Int32} {off : Int} (hf : ab_fetch M.2.2.2.2.2.2.2 pc = some (.ifCond .gt off, lk)) (h : ¬ 0 < x) (hp : pc + 3 = pc') (k : ER d M pc' L st w P) : ER d M pc L (.int x :: st) w P := by
  have e : ab_c1 .gt x = false := by simp only [ab_c1, ab_c2]; simp [h, ← Int32.not_lt]
  subst hp
  refine er_br hf ?_ k
  show some (cond (ab_c1 .gt x) lk (pc + 3), st) = _
  rw [e]; rfl
theorem er_if_gt {x : Int32} {off : Int} (hf : ab_fetch M.2.2.2.2.2.2.2 pc = some (.ifCond .gt off, lk)) (hp : pc + 3 = pc') (k1 : 0 < x → ER d M lk L st w P) (k2 : ¬ 0 < x → ER d M pc' L st w P) : ER d M pc L (.int x :: st) w P := by
  by_cases h : 0 < x
  · exact er_if_gtT hf h (k1 h)
  · exact er_if_gtF hf h hp (k2 h)
theorem er_cm_leT {x y : Int32} {off : Int} (hf : ab_fetch M.2.2.2.2.2.2.2 pc = some (.if_icmp .le off, lk)) (h : ¬ y < x) (k : ER d M lk L st w P) : ER d M pc L (.int y :: .int x :: st) w P := by
  have e : ab_c2 .le x y = true := by simp only [ab_c1, ab_c2]; simp [h, ← Int32.not_lt]
  refine er_br hf ?_ k
  show some (cond (ab_c2 .le x y) lk (pc + 3), st) = _
  rw [e]; rfl
theorem er_cm_leF {x y : Int32} {off : Int} (hf : ab_fetch M.2.2.2.2.2.2.2 pc = some (.if_icmp .le off, lk)) (h : y < x) (hp : pc + 3 = pc') (k : ER d M pc' L st w P) : ER d M pc L (.int y :: .int x :: st) w P := by
  have e : ab_c2 .le x y = false := by simp only [ab_c1, ab_c2]; simp [h, ← Int32.not_lt]
  subst hp
  refine er_br hf ?_ k
  show some (cond (ab_c2 .le x y) lk (pc + 3), st) = _
  rw [e]; rfl
theorem er_cm_le {x y : Int32} {off : Int} (hf : ab_fetch M.2.2.2.2.2.2.2 pc = some (.if_icmp .le off, lk)) (hp : pc + 3 = pc') (k1 : ¬ y < x → ER d M lk L st w P) (k2 : y < x → ER d M pc' L st w P) : ER d M pc L (.int y :: .int x :: st) w P := by
  by_cases h : y < x
  · exact er_cm_leF hf h hp (k2 h)
  · exact er_cm_leT hf h (k1 h)
theorem er_if_leT {x : Int32} {off : Int} (hf : ab_fetch M.2.2.2.2.2.2.2 pc = some (.ifCond .le off, lk)) (h : ¬ 0 < x) (k : ER d M lk L st w P) : ER d M pc L (.int x :: st) w P := by
  have e : ab_c1 .le x = true := by simp only [ab_c1, ab_c2]; simp [h, ← Int32.not_lt]
  refine er_br hf ?_ k
  show some (cond (ab_c1 .le x) lk (pc + 3), st) = _
  rw [e]; rfl
theorem er_if_leF {x : Int32} {off : Int} (hf : ab_fetch M.2.2.2.2.2.2.2 pc = some (.ifCond .le off, lk)) (h : 0 < x) (hp : pc + 3 = pc') (k : ER d M pc' L st w P) : ER d M pc L (.int x :: st) w P := by
  have e : ab_c1 .le x = false := by simp only [ab_c1, ab_c2]; simp [h, ← Int32.not_lt]
  subst hp
  refine er_br hf ?_ k
  show some (cond (ab_c1 .le x) lk (pc + 3), st) = _
  rw [e]; rfl
theorem er_if_le {x : Int32} {off : Int} (hf : ab_fetch M.2.2.2.2.2.2.2 pc = some (.ifCond .le off, lk)) (hp : pc + 3 = pc') (k1 : ¬ 0 < x → ER d M lk L st w P) (k2 : 0 < x → ER d M pc' L st w P) : ER d M pc L (.int x :: st) w P := by
  by_cases h : 0 < x
  · exact er_if_leF hf h hp (k2 h)
  · exact er_if_leT hf h (k1 h)
theorem er_if_eqb {b : Bool} {off : Int} (hf : ab_fetch M.2.2.2.2.2.2.2 pc = some (.ifCond .eq off, lk)) (hp : pc + 3 = pc') (k1 : b = false → ER d M lk L st w P) (k2 : b = true → ER d M pc' L st w P) : ER d M pc L (.int (bI b) :: st) w P := by
  cases hb : b with
  | false => exact er_if_eqT hf (by decide +kernel) (k1 hb)
  | true => exact er_if_eqF hf (by show ¬ nI 1 = 0; decide +kernel) hp (k2 hb)
theorem er_if_neb {b : Bool} {off : Int} (hf : ab_fetch M.2.2.2.2.2.2.2 pc = some (.ifCond .ne off, lk)) (hp : pc + 3 = pc') (k1 : b = true → ER d M lk L st w P) (k2 : b = false → ER d M pc' L st w P) : ER d M pc L (.int (bI b) :: st) w P := by
  cases hb : b with
  | true => exact er_if_neT hf (by show ¬ nI 1 = 0; decide +kernel) (k1 hb)
  | false => exact er_if_neF hf (by decide +kernel) hp (k2 hb)
def gfO (lk : Nat) (e : ab_C) : Option Value := match ab_nth tb.1 lk with
  | some f => match e with
    | .inl o => cond (Nat.beq o.1 f.2.2.1) (ab_nth o.2 f.2.2.2.1) none
    | _ => none
  | none => none
theorem er_gf (v : Value) {c : Nat} {i : Nat} {e : ab_C} (hf : ab_fetch M.2.2.2.2.2.2.2 pc = some (.getfield i, lk)) (hc : Nat.blt c 79 = true) (he : cO c (X c) (Z c) = e) (hv : gfO lk e = some v) (hp : pc + 3 = pc') (k : ER d M pc' L (v :: st) (Wd X Z) P) : ER d M pc L (.ref c :: st) (Wd X Z) P := by
  obtain ⟨r, h1, h2⟩ := k
  subst hp
  refine ⟨r, ev_heap hf ?_ h1, h2⟩
  subst he
  unfold gfO at hv
  simp only [ab_heap]
  split at hv
  · rename_i f hq
    rw [hq, Wd_cell hc]
    dsimp only
    split at hv
    · rename_i o ho
      rw [ho]
      dsimp only
      cases hb : Nat.beq o.1 f.2.2.1 with
      | false => rw [hb] at hv; cases hv
      | true =>
        rw [hb] at hv
        simp only [cond_true] at hv ⊢
        rw [hv]
    · cases hv
  · cases hv
def pfO (lk : Nat) (v : Value) (e : ab_C) : Option ab_C := match ab_nth tb.1 lk with
  | some f => match e with
    | .inl o => cond (Nat.beq o.1 f.2.2.1 && ab_fit f.2.2.2.2.2.1 v && Nat.blt f.2.2.2.1 o.2.length) (some (.inl (o.1, o.2.set f.2.2.2.1 v))) none
    | _ => none
  | none => none
theorem er_pf {v : Value} {c i : Nat} {e e' : ab_C} {X' Z' : Nat → Nat → Int32} (hf : ab_fetch M.2.2.2.2.2.2.2 pc = some (.putfield i, lk)) (hc : Nat.blt c 79 = true) (he : cO c (X c) (Z c) = e) (hv : pfO lk v e = some e') (hw : (Wd X Z).set c e' = Wd X' Z') (hp : pc + 3 = pc') (k : ER d M pc' L st (Wd X' Z') P) : ER d M pc L (v :: .ref c :: st) (Wd X Z) P := by
  obtain ⟨r, h1, h2⟩ := k
  subst hp
  refine ⟨r, ev_heap hf ?_ h1, h2⟩
  subst he
  unfold pfO at hv
  simp only [ab_heap]
  split at hv
  · rename_i f hq
    rw [hq, Wd_cell hc]
    dsimp only
    split at hv
    · rename_i o ho
      rw [ho]
      dsimp only
      cases hb : (Nat.beq o.1 f.2.2.1 && ab_fit f.2.2.2.2.2.1 v && Nat.blt f.2.2.2.1 o.2.length) with
      | false => rw [hb] at hv; cases hv
      | true =>
        rw [hb] at hv
        simp only [cond_true, Option.some.injEq] at hv
        rw [Bool.and_eq_true] at hb
        rw [hb.1]
        have hlt : f.2.2.2.1 < o.2.length := Nat.le_of_ble_eq_true hb.2
        simp only [cond_true]
        rw [ab_nth_eq, List.getElem?_eq_getElem hlt]
        dsimp only
        rw [hv, hw]
    · cases hv
  · cases hv
theorem er_pfX {v : Value} {c i : Nat} {e e' : ab_C} (g : Nat → Int32) (hf : ab_fetch M.2.2.2.2.2.2.2 pc = some (.putfield i, lk)) (hc : Nat.blt c 79 = true) (he : cO c (X c) (Z c) = e) (hv : pfO lk v e = some e') (hg : e' = cO c g (Z c)) (hp : pc + 3 = pc') (k : ER d M pc' L st (Wd (uc X c g) Z) P) : ER d M pc L (v :: .ref c :: st) (Wd X Z) P :=
  er_pf hf hc he hv (Wd_setX hc hg) hp k
theorem er_pfZ {v : Value} {c i : Nat} {e e' : ab_C} (g : Nat → Int32) (hf : ab_fetch M.2.2.2.2.2.2.2 pc = some (.putfield i, lk)) (hc : Nat.blt c 79 = true) (he : cO c (X c) (Z c) = e) (hv : pfO lk v e = some e') (hg : e' = cO c (X c) g) (hp : pc + 3 = pc') (k : ER d M pc' L st (Wd X (uc Z c g)) P) : ER d M pc L (v :: .ref c :: st) (Wd X Z) P :=
  er_pf hf hc he hv (Wd_setZ hc hg) hp k
theorem ab_arr_cell {sp : List (List Int32)} {w : ab_W} {c : Nat} {xs : List Int32} (h : ab_cell w c = some (.inr (.inl xs))) : ab_arr sp w c = some xs := by
  have h1 := h
  unfold ab_cell at h
  cases hb : Nat.ble ab_B c with
  | true => rw [hb] at h; cases h
  | false =>
    rw [hb] at h
    simp only [cond_false] at h
    unfold ab_arr
    rw [hb, h]
    rfl
theorem er_ia (k : Nat) {c n : Nat} {i : Int32} {f : Nat → Int32} (hf : ab_fetch M.2.2.2.2.2.2.2 pc = some (.iaload, lk)) (hc : Nat.blt c 79 = true) (he : cO c (X c) (Z c) = .inr (.inl (qa n f))) (hi : i = nI k) (hk : k < n) (hn : Nat.ble n 1000 = true) (hp : pc + 1 = pc') (kk : ER d M pc' L (.int (f k) :: st) (Wd X Z) P) : ER d M pc L (.int i :: .ref c :: st) (Wd X Z) P := by
  obtain ⟨r, h1, h2⟩ := kk
  subst hp
  subst hi
  refine ⟨r, ev_heap hf ?_ h1, h2⟩
  have hn' := Nat.le_of_ble_eq_true hn
  simp only [ab_heap]
  rw [ab_arr_cell ((Wd_cell hc).trans (congrArg some he))]
  dsimp only
  rw [qa_ix hk (by omega)]
theorem er_is (k : Nat) {c n : Nat} {i v : Int32} {f : Nat → Int32} {X' Z' : Nat → Nat → Int32} (hf : ab_fetch M.2.2.2.2.2.2.2 pc = some (.iastore, lk)) (hc : Nat.blt c 79 = true) (he : cO c (X c) (Z c) = .inr (.inl (qa n f))) (hi : i = nI k) (hk : k < n) (hn : Nat.ble n 1000 = true) (hw : (Wd X Z).set c (.inr (.inl (qa n (u1 f k v)))) = Wd X' Z') (hp : pc + 1 = pc') (kk : ER d M pc' L st (Wd X' Z') P) : ER d M pc L (.int v :: .int i :: .ref c :: st) (Wd X Z) P := by
  obtain ⟨r, h1, h2⟩ := kk
  subst hp
  subst hi
  refine ⟨r, ev_heap hf ?_ h1, h2⟩
  have hn' := Nat.le_of_ble_eq_true hn
  simp only [ab_heap]
  rw [Wd_cell hc, he]
  dsimp only
  rw [qa_ix hk (by omega)]
  dsimp only
  rw [nI_clamp (by omega), qa_set, hw]
theorem er_isX (k : Nat) {c n : Nat} {i v : Int32} (hf : ab_fetch M.2.2.2.2.2.2.2 pc = some (.iastore, lk)) (hc : Nat.blt c 79 = true) (he : ∀ f, cO c f (Z c) = .inr (.inl (qa n f))) (hi : i = nI k) (hk : k < n) (hn : Nat.ble n 1000 = true) (hp : pc + 1 = pc') (kk : ER d M pc' L st (Wd (ud X c k v) Z) P) : ER d M pc L (.int v :: .int i :: .ref c :: st) (Wd X Z) P :=
  er_is k hf hc (he _) hi hk hn (Wd_setX hc (he _).symm) hp kk
theorem er_isZ (k : Nat) {c n : Nat} {i v : Int32} (hf : ab_fetch M.2.2.2.2.2.2.2 pc = some (.iastore, lk)) (hc : Nat.blt c 79 = true) (he : ∀ f, cO c (X c) f = .inr (.inl (qa n f))) (hi : i = nI k) (hk : k < n) (hn : Nat.ble n 1000 = true) (hp : pc + 1 = pc') (kk : ER d M pc' L st (Wd X (ud Z c k v)) P) : ER d M pc L (.int v :: .int i :: .ref c :: st) (Wd X Z) P :=
  er_is k hf hc (he _) hi hk hn (Wd_setZ hc (he _).symm) hp kk
theorem er_al {c n : Nat} {f : Nat → Int32} (hf : ab_fetch M.2.2.2.2.2.2.2 pc = some (.arraylength, lk)) (hc : Nat.blt c 79 = true) (he : cO c (X c) (Z c) = .inr (.inl (qa n f))) (hp : pc + 1 = pc') (kk : ER d M pc' L (.int (nI n) :: st) (Wd X Z) P) : ER d M pc L (.ref c :: st) (Wd X Z) P := by
  obtain ⟨r, h1, h2⟩ := kk
  subst hp
  refine ⟨r, ev_heap hf ?_ h1, h2⟩
  have hcell := (Wd_cell (X := X) (Z := Z) hc).trans (congrArg some he)
  have hcell0 := hcell
  unfold ab_cell at hcell
  simp only [ab_heap]
  cases hb : Nat.ble ab_B c with
  | true => rw [hb] at hcell; cases hcell
  | false =>
    rw [hb] at hcell
    simp only [cond_false] at hcell ⊢
    rw [hcell]
    dsimp only
    rw [qa_len]
    rfl
theorem er_aa (k : Nat) {c t n : Nat} {i : Int32} {g : Nat → Option Nat} (hf : ab_fetch M.2.2.2.2.2.2.2 pc = some (.aaload, lk)) (hc : Nat.blt c 79 = true) (he : cO c (X c) (Z c) = .inr (.inr (t, (List.range n).map g))) (ht : Nat.blt t 2 = true) (hi : i = nI k) (hk : k < n) (hn : Nat.ble n 1000 = true) (hp : pc + 1 = pc') (kk : ER d M pc' L (va_rf (g k) :: st) (Wd X Z) P) : ER d M pc L (.int i :: .ref c :: st) (Wd X Z) P := by
  obtain ⟨r, h1, h2⟩ := kk
  subst hp
  subst hi
  refine ⟨r, ev_heap hf ?_ h1, h2⟩
  have hn' := Nat.le_of_ble_eq_true hn
  simp only [ab_heap]
  rw [Wd_cell hc, he]
  dsimp only
  rw [ht]
  simp only [cond_true]
  have e : ab_ix ((List.range n).map g) (nI k) = some (g k) := by
    unfold ab_ix
    rw [decide_eq_false (nI_pos (by omega)), nI_clamp (by omega), ab_nth_eq, List.getElem?_map, List.getElem?_range hk]
    rfl
  rw [e]
def isCI (ins : Instr) : Bool := match ins with
  | .invokevirtual _ => true
  | .invokespecial _ => true
  | _ => false
def qOK (j : Nat) : Bool := match ab_nth tb.2.2.2.2.1 j with
  | some Mj => Nat.beq Mj.2.2.2.2.1 0 && Nat.beq Mj.2.2.2.2.2.1 0
  | none => false
def qS (lk : Nat) (st : List Value) : Option (Nat × List Value × List Value) := match ab_nth tb.2.1 lk with
  | none => none
  | some g => cond (Nat.beq g.2.2.1 2 || Nat.beq g.2.2.1 3) (match g.2.2.2.2.2.2 with
    | q :: _ => cond (Nat.beq (st.take g.2.2.2.2.1).length g.2.2.2.2.1 && (ab_room (st.drop g.2.2.2.2.1) && qOK q.2.1)) (some (q.2.1, (st.take g.2.2.2.2.1).reverse, st.drop g.2.2.2.2.1)) none
    | [] => none) none
def qI (lk cls : Nat) (st : List Value) : Option (Nat × Nat × List Value × List Value) := match ab_nth tb.2.1 lk with
  | none => none
  | some g => cond (Nat.beq g.2.2.1 0 || (Nat.beq g.2.2.1 1 || (Nat.beq g.2.2.1 10 || (Nat.beq g.2.2.1 11 || Nat.beq g.2.2.1 13)))) (match st.drop g.2.2.2.2.1 with
    | .ref r :: rest => match ab_look g.2.2.2.2.2.2 cls with
      | some q => cond (Nat.beq (st.take g.2.2.2.2.1).length g.2.2.2.2.1 && (ab_room rest && qOK q.2.1)) (some (r, q.2.1, .ref r :: (st.take g.2.2.2.2.1).reverse, rest)) none
      | none => none
    | _ => none) none
theorem ask_inv_q {j : Nat} {As rest : List Value} (h1 : ab_room rest = true) (h2 : qOK j = true) : ask_inv tb M j As L rest w 0 0 = some (j, As, rest, 0, 0) := by
  unfold qOK at h2
  unfold ask_inv
  split at h2
  · rename_i Mj hj
    rw [hj]
    dsimp only
    rw [Bool.and_eq_true] at h2
    have e1 := Nat.eq_of_beq_eq_true h2.1
    have e2 := Nat.eq_of_beq_eq_true h2.2
    have hz : ∀ n, Nat.ble 0 n = true := fun n => by cases n <;> rfl
    rw [e1, e2, h1]
    simp [hz]
  · cases h2
theorem ask_qS {j : Nat} {As rest : List Value} {i : Nat} (h : qS lk st = some (j, As, rest)) : ask tb M (.invokestatic i) lk L st w 0 0 = some (j, As, rest, 0, 0) := by
  unfold qS at h
  show ask_go tb M lk L st w 0 0 = _
  unfold ask_go
  split at h
  · cases h
  · rename_i g hg
    rw [hg]
    dsimp only
    have key : ask_stat tb M g L st w 0 0 = some (j, As, rest, 0, 0) := by
      unfold ask_stat
      cases hk : (Nat.beq g.2.2.1 2 || Nat.beq g.2.2.1 3) with
      | false => rw [hk] at h; cases h
      | true =>
        rw [hk] at h
        simp only [cond_true] at h
        split at h
        · rename_i q l hq
          rw [hq]
          dsimp only
          cases hb : (Nat.beq (st.take g.2.2.2.2.1).length g.2.2.2.2.1 && (ab_room (st.drop g.2.2.2.2.1) && qOK q.2.1)) with
          | false => rw [hb] at h; cases h
          | true =>
            rw [hb] at h
            cases h
            simp only [Bool.and_eq_true] at hb
            rw [hb.1]
            exact ask_inv_q hb.2.1 hb.2.2
        · cases h
    cases hk : (Nat.beq g.2.2.1 2 || Nat.beq g.2.2.1 3) with
    | false => rw [hk] at h; cases h
    | true =>
      rw [Bool.or_eq_true] at hk
      rcases hk with hk | hk
      · rw [Nat.eq_of_beq_eq_true hk]; exact key
      · rw [Nat.eq_of_beq_eq_true hk]; exact key
theorem ask_qI {c cls j : Nat} {fs As rest : List Value} {ins : Instr} (hi : isCI ins = true) (h : qI lk cls st = some (c, j, As, rest)) (hcell : ab_cell w c = some (.inl (cls, fs))) : ask tb M ins lk L st w 0 0 = some (j, As, rest, 0, 0) := by
  have hgo : ask tb M ins lk L st w 0 0 = ask_go tb M lk L st w 0 0 := by cases ins <;> first | rfl | (cases hi; done)
  rw [hgo]
  unfold qI at h
  unfold ask_go
  split at h
  · cases h
  · rename_i g hg
    rw [hg]
    dsimp only
    cases hk : (Nat.beq g.2.2.1 0 || (Nat.beq g.2.2.1 1 || (Nat.beq g.2.2.1 10 || (Nat.beq g.2.2.1 11 || Nat.beq g.2.2.1 13)))) with
    | false => rw [hk] at h; cases h
    | true =>
      rw [hk] at h
      simp only [cond_true] at h
      have key : ask_inst tb M g L st w 0 0 = some (j, As, rest, 0, 0) := by
        unfold ask_inst
        split at h
        · rename_i r rest0 hst
          rw [hst]
          dsimp only
          split at h
          · rename_i q hq
            cases hb : (Nat.beq (st.take g.2.2.2.2.1).length g.2.2.2.2.1 && (ab_room rest0 && qOK q.2.1)) with
            | false => rw [hb] at h; cases h
            | true =>
              rw [hb] at h
              cases h
              rw [hcell]
              dsimp only
              rw [hq]
              dsimp only
              simp only [Bool.and_eq_true] at hb
              rw [hb.1]
              exact ask_inv_q hb.2.1 hb.2.2
          · cases h
        · cases h
      simp only [Bool.or_eq_true] at hk
      rcases hk with hk | hk | hk | hk | hk <;> (rw [Nat.eq_of_beq_eq_true hk]; exact key)
theorem er_cS {j i : Nat} {As rest : List Value} {Q : ab_R → Prop} (hf : ab_fetch M.2.2.2.2.2.2.2 pc = some (.invokestatic i, lk)) (hq : qS lk st = some (j, As, rest)) (hp : pc + 3 = pc') (h : EC d j As w Q) (k : ∀ r, Q r → ER d M pc' L (r.1.toList ++ rest) r.2 P) : ER d M pc L st w P := by
  obtain ⟨r1, h1, h2⟩ := h
  obtain ⟨r, h3, h4⟩ := k r1 h2
  subst hp
  exact ⟨r, ev_ask hf (ask_qS hq) h1 h3, h4⟩
theorem er_cI (cls : Nat) {c j : Nat} {ins : Instr} {fs As rest : List Value} {Q : ab_R → Prop} (hf : ab_fetch M.2.2.2.2.2.2.2 pc = some (ins, lk)) (hi : isCI ins = true) (hq : qI lk cls st = some (c, j, As, rest)) (hc : Nat.blt c 79 = true) (ho : cO c (X c) (Z c) = .inl (cls, fs)) (hp : pc + 3 = pc') (h : EC d j As (Wd X Z) Q) (k : ∀ r, Q r → ER d M pc' L (r.1.toList ++ rest) r.2 P) : ER d M pc L st (Wd X Z) P := by
  obtain ⟨r1, h1, h2⟩ := h
  obtain ⟨r, h3, h4⟩ := k r1 h2
  subst hp
  exact ⟨r, ev_ask hf (ask_qI hi hq ((Wd_cell hc).trans (congrArg some ho))) h1 h3, h4⟩
theorem er_max {x y : Int32} {i : Nat} (hf : ab_fetch M.2.2.2.2.2.2.2 pc = some (.invokestatic i, lk)) (hg : (ab_nth tb.2.1 lk).map (fun g => g.2.2.1) = some 7) (hr : ab_room st = true) (hp : pc + 3 = pc') (k : ER d M pc' L (.int (if x < y then y else x) :: st) w P) : ER d M pc L (.int y :: .int x :: st) w P := by
  obtain ⟨r, h1, h2⟩ := k
  subst hp
  refine ⟨r, ev_bi (q := (.int (if x < y then y else x) :: st, w, 0, 0)) hf (fun cf => ?_) h1, h2⟩
  show ab_go tb cf M lk L (.int y :: .int x :: st) w 0 0 = _
  unfold ab_go
  cases hq : ab_nth tb.2.1 lk with
  | none => rw [hq] at hg; cases hg
  | some g =>
    rw [hq] at hg
    have e : g.2.2.1 = 7 := Option.some.inj hg
    have hz : ∀ n, Nat.ble 0 n = true := fun n => by cases n <;> rfl
    simp only [e, hr, hz]
    rfl
theorem er_min {x y : Int32} {i : Nat} (hf : ab_fetch M.2.2.2.2.2.2.2 pc = some (.invokestatic i, lk)) (hg : (ab_nth tb.2.1 lk).map (fun g => g.2.2.1) = some 8) (hr : ab_room st = true) (hp : pc + 3 = pc') (k : ER d M pc' L (.int (if y < x then y else x) :: st) w P) : ER d M pc L (.int y :: .int x :: st) w P := by
  obtain ⟨r, h1, h2⟩ := k
  subst hp
  refine ⟨r, ev_bi (q := (.int (if y < x then y else x) :: st, w, 0, 0)) hf (fun cf => ?_) h1, h2⟩
  show ab_go tb cf M lk L (.int y :: .int x :: st) w 0 0 = _
  unfold ab_go
  cases hq : ab_nth tb.2.1 lk with
  | none => rw [hq] at hg; cases hg
  | some g =>
    rw [hq] at hg
    have e : g.2.2.1 = 8 := Option.some.inj hg
    have hz : ∀ n, Nat.ble 0 n = true := fun n => by cases n <;> rfl
    simp only [e, hr, hz]
    rfl
end ERS
def PI (v : Int32) (w : ab_W) : ab_R → Prop := fun r => r = (some (.int v), w)
def PR (c : Nat) (w : ab_W) : ab_R → Prop := fun r => r = (some (.ref c), w)
def RI (v : Int32) (X : Nat → Nat → Int32) : ab_R → Prop := fun r => ∃ Z, r = (some (.int v), Wd X Z)
def RV (X : Nat → Nat → Int32) : ab_R → Prop := fun r => ∃ Z, r = (none, Wd X Z)
theorem PI_of {v x : Int32} {w : ab_W} (h : x = v) : PI v w (some (.int x), w) := by rw [h]; rfl
theorem RI_of {v x : Int32} {X X' Z : Nat → Nat → Int32} (h : x = v) (hX : X' = X) : RI v X (some (.int x), Wd X' Z) := ⟨Z, by rw [h, hX]⟩
theorem RV_of {X X' Z : Nat → Nat → Int32} (hX : X' = X) : RV X (none, Wd X' Z) := ⟨Z, by rw [hX]⟩
section ERT
variable {d pc pc' lk : Nat} {M : ab_M} {L L' : ab_Lo} {st : List Value} {w : ab_W} {P : ab_R → Prop} {X Z : Nat → Nat → Int32}
theorem er_cSi {j i : Nat} {v : Int32} {As rest : List Value} (hf : ab_fetch M.2.2.2.2.2.2.2 pc = some (.invokestatic i, lk)) (hq : qS lk st = some (j, As, rest)) (hp : pc + 3 = pc') (h : EC d j As w (PI v w)) (k : ER d M pc' L (.int v :: rest) w P) : ER d M pc L st w P :=
  er_cS hf hq hp h (fun r hr => by cases hr; exact k)
theorem er_cIi (cls : Nat) {c j : Nat} {v : Int32} {ins : Instr} {fs As rest : List Value} (hf : ab_fetch M.2.2.2.2.2.2.2 pc = some (ins, lk)) (hi : isCI ins = true) (hq : qI lk cls st = some (c, j, As, rest)) (hc : Nat.blt c 79 = true) (ho : cO c (X c) (Z c) = .inl (cls, fs)) (hp : pc + 3 = pc') (h : EC d j As (Wd X Z) (PI v (Wd X Z))) (k : ER d M pc' L (.int v :: rest) (Wd X Z) P) : ER d M pc L st (Wd X Z) P :=
  er_cI cls hf hi hq hc ho hp h (fun r hr => by cases hr; exact k)
theorem er_cIr (cls : Nat) {c j q : Nat} {ins : Instr} {fs As rest : List Value} (hf : ab_fetch M.2.2.2.2.2.2.2 pc = some (ins, lk)) (hi : isCI ins = true) (hq : qI lk cls st = some (c, j, As, rest)) (hc : Nat.blt c 79 = true) (ho : cO c (X c) (Z c) = .inl (cls, fs)) (hp : pc + 3 = pc') (h : EC d j As (Wd X Z) (PR q (Wd X Z))) (k : ER d M pc' L (.ref q :: rest) (Wd X Z) P) : ER d M pc L st (Wd X Z) P :=
  er_cI cls hf hi hq hc ho hp h (fun r hr => by cases hr; exact k)
theorem er_cIz (cls : Nat) {c j : Nat} {v : Int32} {X' : Nat → Nat → Int32} {ins : Instr} {fs As rest : List Value} (hf : ab_fetch M.2.2.2.2.2.2.2 pc = some (ins, lk)) (hi : isCI ins = true) (hq : qI lk cls st = some (c, j, As, rest)) (hc : Nat.blt c 79 = true) (ho : cO c (X c) (Z c) = .inl (cls, fs)) (hp : pc + 3 = pc') (h : EC d j As (Wd X Z) (RI v X')) (k : ∀ Z', ER d M pc' L (.int v :: rest) (Wd X' Z') P) : ER d M pc L st (Wd X Z) P :=
  er_cI cls hf hi hq hc ho hp h (fun r hr => by obtain ⟨Z', rfl⟩ := hr; exact k Z')
theorem er_cSz {j i : Nat} {v : Int32} {X' : Nat → Nat → Int32} {As rest : List Value} (hf : ab_fetch M.2.2.2.2.2.2.2 pc = some (.invokestatic i, lk)) (hq : qS lk st = some (j, As, rest)) (hp : pc + 3 = pc') (h : EC d j As (Wd X Z) (RI v X')) (k : ∀ Z', ER d M pc' L (.int v :: rest) (Wd X' Z') P) : ER d M pc L st (Wd X Z) P :=
  er_cS hf hq hp h (fun r hr => by obtain ⟨Z', rfl⟩ := hr; exact k Z')
theorem er_cIv (cls : Nat) {c j : Nat} {X' : Nat → Nat → Int32} {ins : Instr} {fs As rest : List Value} (hf : ab_fetch M.2.2.2.2.2.2.2 pc = some (ins, lk)) (hi : isCI ins = true) (hq : qI lk cls st = some (c, j, As, rest)) (hc : Nat.blt c 79 = true) (ho : cO c (X c) (Z c) = .inl (cls, fs)) (hp : pc + 3 = pc') (h : EC d j As (Wd X Z) (RV X')) (k : ∀ Z', ER d M pc' L rest (Wd X' Z') P) : ER d M pc L st (Wd X Z) P :=
  er_cI cls hf hi hq hc ho hp h (fun r hr => by obtain ⟨Z', rfl⟩ := hr; exact k Z')
theorem er_pfIX (q : Nat) {v : Int32} {c i : Nat} {e e' : ab_C} (hf : ab_fetch M.2.2.2.2.2.2.2 pc = some (.putfield i, lk)) (hc : Nat.blt c 79 = true) (he : cO c (X c) (Z c) = e) (hv : pfO lk (.int v) e = some e') (hg : cO c (u1 (X c) q v) (Z c) = e') (hp : pc + 3 = pc') (k : ER d M pc' L st (Wd (ud X c q v) Z) P) : ER d M pc L (.int v :: .ref c :: st) (Wd X Z) P := er_pfX _ hf hc he hv hg.symm hp k
theorem er_pfIZ (q : Nat) {v : Int32} {c i : Nat} {e e' : ab_C} (hf : ab_fetch M.2.2.2.2.2.2.2 pc = some (.putfield i, lk)) (hc : Nat.blt c 79 = true) (he : cO c (X c) (Z c) = e) (hv : pfO lk (.int v) e = some e') (hg : cO c (X c) (u1 (Z c) q v) = e') (hp : pc + 3 = pc') (k : ER d M pc' L st (Wd X (ud Z c q v)) P) : ER d M pc L (.int v :: .ref c :: st) (Wd X Z) P := er_pfZ _ hf hc he hv hg.symm hp k
end ERT
theorem nI_mul (a b : Nat) : nI a * nI b = nI (a * b) := (Int32.ofNat_mul a b).symm
theorem bI_eq1 {b : Bool} (h : b = true) : nI 1 = bI b := by rw [h]; rfl
theorem bI_eq0 {b : Bool} (h : b = false) : nI 0 = bI b := by rw [h]; rfl
def jb (b : Nat) : Prop := b = 9 ∨ b = 22 ∨ b = 35
def tx (t : Nat) : Prop := t = 14 ∨ t = 17 ∨ t = 27 ∨ t = 30 ∨ t = 40 ∨ t = 43
theorem cO_J0 {b : Nat} (hb : jb b) (x z : Nat → Int32) : cO b x z = .inl (7, [.ref 1, .int (x 1), .ref (b + 1), .ref (b + 2), .ref (b + 3), .ref (b + 4), .int (x 6), .int (x 7), .int (x 8), .int (x 9), .int (x 10), .ref (b + 5), .ref (b + 8), .ref (b + 11), .int (x 14), .ref (b + 12), .int (x 16), .int (x 17)]) := by
  rcases hb with rfl | rfl | rfl <;> rfl
theorem cO_J1 {b : Nat} (hb : jb b) (x z : Nat → Int32) : cO (b + 1) x z = .inr (.inl (qa 8 x)) := by
  rcases hb with rfl | rfl | rfl <;> rfl
theorem cO_J2 {b : Nat} (hb : jb b) (x z : Nat → Int32) : cO (b + 2) x z = .inr (.inl (qa 8 x)) := by
  rcases hb with rfl | rfl | rfl <;> rfl
theorem cO_J3 {b : Nat} (hb : jb b) (x z : Nat → Int32) : cO (b + 3) x z = .inr (.inl (qa 8 x)) := by
  rcases hb with rfl | rfl | rfl <;> rfl
theorem cO_J4 {b : Nat} (hb : jb b) (x z : Nat → Int32) : cO (b + 4) x z = .inr (.inl (qa 8 x)) := by
  rcases hb with rfl | rfl | rfl <;> rfl
theorem cO_J6 {b : Nat} (hb : jb b) (x z : Nat → Int32) : cO (b + 6) x z = .inr (.inl (qa 50 x)) := by
  rcases hb with rfl | rfl | rfl <;> rfl
theorem cO_J9 {b : Nat} (hb : jb b) (x z : Nat → Int32) : cO (b + 9) x z = .inr (.inl (qa 50 x)) := by
  rcases hb with rfl | rfl | rfl <;> rfl
theorem cO_J11 {b : Nat} (hb : jb b) (x z : Nat → Int32) : cO (b + 11) x z = .inr (.inl (qa 50 x)) := by
  rcases hb with rfl | rfl | rfl <;> rfl
theorem cO_J7 {b : Nat} (hb : jb b) (x z : Nat → Int32) : cO (b + 7) x z = .inr (.inl (qa 50 z)) := by
  rcases hb with rfl | rfl | rfl <;> rfl
theorem cO_J10 {b : Nat} (hb : jb b) (x z : Nat → Int32) : cO (b + 10) x z = .inr (.inl (qa 50 z)) := by
  rcases hb with rfl | rfl | rfl <;> rfl
theorem cO_J12 {b : Nat} (hb : jb b) (x z : Nat → Int32) : cO (b + 12) x z = .inr (.inl (qa 20 x)) := by
  rcases hb with rfl | rfl | rfl <;> rfl
theorem cO_J5 {b : Nat} (hb : jb b) (x z : Nat → Int32) : cO (b + 5) x z = .inl (8, [.ref (b + 6), .ref (b + 7), .int (x 2)]) := by
  rcases hb with rfl | rfl | rfl <;> rfl
theorem cO_J8 {b : Nat} (hb : jb b) (x z : Nat → Int32) : cO (b + 8) x z = .inl (8, [.ref (b + 9), .ref (b + 10), .int (x 2)]) := by
  rcases hb with rfl | rfl | rfl <;> rfl
theorem cO_T0 {t : Nat} (ht : tx t) (x z : Nat → Int32) : cO t x z = .inl (8, [.ref (t + 1), .ref (t + 2), .int (x 2)]) := by
  rcases ht with rfl | rfl | rfl | rfl | rfl | rfl <;> rfl
theorem cO_T1 {t : Nat} (ht : tx t) (x z : Nat → Int32) : cO (t + 1) x z = .inr (.inl (qa 50 x)) := by
  rcases ht with rfl | rfl | rfl | rfl | rfl | rfl <;> rfl
theorem cO_T2 {t : Nat} (ht : tx t) (x z : Nat → Int32) : cO (t + 2) x z = .inr (.inl (qa 50 z)) := by
  rcases ht with rfl | rfl | rfl | rfl | rfl | rfl <;> rfl
theorem blt_J {b : Nat} (hb : jb b) (i : Nat) (hi : Nat.ble i 12 = true) : Nat.blt (b + i) 79 = true := by
  have := Nat.le_of_ble_eq_true hi
  exact Nat.ble_eq_true_of_le (by rcases hb with rfl | rfl | rfl <;> omega)
theorem blt_T {t : Nat} (ht : tx t) (i : Nat) (hi : Nat.ble i 2 = true) : Nat.blt (t + i) 79 = true := by
  have := Nat.le_of_ble_eq_true hi
  exact Nat.ble_eq_true_of_le (by rcases ht with rfl | rfl | rfl | rfl | rfl | rfl <;> omega)
end
section
/-! MORE RULES: switches, copies, texts, the row ABOVE -/
def cpf (f g : Nat → Int32) (sp dp n : Nat) : Nat → Int32 := fun i => if dp ≤ i ∧ i < dp + n then f (i - dp + sp) else g i
theorem qa_cpy {n1 n2 sp dp n : Nat} {f g : Nat → Int32} (h1 : sp + n ≤ n1) (h2 : dp + n ≤ n2) : ab_cpy (qa n1 f) (qa n2 g) sp dp n = qa n2 (cpf f g sp dp n) := by
  apply List.ext_getElem?
  intro i
  unfold ab_cpy
  by_cases hi : i < n2
  · rw [qa_at n2 (cpf f g sp dp n) i hi]
    unfold cpf
    by_cases ha : i < dp
    · rw [List.getElem?_append_left (by rw [List.length_take, qa_len]; omega), List.getElem?_take, if_pos ha, qa_at n2 g i hi, if_neg (by omega)]
    · rw [List.getElem?_append_right (by rw [List.length_take, qa_len]; omega), List.length_take, qa_len]
      have hm : min dp n2 = dp := by omega
      rw [hm]
      by_cases hb : i < dp + n
      · rw [List.getElem?_append_left (by rw [List.length_take, List.length_drop, qa_len]; omega), List.getElem?_take, if_pos (by omega), List.getElem?_drop, qa_at n1 f _ (by omega), if_pos (by omega), show sp + (i - dp) = i - dp + sp by omega]
      · rw [List.getElem?_append_right (by rw [List.length_take, List.length_drop, qa_len]; omega), List.length_take, List.length_drop, qa_len, List.getElem?_drop, qa_at n2 g _ (by omega), if_neg (by omega)]
        congr 2
        omega
  · rw [List.getElem?_eq_none (l := qa n2 (cpf f g sp dp n)) (by rw [qa_len]; omega)]
    apply List.getElem?_eq_none
    rw [List.length_append, List.length_append, List.length_take, List.length_take, List.length_drop, List.length_drop, qa_len, qa_len]
    omega
theorem ne_toInt {x v : Int32} {k : Int} (h : ¬ x = v) (hk : v.toInt = k) : x.toInt ≠ k := fun e => h (Int32.toInt_inj.mp (by rw [e, hk]))
section ERU
variable {d pc pc' lk : Nat} {M : ab_M} {L L' : ab_Lo} {st : List Value} {w : ab_W} {P : ab_R → Prop} {X Z : Nat → Nat → Int32}
theorem er_swT (v : Int32) {x : Int32} {ins : Instr} (hf : ab_fetch M.2.2.2.2.2.2.2 pc = some (ins, lk)) (hx : x = v) (h : ab_br ins pc lk (.int v :: st) = some (pc', st)) (k : ER d M pc' L st w P) : ER d M pc L (.int x :: st) w P := by
  subst hx
  exact er_br hf h k
theorem ab_tgt_eq {pc pc' : Nat} {off : Int} {r : List Value} (h : (pc : Int) + off = (pc' : Int)) : ab_tgt pc off r = some (pc', r) := by
  unfold ab_tgt
  rw [h]
  simp
def tsOK (vs : List Int) (lo : Int) (dd : Int) : List Int → Bool
  | [] => true
  | a :: l => (decide (a = dd) || vs.contains lo) && tsOK vs (lo + 1) dd l
theorem tsOK_at {vs : List Int} {dd : Int} : ∀ {l : List Int} {lo : Int} {i : Nat} {a : Int}, tsOK vs lo dd l = true → l[i]? = some a → a = dd ∨ (lo + (i : Int)) ∈ vs
  | [], _, _, _, _, h => by simp at h
  | b :: l, lo, 0, a, h, e => by
    simp only [tsOK, Bool.and_eq_true, Bool.or_eq_true, decide_eq_true_eq, List.contains_iff_mem] at h
    simp at e
    subst e
    simpa using h.1
  | b :: l, lo, i + 1, a, h, e => by
    simp only [tsOK, Bool.and_eq_true] at h
    have := tsOK_at (i := i) h.2 (by simpa using e)
    rcases this with h1 | h1
    · exact Or.inl h1
    · right
      have e2 : lo + ((i + 1 : Nat) : Int) = lo + 1 + (i : Int) := by omega
      rw [e2]; exact h1
theorem er_tsD (vs : List Int) {x : Int32} {dd lo hi : Int} {offs : Array Int} (hf : ab_fetch M.2.2.2.2.2.2.2 pc = some (.tableswitch dd lo hi offs, lk)) (hd : (pc : Int) + dd = (pc' : Int)) (hv : tsOK vs lo dd offs.toList = true) (hs : (offs.size : Int) = hi - lo + 1) (hx : ∀ v ∈ vs, x.toInt ≠ v) (k : ER d M pc' L st w P) : ER d M pc L (.int x :: st) w P := by
  refine er_br hf ?_ k
  unfold ab_br
  dsimp only
  by_cases ho : x.toInt < lo ∨ hi < x.toInt
  · have e : (decide (x.toInt < lo) || decide (hi < x.toInt)) = true := by simpa using ho
    rw [e]
    exact ab_tgt_eq hd
  · have e : (decide (x.toInt < lo) || decide (hi < x.toInt)) = false := by
      cases hb : (decide (x.toInt < lo) || decide (hi < x.toInt)) with
      | false => rfl
      | true => exact absurd (by simpa using hb) ho
    rw [e]
    simp only [cond_false]
    have hlt : (x.toInt - lo).toNat < offs.size := by omega
    have e2 : offs[(x.toInt - lo).toNat]? = some offs[(x.toInt - lo).toNat] := Array.getElem?_eq_getElem hlt
    rw [e2]
    dsimp only
    rcases tsOK_at hv (by rw [← Array.getElem?_toList] at e2; exact e2) with h1 | h1
    · rw [h1]; exact ab_tgt_eq hd
    · exact absurd (by omega) (hx _ h1)
theorem er_lsD {x : Int32} {dd : Int} {ps : Array (Int × Int)} (hf : ab_fetch M.2.2.2.2.2.2.2 pc = some (.lookupswitch dd ps, lk)) (hd : (pc : Int) + dd = (pc' : Int)) (hs : ((ps.toList.zip (ps.toList.drop 1)).all (fun (a, next) => a.1 < next.1)) = true) (hx : ∀ v ∈ ps.toList.map (fun q => q.1), x.toInt ≠ v) (k : ER d M pc' L st w P) : ER d M pc L (.int x :: st) w P := by
  refine er_br hf ?_ k
  unfold ab_br
  dsimp only
  rw [hs]
  simp only [cond_true]
  have e : Op.lookupswitch.offset ps.toList dd x.toInt = dd := by
    generalize ps.toList = l at hx
    induction l with
    | nil => rfl
    | cons q l ih =>
      have h1 := hx q.1 (by simp)
      have h2 := ih (fun v hv => hx v (by simp only [List.map_cons, List.mem_cons]; exact Or.inr hv))
      rw [show q = (q.1, q.2) from rfl, Op.lookupswitch.offset_cons, if_neg (Ne.symm h1)]
      exact h2
  rw [e]
  exact ab_tgt_eq hd
theorem er_cp {c1 c2 n1 n2 i : Nat} {f g : Nat → Int32} {sp dp n : Nat} {x1 x2 x3 : Int32} {X' Z' : Nat → Nat → Int32} (hf : ab_fetch M.2.2.2.2.2.2.2 pc = some (.invokestatic i, lk)) (hg : (ab_nth tb.2.1 lk).map (fun g => g.2.2.1) = some 6) (hr : ab_room st = true) (hc1 : Nat.blt c1 79 = true) (hc2 : Nat.blt c2 79 = true) (he1 : cO c1 (X c1) (Z c1) = .inr (.inl (qa n1 f))) (he2 : cO c2 (X c2) (Z c2) = .inr (.inl (qa n2 g))) (h1 : x1 = nI sp) (h2 : x2 = nI dp) (h3 : x3 = nI n) (hb1 : sp + n ≤ n1) (hb2 : dp + n ≤ n2) (hn : (Nat.ble n1 1000 && Nat.ble n2 1000) = true)
    (hw : (Wd X Z).set c2 (.inr (.inl (qa n2 (cpf f g sp dp n)))) = Wd X' Z') (hp : pc + 3 = pc') (k : ER d M pc' L st (Wd X' Z') P) : ER d M pc L (.int x3 :: .int x2 :: .ref c2 :: .int x1 :: .ref c1 :: st) (Wd X Z) P := by
  obtain ⟨r, k1, k2⟩ := k
  subst hp
  subst h1
  subst h2
  subst h3
  rw [Bool.and_eq_true] at hn
  have hn1 := Nat.le_of_ble_eq_true hn.1
  have hn2 := Nat.le_of_ble_eq_true hn.2
  refine ⟨r, ev_bi (q := (st, Wd X' Z', 0, 0)) hf (fun cf => ?_) k1, k2⟩
  show ab_go tb cf M lk L _ _ 0 0 = _
  unfold ab_go
  cases hq : ab_nth tb.2.1 lk with
  | none => rw [hq] at hg; cases hg
  | some g0 =>
    rw [hq] at hg
    have e : g0.2.2.1 = 6 := Option.some.inj hg
    simp only [e]
    rw [Wd_cell hc2, Wd_cell hc1, he1, he2]
    dsimp only
    rw [hr, decide_eq_false (nI_pos (by omega)), decide_eq_false (nI_pos (by omega)), decide_eq_false (nI_pos (by omega)), nI_clamp (by omega), nI_clamp (by omega), nI_clamp (by omega), qa_len, qa_len, qa_cpy hb1 hb2, hw]
    rw [show Nat.ble (sp + n) n1 = true from Nat.ble_eq_true_of_le hb1, show Nat.ble (dp + n) n2 = true from Nat.ble_eq_true_of_le hb2]
    rfl
theorem er_cpX {c1 c2 n1 n2 i : Nat} {f : Nat → Int32} (sp dp n : Nat) {x1 x2 x3 : Int32} (hf : ab_fetch M.2.2.2.2.2.2.2 pc = some (.invokestatic i, lk)) (hg : (ab_nth tb.2.1 lk).map (fun g => g.2.2.1) = some 6) (hr : ab_room st = true) (hc1 : Nat.blt c1 79 = true) (hc2 : Nat.blt c2 79 = true) (he1 : cO c1 (X c1) (Z c1) = .inr (.inl (qa n1 f))) (he2 : ∀ f, cO c2 f (Z c2) = .inr (.inl (qa n2 f))) (h1 : x1 = nI sp) (h2 : x2 = nI dp) (h3 : x3 = nI n) (hb1 : sp + n ≤ n1) (hb2 : dp + n ≤ n2) (hn : (Nat.ble n1 1000 && Nat.ble n2 1000) = true)
    (hp : pc + 3 = pc') (k : ER d M pc' L st (Wd (uc X c2 (cpf f (X c2) sp dp n)) Z) P) : ER d M pc L (.int x3 :: .int x2 :: .ref c2 :: .int x1 :: .ref c1 :: st) (Wd X Z) P :=
  er_cp hf hg hr hc1 hc2 he1 (he2 _) h1 h2 h3 hb1 hb2 hn (Wd_setX hc2 (he2 _).symm) hp k
theorem er_cpZ {c1 c2 n1 n2 i : Nat} {f : Nat → Int32} (sp dp n : Nat) {x1 x2 x3 : Int32} (hf : ab_fetch M.2.2.2.2.2.2.2 pc = some (.invokestatic i, lk)) (hg : (ab_nth tb.2.1 lk).map (fun g => g.2.2.1) = some 6) (hr : ab_room st = true) (hc1 : Nat.blt c1 79 = true) (hc2 : Nat.blt c2 79 = true) (he1 : cO c1 (X c1) (Z c1) = .inr (.inl (qa n1 f))) (he2 : ∀ f, cO c2 (X c2) f = .inr (.inl (qa n2 f))) (h1 : x1 = nI sp) (h2 : x2 = nI dp) (h3 : x3 = nI n) (hb1 : sp + n ≤ n1) (hb2 : dp + n ≤ n2) (hn : (Nat.ble n1 1000 && Nat.ble n2 1000) = true)
    (hp : pc + 3 = pc') (k : ER d M pc' L st (Wd X (uc Z c2 (cpf f (Z c2) sp dp n))) P) : ER d M pc L (.int x3 :: .int x2 :: .ref c2 :: .int x1 :: .ref c1 :: st) (Wd X Z) P :=
  er_cp hf hg hr hc1 hc2 he1 (he2 _) h1 h2 h3 hb1 hb2 hn (Wd_setZ hc2 (he2 _).symm) hp k
theorem er_ldcR (v : Nat) {i : Nat} {q : ab_K} (hf : ab_fetch M.2.2.2.2.2.2.2 pc = some (.ldc i, lk)) (hq : ab_nth tb.2.2.1 lk = some q) (hv : q.2.2.1 = .ref v) (hp : pc + 2 = pc') (k : ER d M pc' L (.ref v :: st) w P) : ER d M pc L st w P := by
  obtain ⟨r, h1, h2⟩ := k
  subst hp
  refine ⟨r, ev_heap hf ?_ h1, h2⟩
  simp only [ab_heap, hq, hv]
theorem er_ldc2 (v : Int64) {i : Nat} {q : ab_K} (hf : ab_fetch M.2.2.2.2.2.2.2 pc = some (.ldc2_w i, lk)) (hq : ab_nth tb.2.2.1 lk = some q) (hv : q.2.2.1 = .long v) (hp : pc + 3 = pc') (k : ER d M pc' L (.long v :: st) w P) : ER d M pc L st w P := by
  obtain ⟨r, h1, h2⟩ := k
  subst hp
  refine ⟨r, ev_heap hf ?_ h1, h2⟩
  simp only [ab_heap, hq, hv]
theorem er_heap {st' : List Value} {w' : ab_W} {ins : Instr} (hf : ab_fetch M.2.2.2.2.2.2.2 pc = some (ins, lk)) (h : ab_heap tb SP ins lk st w = some (st', w')) (hp : pc + ab_len ins = pc') (k : ER d M pc' L st' w' P) : ER d M pc L st w P := by
  obtain ⟨r, h1, h2⟩ := k
  subst hp
  exact ⟨r, ev_heap hf h h1, h2⟩
theorem er_cT {j i : Nat} {v : Int32} {As rest : List Value} (hf : ab_fetch M.2.2.2.2.2.2.2 pc = some (.invokevirtual i, lk)) (hq : ask tb M (.invokevirtual i) lk L st w 0 0 = some (j, As, rest, 0, 0)) (hp : pc + 3 = pc') (h : EC d j As w (PI v w)) (k : ER d M pc' L (.int v :: rest) w P) : ER d M pc L st w P := by
  obtain ⟨r1, h1, h2⟩ := h
  obtain ⟨r, h3, h4⟩ := k
  subst hp
  cases h2
  exact ⟨r, ev_ask hf hq h1 h3, h4⟩
theorem er_alq {c n t : Nat} {g : Nat → Option Nat} (hf : ab_fetch M.2.2.2.2.2.2.2 pc = some (.arraylength, lk)) (hc : Nat.blt c 79 = true) (he : cO c (X c) (Z c) = .inr (.inr (t, (List.range n).map g))) (ht : Nat.blt t 2 = true) (hp : pc + 1 = pc') (kk : ER d M pc' L (.int (nI n) :: st) (Wd X Z) P) : ER d M pc L (.ref c :: st) (Wd X Z) P := by
  obtain ⟨r, h1, h2⟩ := kk
  subst hp
  refine ⟨r, ev_heap hf ?_ h1, h2⟩
  have hcell := (Wd_cell (X := X) (Z := Z) hc).trans (congrArg some he)
  unfold ab_cell at hcell
  simp only [ab_heap]
  cases hb : Nat.ble ab_B c with
  | true => rw [hb] at hcell; cases hcell
  | false =>
    rw [hb] at hcell
    simp only [cond_false] at hcell ⊢
    rw [hcell]
    dsimp only
    rw [ht]
    simp only [cond_true, List.length_map, List.length_range]
    rfl
end ERU
end
section
/-! LOCALS: what a run needs of them; a run goes on with more -/
def ndL : ab_Lo → Bool
  | [] => true
  | q :: L => L.all (fun p => !(Nat.beq p.1 q.1)) && ndL L
theorem ab_get_none {L : ab_Lo} {i : Nat} (h : ∀ q ∈ L, q.1 ≠ i) : ab_get L i = none := by
  induction L with
  | nil => rfl
  | cons q L ih =>
    unfold ab_get
    have h1 := h q List.mem_cons_self
    rw [show Nat.beq q.1 i = false from by
      cases hb : Nat.beq q.1 i with
      | false => rfl
      | true => exact absurd (Nat.eq_of_beq_eq_true hb) h1]
    exact ih (fun p hp => h p (List.mem_cons_of_mem _ hp))
theorem ab_get_mem2 {L : ab_Lo} {i : Nat} {v : Value} (h : ab_get L i = some v) : (i, v) ∈ L := by
  induction L with
  | nil => cases h
  | cons q L ih =>
    unfold ab_get at h
    cases hb : Nat.beq q.1 i with
    | true =>
      rw [hb] at h
      cases h
      have : q.1 = i := Nat.eq_of_beq_eq_true hb
      subst this
      exact List.mem_cons_self
    | false => rw [hb] at h; exact List.mem_cons_of_mem _ (ih h)
theorem ab_get_of {L : ab_Lo} {i : Nat} {v : Value} (hn : ndL L = true) (h : (i, v) ∈ L) : ab_get L i = some v := by
  induction L with
  | nil => cases h
  | cons q L ih =>
    unfold ndL at hn
    rw [Bool.and_eq_true] at hn
    unfold ab_get
    rcases List.mem_cons.mp h with rfl | h1
    · rw [show Nat.beq i i = true from Nat.beq_refl i]
      rfl
    · have h2 := List.all_eq_true.mp hn.1 _ h1
      rw [show Nat.beq q.1 i = false from by
        cases hb : Nat.beq q.1 i with
        | false => rfl
        | true =>
          have e := Nat.eq_of_beq_eq_true hb
          simp only [Bool.not_eq_true'] at h2
          rw [← e, Nat.beq_refl] at h2
          cases h2]
      exact ih hn.2 h1
theorem ndL_filter {f : Nat × Value → Bool} {L : ab_Lo} (h : ndL L = true) : ndL (L.filter f) = true := by
  induction L with
  | nil => rfl
  | cons q L ih =>
    unfold ndL at h
    rw [Bool.and_eq_true] at h
    rw [List.filter_cons]
    split
    · unfold ndL
      rw [Bool.and_eq_true]
      exact ⟨List.all_eq_true.mpr (fun p hp => List.all_eq_true.mp h.1 p (List.mem_filter.mp hp).1), ih h.2⟩
    · exact ih h.2
theorem ndL_up {L : ab_Lo} {i : Nat} {v : Value} (h : ndL L = true) : ndL (ab_up L i v) = true := by
  unfold ab_up ndL
  rw [Bool.and_eq_true]
  refine ⟨List.all_eq_true.mpr (fun p hp => ?_), ndL_filter h⟩
  have := (List.mem_filter.mp hp).2
  rw [Bool.and_eq_true] at this
  have h1 := this.1
  simp only [Bool.not_eq_true', beq_eq_false_iff_ne] at h1 ⊢
  cases hb : Nat.beq p.1 i with
  | false => rfl
  | true => exact absurd (Nat.eq_of_beq_eq_true hb) h1
def SubL (L L' : ab_Lo) : Prop := ∀ i v, ab_get L i = some v → ab_get L' i = some v
theorem SubL_up {L L' : ab_Lo} {i : Nat} {v : Value} (h : SubL L L') (hn : ndL L = true) (hn' : ndL L' = true) : SubL (ab_up L i v) (ab_up L' i v) := by
  intro j u hj
  have hm := ab_get_mem2 hj
  refine ab_get_of (ndL_up hn') ?_
  unfold ab_up at hm ⊢
  rcases List.mem_cons.mp hm with h1 | h1
  · rw [h1]; exact List.mem_cons_self
  · obtain ⟨h2, h3⟩ := List.mem_filter.mp h1
    exact List.mem_cons_of_mem _ (List.mem_filter.mpr ⟨ab_get_mem2 (h _ _ (ab_get_of hn h2)), h3⟩)
theorem SubL.of {L L' : ab_Lo} (h : ∀ q ∈ L, ab_get L' q.1 = some q.2) : SubL L L' := fun _ _ hj => h _ (ab_get_mem2 hj)
section LM
variable {tb : ab_TB} {M : ab_M} {L L' : ab_Lo} {st : List Value} {w : ab_W} {cn sn : Nat} {cf : ab_Cf} {sp : List (List Int32)}
theorem loc_mono {n : Nat} {ins : Instr} {q : ab_Lo × List Value} (hs : SubL L L') (hn : ndL L = true) (hn' : ndL L' = true) (h : ab_loc n ins L st = some q) : ∃ L1', ab_loc n ins L' st = some (L1', q.2) ∧ SubL q.1 L1' ∧ ndL q.1 = true ∧ ndL L1' = true := by
  have kI : ∀ i, ab_ldi L i st = some q → ∃ L1', ab_ldi L' i st = some (L1', q.2) ∧ SubL q.1 L1' ∧ ndL q.1 = true ∧ ndL L1' = true := by
    intro i h
    unfold ab_ldi at h ⊢
    split at h
    · rename_i x hx
      cases h
      rw [hs _ _ hx]
      exact ⟨L', rfl, hs, hn, hn'⟩
    · cases h
  have kA : ∀ i, ab_lda L i st = some q → ∃ L1', ab_lda L' i st = some (L1', q.2) ∧ SubL q.1 L1' ∧ ndL q.1 = true ∧ ndL L1' = true := by
    intro i h
    unfold ab_lda at h ⊢
    split at h
    · rename_i x hx
      cases h
      rw [hs _ _ hx]
      exact ⟨L', rfl, hs, hn, hn'⟩
    · cases h
  have kS : ∀ i, ab_sti n L i st = some q → ∃ L1', ab_sti n L' i st = some (L1', q.2) ∧ SubL q.1 L1' ∧ ndL q.1 = true ∧ ndL L1' = true := by
    intro i h
    unfold ab_sti at h ⊢
    split at h
    · rename_i x r
      cases hb : Nat.blt i n with
      | false => rw [hb] at h; cases h
      | true =>
        rw [hb] at h
        cases h
        exact ⟨_, rfl, SubL_up hs hn hn', ndL_up hn, ndL_up hn'⟩
    · cases h
  have kT : ∀ i, ab_sta n L i st = some q → ∃ L1', ab_sta n L' i st = some (L1', q.2) ∧ SubL q.1 L1' ∧ ndL q.1 = true ∧ ndL L1' = true := by
    intro i h
    unfold ab_sta at h ⊢
    split at h
    · rename_i x r
      cases hb : Nat.blt i n with
      | false => rw [hb] at h; cases h
      | true =>
        rw [hb] at h
        cases h
        exact ⟨_, rfl, SubL_up hs hn hn', ndL_up hn, ndL_up hn'⟩
    · cases h
  cases ins with
  | iload i => exact kI i h
  | iload_n i => exact kI i h
  | aload i => exact kA i h
  | aload_n i => exact kA i h
  | lload_n i =>
    simp only [ab_loc] at h ⊢
    unfold ab_ldl at h ⊢
    split at h
    · rename_i x hx
      cases h
      rw [hs _ _ hx]
      exact ⟨L', rfl, hs, hn, hn'⟩
    · cases h
  | istore i => exact kS i h
  | istore_n i => exact kS i h
  | astore i => exact kT i h
  | astore_n i => exact kT i h
  | iinc i k =>
    simp only [ab_loc] at h ⊢
    split at h
    · rename_i x hx
      rw [hs _ _ hx]
      dsimp only
      cases hb : Nat.blt i n with
      | false => rw [hb] at h; cases h
      | true =>
        rw [hb] at h
        cases h
        exact ⟨_, rfl, SubL_up hs hn hn', ndL_up hn, ndL_up hn'⟩
    · cases h
  | _ => cases h
theorem inv_locs (hM : M.2.2.2.2.1 = 0) {j : Nat} {As rest : List Value} {q : List Value × ab_W × Nat × Nat} (h : ab_inv tb cf M j As L rest w cn sn = some q) : ab_inv tb cf M j As L' rest w cn sn = some q := by
  unfold ab_inv at h ⊢
  split at h
  · cases h
  · rename_i Mj hj
    try rw [hj]
    try dsimp only
    cases hb : (ab_room rest && Nat.ble (cn + Mj.2.2.2.2.1) M.2.2.2.2.1 && Nat.ble (sn + Mj.2.2.2.2.2.1) M.2.2.2.2.2.1 && (Nat.beq Mj.2.2.2.2.1 0 || (ab_okL w.length L && rest.all (ab_okv w.length)))) with
    | false => rw [hb] at h; cases h
    | true =>
      rw [hb] at h
      simp only [Bool.and_eq_true] at hb
      have e : Mj.2.2.2.2.1 = 0 := by
        have := Nat.le_of_ble_eq_true hb.1.1.2
        omega
      have hz : (ab_room rest && Nat.ble (cn + Mj.2.2.2.2.1) M.2.2.2.2.1 && Nat.ble (sn + Mj.2.2.2.2.2.1) M.2.2.2.2.2.1 && (Nat.beq Mj.2.2.2.2.1 0 || (ab_okL w.length L' && rest.all (ab_okv w.length)))) = true := by
        simp only [Bool.and_eq_true]
        refine ⟨hb.1, ?_⟩
        rw [e]
        rfl
      rw [hz]
      exact h
theorem go_locs (hM : M.2.2.2.2.1 = 0) {lk : Nat} {q : List Value × ab_W × Nat × Nat} (h : ab_go tb cf M lk L st w cn sn = some q) : ab_go tb cf M lk L' st w cn sn = some q := by
  have hst : ∀ {g : ab_G}, ab_stat tb cf M g L st w cn sn = some q → ab_stat tb cf M g L' st w cn sn = some q := by
    intro g hi
    unfold ab_stat at hi ⊢
    split at hi
    · rename_i q0 qs hq
      cases hb : Nat.beq (st.take g.2.2.2.2.1).length g.2.2.2.2.1 with
      | false => rw [hb] at hi; cases hi
      | true => rw [hb] at hi; exact inv_locs hM hi
    · cases hi
  have hin : ∀ {g : ab_G}, ab_inst tb cf M g L st w cn sn = some q → ab_inst tb cf M g L' st w cn sn = some q := by
    intro g hi
    unfold ab_inst at hi ⊢
    split at hi
    · rename_i r rest hst
      try rw [hst]
      try dsimp only
      split at hi
      · rename_i o ho
        try rw [ho]
        try dsimp only
        split at hi
        · rename_i q0 hq0
          try rw [hq0]
          try dsimp only
          cases hb : Nat.beq (st.take g.2.2.2.2.1).length g.2.2.2.2.1 with
          | false => rw [hb] at hi; cases hi
          | true => rw [hb] at hi; exact inv_locs hM hi
        · cases hi
      · cases hi
    · cases hi
  have hsi : ∀ {g : ab_G}, ab_sinst tb cf M g L st w cn sn = some q → ab_sinst tb cf M g L' st w cn sn = some q := by
    intro g hi
    unfold ab_sinst at hi ⊢
    split at hi
    · rename_i r rest hst
      try rw [hst]
      try dsimp only
      split at hi
      · rename_i q0 l0 hq0
        try rw [hq0]
        try dsimp only
        cases hb : (ab_isS r && Nat.beq (st.take g.2.2.2.2.1).length g.2.2.2.2.1) with
        | false => rw [hb] at hi; cases hi
        | true => rw [hb] at hi; exact inv_locs hM hi
      · cases hi
    · cases hi
  unfold ab_go at h ⊢
  split at h
  · cases h
  · rename_i g hg
    try rw [hg]
    try dsimp only
    split at h <;> first | exact hst h | exact hsi h | exact hin h | exact h
theorem call1_locs (hM : M.2.2.2.2.1 = 0) {ins : Instr} {lk : Nat} {q : List Value × ab_W × Nat × Nat} (h : ab_call1 tb cf M ins lk L st w cn sn = some q) : ab_call1 tb cf M ins lk L' st w cn sn = some q := by
  cases ins <;> first | exact go_locs hM h | cases h
theorem new_locs (hM : M.2.2.2.2.1 = 0) {ins : Instr} {lk : Nat} : ab_new tb M ins lk L st w cn sn = none := by
  have hz : ∀ k, Nat.ble (cn + (k + 1)) M.2.2.2.2.1 = false := by
    intro k
    rw [hM]
    cases hb : Nat.ble (cn + (k + 1)) 0 with
    | false => rfl
    | true => have := Nat.le_of_ble_eq_true hb; omega
  cases hx : ab_new tb M ins lk L st w cn sn with
  | none => rfl
  | some q =>
    exfalso
    cases ins with
    | new i =>
      simp only [ab_new] at hx
      split at hx
      · split at hx
        · rw [hz 0] at hx; simp at hx
        · cases hx
      · cases hx
    | newarray t =>
      cases t <;> simp only [ab_new] at hx <;> first | (cases hx; done) | (split at hx <;> first | (cases hx; done) | (rw [hz 0] at hx; simp at hx))
    | anewarray i =>
      simp only [ab_new] at hx
      split at hx
      · rw [hz 0] at hx; simp at hx
      · cases hx
    | multianewarray i d =>
      simp only [ab_new] at hx
      split at hx
      · rw [hz 4] at hx; simp at hx
      · cases hx
    | _ => cases hx
def exQ (y : Option (ab_St ⊕ ab_R)) (x : ab_St ⊕ ab_R) : Prop := match x with
  | .inl σ => ∃ L1', y = some (.inl (σ.1, L1', σ.2.2)) ∧ SubL σ.2.1 L1' ∧ ndL σ.2.1 = true ∧ ndL L1' = true
  | .inr r => y = some (.inr r)
theorem exec_locs (hM : M.2.2.2.2.1 = 0) {ins : Instr} {lk pc : Nat} {x : ab_St ⊕ ab_R} (hs : SubL L L') (hn : ndL L = true) (hn' : ndL L' = true) (h : ab_exec tb cf sp M ins lk pc L st w cn sn = some x) : exQ (ab_exec tb cf sp M ins lk pc L' st w cn sn) x := by
  unfold ab_exec at h ⊢
  cases h1 : ab_pure ins st with
  | some _ => rw [h1] at h; cases h; exact ⟨L', rfl, hs, hn, hn'⟩
  | none =>
    rw [h1] at h
    dsimp only at h ⊢
    cases h2 : ab_loc M.2.2.1 ins L st with
    | some q =>
      rw [h2] at h
      cases h
      obtain ⟨L1', e, k⟩ := loc_mono hs hn hn' h2
      rw [e]
      exact ⟨L1', rfl, k⟩
    | none =>
      rw [h2] at h
      dsimp only at h
      have h2' : (∃ q, ab_br ins pc lk st = some q) ∨ (∃ q, ab_heap tb sp ins lk st w = some q) ∨ (∃ q, ab_call1 tb cf M ins lk L st w cn sn = some q) ∨ (∃ q, ab_ret M.2.2.2.1 ins st = some q) → ab_loc M.2.2.1 ins L' st = none := by
        rintro (⟨q, hq⟩ | ⟨q, hq⟩ | ⟨q, hq⟩ | ⟨q, hq⟩) <;> cases ins <;> first | rfl | (cases hq; done)
      cases h3 : ab_br ins pc lk st with
      | some q =>
        rw [h3] at h
        cases h
        rw [h2' (Or.inl ⟨_, h3⟩)]
        exact ⟨L', rfl, hs, hn, hn'⟩
      | none =>
        rw [h3] at h
        dsimp only at h
        cases h4 : ab_heap tb sp ins lk st w with
        | some q =>
          rw [h4] at h
          cases h
          rw [h2' (Or.inr (Or.inl ⟨_, h4⟩))]
          exact ⟨L', rfl, hs, hn, hn'⟩
        | none =>
          rw [h4] at h
          dsimp only at h
          cases h5 : ab_call1 tb cf M ins lk L st w cn sn with
          | some q =>
            rw [h5] at h
            cases h
            rw [h2' (Or.inr (Or.inr (Or.inl ⟨_, h5⟩)))]
            dsimp only
            rw [call1_locs hM h5]
            exact ⟨L', rfl, hs, hn, hn'⟩
          | none =>
            rw [h5] at h
            dsimp only at h
            cases h6 : ab_ret M.2.2.2.1 ins st with
            | some v =>
              rw [h6] at h
              cases h
              rw [h2' (Or.inr (Or.inr (Or.inr ⟨_, h6⟩)))]
              dsimp only
              have h5' : ab_call1 tb cf M ins lk L' st w cn sn = none := by cases ins <;> first | rfl | (cases h6; done)
              rw [h5']
              rfl
            | none =>
              rw [h6, new_locs hM] at h
              cases h
theorem run_locs (hM : M.2.2.2.2.1 = 0) {r : ab_R} : ∀ (n : Nat) {pc : Nat} {L L' : ab_Lo} {st : List Value} {w : ab_W} {cn sn : Nat}, SubL L L' → ndL L = true → ndL L' = true → ab_run tb cf sp M n (pc, L, st, w, cn, sn) = some r → ab_run tb cf sp M n (pc, L', st, w, cn, sn) = some r
  | 0, _, _, _, _, _, _, _, _, _, _, h => by cases h
  | n + 1, pc, L, L', st, w, cn, sn, hs, hn, hn', h => by
    unfold ab_run at h ⊢
    unfold ab_step at h ⊢
    dsimp only at h ⊢
    cases hf : ab_fetch M.2.2.2.2.2.2.2 pc with
    | none => rw [hf] at h; cases h
    | some x =>
      rw [hf] at h
      dsimp only at h ⊢
      cases he : ab_exec tb cf sp M x.1 x.2 pc L st w cn sn with
      | none => rw [he] at h; cases h
      | some y =>
        rw [he] at h
        have k := exec_locs hM hs hn hn' he
        cases y with
        | inl σ =>
          obtain ⟨L1', e, s1, s2, s3⟩ := k
          rw [e]
          dsimp only at h ⊢
          exact run_locs hM n (pc := σ.1) (L := σ.2.1) (st := σ.2.2.1) (w := σ.2.2.2.1) (cn := σ.2.2.2.2.1) (sn := σ.2.2.2.2.2) s1 s2 s3 h
        | inr r0 =>
          have k' : ab_exec tb cf sp M x.1 x.2 pc L' st w cn sn = some (.inr r0) := k
          rw [k']
          exact h
end LM
theorem ER_loc {d pc : Nat} {M : ab_M} (L : ab_Lo) {L' : ab_Lo} {st : List Value} {w : ab_W} {P : ab_R → Prop} (hM : M.2.2.2.2.1 = 0) (hs : ∀ q ∈ L, ab_get L' q.1 = some q.2) (hn : ndL L = true) (hn' : ndL L' = true) (k : ER d M pc L st w P) : ER d M pc L' st w P := by
  obtain ⟨r, ⟨N, h1⟩, h2⟩ := k
  exact ⟨r, ⟨N, run_locs hM N (SubL.of hs) hn hn' h1⟩, h2⟩
theorem er_sw (v : Int32) {d pc pc' lk : Nat} {M : ab_M} {L : ab_Lo} {st : List Value} {w : ab_W} {P : ab_R → Prop} {x : Int32} {ins : Instr} (hf : ab_fetch M.2.2.2.2.2.2.2 pc = some (ins, lk)) (h : ab_br ins pc lk (.int v :: st) = some (pc', st)) (k1 : x = v → ER d M pc' L st w P) (k2 : ¬ x = v → ER d M pc L (.int x :: st) w P) : ER d M pc L (.int x :: st) w P := by
  by_cases hx : x = v
  · exact er_swT v hf hx h (k1 hx)
  · exact k2 hx
end
section
/-! STATIC FUNCTIONS OF NUMBERS, on both sides -/
def sIn (v a b : Int32) : Bool := !decide (v < a) && !decide (b < v)
def sHeld (v a b : Int32) : Int32 := if v < a then a else if b < v then b else v
def sErr (k : Nat) : Int32 := (-1000000000) - nI k
set_option maxRecDepth 100000 in
set_option maxHeartbeats 4000000 in
theorem l_within (d : Nat) (v a b : Int32) (w : ab_W) : EC (d + 1) 76 [.int v, .int a, .int b] w (PI (bI (sIn v a b)) w) := by
  refine er_enter (L := [(0, _), (1, _), (2, _)]) rfl rfl rfl ?_
  refine er_loc (pc' := 1) rfl rfl rfl ?_
  refine er_loc (pc' := 2) rfl rfl rfl ?_
  refine er_cm_lt (pc' := 5) rfl rfl (fun h2 => ?_) (fun h2 => ?_)
  · refine er_k (pc' := 15) (nI 0) rfl rfl rfl ?_
    refine er_ret _ rfl rfl ?_
    exact PI_of (bI_eq0 (by simp [sIn, *]))
  · refine er_loc (pc' := 6) rfl rfl rfl ?_
    refine er_loc (pc' := 7) rfl rfl rfl ?_
    refine er_cm_gt (pc' := 10) rfl rfl (fun h7 => ?_) (fun h7 => ?_)
    · refine er_k (pc' := 15) (nI 0) rfl rfl rfl ?_
      refine er_ret _ rfl rfl ?_
      exact PI_of (bI_eq0 (by simp [sIn, *]))
    · refine er_k (pc' := 11) (nI 1) rfl rfl rfl ?_
      refine er_goto rfl ?_
      refine er_ret _ rfl rfl ?_
      exact PI_of (bI_eq1 (by simp [sIn, *]))
set_option maxRecDepth 100000 in
set_option maxHeartbeats 4000000 in
theorem l_in (d : Nat) (v a b : Int32) (w : ab_W) : EC (d + 1) 128 [.int v, .int a, .int b] w (PI (bI (sIn v a b)) w) := by
  refine er_enter (L := [(0, _), (1, _), (2, _)]) rfl rfl rfl ?_
  refine er_loc (pc' := 1) rfl rfl rfl ?_
  refine er_loc (pc' := 2) rfl rfl rfl ?_
  refine er_cm_lt (pc' := 5) rfl rfl (fun h2 => ?_) (fun h2 => ?_)
  · refine er_k (pc' := 15) (nI 0) rfl rfl rfl ?_
    refine er_ret _ rfl rfl ?_
    exact PI_of (bI_eq0 (by simp [sIn, *]))
  · refine er_loc (pc' := 6) rfl rfl rfl ?_
    refine er_loc (pc' := 7) rfl rfl rfl ?_
    refine er_cm_gt (pc' := 10) rfl rfl (fun h7 => ?_) (fun h7 => ?_)
    · refine er_k (pc' := 15) (nI 0) rfl rfl rfl ?_
      refine er_ret _ rfl rfl ?_
      exact PI_of (bI_eq0 (by simp [sIn, *]))
    · refine er_k (pc' := 11) (nI 1) rfl rfl rfl ?_
      refine er_goto rfl ?_
      refine er_ret _ rfl rfl ?_
      exact PI_of (bI_eq1 (by simp [sIn, *]))
set_option maxRecDepth 100000 in
set_option maxHeartbeats 4000000 in
theorem l_held (d : Nat) (v a b : Int32) (w : ab_W) : EC (d + 1) 141 [.int v, .int a, .int b] w (PI (sHeld v a b) w) := by
  refine er_enter (L := [(0, _), (1, _), (2, _)]) rfl rfl rfl ?_
  refine er_loc (pc' := 1) rfl rfl rfl ?_
  refine er_loc (pc' := 2) rfl rfl rfl ?_
  refine er_cm_ge (pc' := 5) rfl rfl (fun h2 => ?_) (fun h2 => ?_)
  · refine er_loc (pc' := 10) rfl rfl rfl ?_
    refine er_loc (pc' := 11) rfl rfl rfl ?_
    refine er_cm_le (pc' := 14) rfl rfl (fun h11 => ?_) (fun h11 => ?_)
    · refine er_loc (pc' := 19) rfl rfl rfl ?_
      refine er_iret rfl rfl ?_
      exact PI_of (by first | rfl | (simp [sHeld, *]; done) | (simp only [sHeld, Int32.lt_iff_toInt_lt, Int32.le_iff_toInt_le] at *; (repeat' split) <;> first | rfl | omega))
    · refine er_loc (pc' := 15) rfl rfl rfl ?_
      refine er_goto rfl ?_
      refine er_iret rfl rfl ?_
      exact PI_of (by first | rfl | (simp [sHeld, *]; done) | (simp only [sHeld, Int32.lt_iff_toInt_lt, Int32.le_iff_toInt_le] at *; (repeat' split) <;> first | rfl | omega))
  · refine er_loc (pc' := 6) rfl rfl rfl ?_
    refine er_goto rfl ?_
    refine er_iret rfl rfl ?_
    exact PI_of (by first | rfl | (simp [sHeld, *]; done) | (simp only [sHeld, Int32.lt_iff_toInt_lt, Int32.le_iff_toInt_le] at *; (repeat' split) <;> first | rfl | omega))
set_option maxRecDepth 100000 in
set_option maxHeartbeats 4000000 in
theorem l_xSheet (d : Nat) (v : Int32) (w : ab_W) : EC (d + 2) 106 [.int v] w (PI (bI (sIn v (nI 0) (nI 3))) w) := by
  refine er_enter (L := [(0, _)]) rfl rfl rfl ?_
  refine er_loc (pc' := 1) rfl rfl rfl ?_
  refine er_k (pc' := 2) (nI 0) rfl rfl rfl ?_
  refine er_k (pc' := 3) (nI 3) rfl rfl rfl ?_
  refine er_cSi (pc' := 6) (rest := []) rfl rfl rfl (l_within _ _ _ _ _) ?_
  refine er_zret rfl rfl ?_
  exact PI_of rfl
set_option maxRecDepth 100000 in
set_option maxHeartbeats 4000000 in
theorem l_mSheet (d : Nat) (v : Int32) (w : ab_W) : EC (d + 2) 196 [.int v] w (PI (bI (sIn v (nI 0) (nI 3))) w) := by
  refine er_enter (L := [(0, _)]) rfl rfl rfl ?_
  refine er_loc (pc' := 1) rfl rfl rfl ?_
  refine er_k (pc' := 2) (nI 0) rfl rfl rfl ?_
  refine er_k (pc' := 3) (nI 3) rfl rfl rfl ?_
  refine er_cSi (pc' := 6) (rest := []) rfl rfl rfl (l_in _ _ _ _ _) ?_
  refine er_zret rfl rfl ?_
  exact PI_of rfl
set_option maxRecDepth 100000 in
set_option maxHeartbeats 4000000 in
theorem l_isKm (d : Nat) (v : Int32) (w : ab_W) : EC (d + 2) 127 [.int v] w (PI (bI (sIn v (nI 0) (nI 69))) w) := by
  refine er_enter (L := [(0, _)]) rfl rfl rfl ?_
  refine er_loc (pc' := 1) rfl rfl rfl ?_
  refine er_k (pc' := 2) (nI 0) rfl rfl rfl ?_
  refine er_k (pc' := 4) (nI 69) rfl rfl rfl ?_
  refine er_cSi (pc' := 7) (rest := []) rfl rfl rfl (l_in _ _ _ _ _) ?_
  refine er_zret rfl rfl ?_
  exact PI_of rfl
def sBit (x s : Int32) : Bool := decide (((x.toUInt32 >>> (s.toUInt32 &&& Int32.toUInt32 31)).toInt32 &&& nI 1) = nI 1)
def sWith (x s : Int32) (b : Bool) : Int32 := cond b (x ||| (nI 1 <<< (s &&& 31))) (x &&& ((nI 1 <<< (s &&& 31)) ^^^ (-1)))
def sUse (u : Int32) : Bool := decide (u = 0) || decide (u = nI 1)
set_option maxRecDepth 100000 in
set_option maxHeartbeats 4000000 in
theorem l_isIn (d : Nat) (x s : Int32) (w : ab_W) : EC (d + 1) 79 [.int x, .int s] w (PI (bI (sBit x s)) w) := by
  refine er_enter (L := [(0, _), (1, _)]) rfl rfl rfl ?_
  refine er_loc (pc' := 1) rfl rfl rfl ?_
  refine er_loc (pc' := 2) rfl rfl rfl ?_
  refine er_iushr (pc' := 3) rfl rfl ?_
  refine er_k (pc' := 4) (nI 1) rfl rfl rfl ?_
  refine er_iand (pc' := 5) rfl rfl ?_
  refine er_k (pc' := 6) (nI 1) rfl rfl rfl ?_
  refine er_cm_ne (pc' := 9) rfl rfl (fun h6 => ?_) (fun h6 => ?_)
  · refine er_k (pc' := 14) (nI 0) rfl rfl rfl ?_
    refine er_ret _ rfl rfl ?_
    exact PI_of (bI_eq0 (by simp [sBit, *]))
  · refine er_k (pc' := 10) (nI 1) rfl rfl rfl ?_
    refine er_goto rfl ?_
    refine er_ret _ rfl rfl ?_
    exact PI_of (bI_eq1 (by simp [sBit, *]))
set_option maxRecDepth 100000 in
set_option maxHeartbeats 4000000 in
theorem l_with (d : Nat) (x s : Int32) (b : Bool) (w : ab_W) : EC (d + 1) 82 [.int x, .int s, .int (bI b)] w (PI (sWith x s b) w) := by
  refine er_enter (L := [(0, _), (1, _), (2, _)]) rfl rfl rfl ?_
  refine er_loc (pc' := 1) rfl rfl rfl ?_
  refine er_if_eqb (pc' := 4) rfl rfl (fun h1 => ?_) (fun h1 => ?_)
  · refine er_loc (pc' := 13) rfl rfl rfl ?_
    refine er_k (pc' := 14) (nI 1) rfl rfl rfl ?_
    refine er_loc (pc' := 15) rfl rfl rfl ?_
    refine er_ishl (pc' := 16) rfl rfl ?_
    refine er_k (pc' := 17) (-1) rfl rfl rfl ?_
    refine er_ixor (pc' := 18) rfl rfl ?_
    refine er_iand (pc' := 19) rfl rfl ?_
    refine er_iret rfl rfl ?_
    exact PI_of (by simp [sWith, *])
  · refine er_loc (pc' := 5) rfl rfl rfl ?_
    refine er_k (pc' := 6) (nI 1) rfl rfl rfl ?_
    refine er_loc (pc' := 7) rfl rfl rfl ?_
    refine er_ishl (pc' := 8) rfl rfl ?_
    refine er_ior (pc' := 9) rfl rfl ?_
    refine er_goto rfl ?_
    refine er_iret rfl rfl ?_
    exact PI_of (by simp [sWith, *])
set_option maxRecDepth 100000 in
set_option maxHeartbeats 4000000 in
theorem l_isUse (d : Nat) (u : Int32) (w : ab_W) : EC (d + 1) 89 [.int u] w (PI (bI (sUse u)) w) := by
  refine er_enter (L := [(0, _)]) rfl rfl rfl ?_
  refine er_loc (pc' := 1) rfl rfl rfl ?_
  refine er_if_eq (pc' := 4) rfl rfl (fun h1 => ?_) (fun h1 => ?_)
  · refine er_k (pc' := 10) (nI 1) rfl rfl rfl ?_
    refine er_goto rfl ?_
    refine er_ret _ rfl rfl ?_
    exact PI_of (bI_eq1 (by simp [sUse, *]))
  · refine er_loc (pc' := 5) rfl rfl rfl ?_
    refine er_k (pc' := 6) (nI 1) rfl rfl rfl ?_
    refine er_cm_ne (pc' := 9) rfl rfl (fun h6 => ?_) (fun h6 => ?_)
    · refine er_k (pc' := 14) (nI 0) rfl rfl rfl ?_
      refine er_ret _ rfl rfl ?_
      exact PI_of (bI_eq0 (by simp [sUse, *]))
    · refine er_k (pc' := 10) (nI 1) rfl rfl rfl ?_
      refine er_goto rfl ?_
      refine er_ret _ rfl rfl ?_
      exact PI_of (bI_eq1 (by simp [sUse, *]))
end
section
/-! KINDS: what they do otherwise; the JOB as a row of numbers by cell and place -/
def nN (x : Int32) : Nat := x.toNatClampNeg
theorem nN_nI {n : Nat} (h : n < 2 ^ 31) : nN (nI n) = n := nI_clamp h
theorem lt7 {q : Nat} (h : q < 7) : q = 0 ∨ q = 1 ∨ q = 2 ∨ q = 3 ∨ q = 4 ∨ q = 5 ∨ q = 6 := by omega
theorem lt8 {q : Nat} (h : q < 8) : q = 0 ∨ q = 1 ∨ q = 2 ∨ q = 3 ∨ q = 4 ∨ q = 5 ∨ q = 6 ∨ q = 7 := by omega
theorem cO_S {q : Nat} (h : q < 7) (x z : Nat → Int32) : cO (2 + q) x z = .inl (q, []) := by
  rcases lt7 h with rfl | rfl | rfl | rfl | rfl | rfl | rfl <;> rfl
theorem blt_S {q : Nat} (h : q < 7) : Nat.blt (2 + q) 79 = true := Nat.ble_eq_true_of_le (by omega)
def sLasting (q : Nat) (v h m s : Int32) : Int32 := match q with
  | 0 => v
  | 1 => v + nI 1
  | 2 => v + nI 2
  | 3 => if h = nI 1 then v * nI 2 else v
  | 4 => v + nI 1 + (m - m / nI 3 * nI 3)
  | 5 => v + nI 2 + s
  | _ => (if h = nI 1 then v * nI 2 else v) + m
def sBackOf (q : Nat) (v : Int32) : Int32 := if q = 3 ∨ q = 6 then v else v / nI 2
def sNever (q : Nat) : Bool := decide (q = 2) || decide (q = 5)
def sHands (q : Nat) : Int32 := if q = 6 then nI 2 else nI 1
def tgL (q : Nat) : Nat := match q with
  | 0 => 1
  | 1 => 10
  | 2 => 13
  | 3 => 17
  | 4 => 21
  | 5 => 24
  | _ => 27
def tgB (q : Nat) : Nat := if q = 3 ∨ q = 6 then 18 else 2
def tgN (q : Nat) : Nat := if q = 2 ∨ q = 5 then 14 else 4
def tgH (q : Nat) : Nat := if q = 6 then 28 else 3
set_option maxRecDepth 100000 in
set_option maxHeartbeats 4000000 in
theorem l_lasting0 (d c : Nat) (v h m s : Int32) (X Z : Nat → Nat → Int32) (hc : Nat.blt c 79 = true) (ho : ∃ k, k < 7 ∧ c = 2 + k) : EC (d + 1) 1 [.ref c, .int v, .int h, .int m, .int s] (Wd X Z) (PI (sLasting 0 v h m s) (Wd X Z)) := by
  refine er_enter (L := [(0, _), (1, _), (2, _), (3, _), (4, _)]) rfl rfl rfl ?_
  refine er_loc (pc' := 1) rfl rfl rfl ?_
  refine er_iret rfl rfl ?_
  exact PI_of (by simp [sLasting, *])
set_option maxRecDepth 100000 in
set_option maxHeartbeats 4000000 in
theorem l_lasting1 (d c : Nat) (v h m s : Int32) (X Z : Nat → Nat → Int32) (hc : Nat.blt c 79 = true) (ho : ∃ k, k < 7 ∧ c = 2 + k) : EC (d + 1) 10 [.ref c, .int v, .int h, .int m, .int s] (Wd X Z) (PI (sLasting 1 v h m s) (Wd X Z)) := by
  refine er_enter (L := [(0, _), (1, _), (2, _), (3, _), (4, _)]) rfl rfl rfl ?_
  refine er_loc (pc' := 1) rfl rfl rfl ?_
  refine er_k (pc' := 2) (nI 1) rfl rfl rfl ?_
  refine er_iadd (pc' := 3) rfl rfl ?_
  refine er_iret rfl rfl ?_
  exact PI_of (by simp [sLasting, *])
set_option maxRecDepth 100000 in
set_option maxHeartbeats 4000000 in
theorem l_lasting2 (d c : Nat) (v h m s : Int32) (X Z : Nat → Nat → Int32) (hc : Nat.blt c 79 = true) (ho : ∃ k, k < 7 ∧ c = 2 + k) : EC (d + 1) 13 [.ref c, .int v, .int h, .int m, .int s] (Wd X Z) (PI (sLasting 2 v h m s) (Wd X Z)) := by
  refine er_enter (L := [(0, _), (1, _), (2, _), (3, _), (4, _)]) rfl rfl rfl ?_
  refine er_loc (pc' := 1) rfl rfl rfl ?_
  refine er_k (pc' := 2) (nI 2) rfl rfl rfl ?_
  refine er_iadd (pc' := 3) rfl rfl ?_
  refine er_iret rfl rfl ?_
  exact PI_of (by simp [sLasting, *])
set_option maxRecDepth 100000 in
set_option maxHeartbeats 4000000 in
theorem l_lasting3 (d c : Nat) (v h m s : Int32) (X Z : Nat → Nat → Int32) (hc : Nat.blt c 79 = true) (ho : ∃ k, k < 7 ∧ c = 2 + k) : EC (d + 1) 17 [.ref c, .int v, .int h, .int m, .int s] (Wd X Z) (PI (sLasting 3 v h m s) (Wd X Z)) := by
  refine er_enter (L := [(0, _), (1, _), (2, _), (3, _), (4, _)]) rfl rfl rfl ?_
  refine er_loc (pc' := 1) rfl rfl rfl ?_
  refine er_k (pc' := 2) (nI 1) rfl rfl rfl ?_
  refine er_cm_ne (pc' := 5) rfl rfl (fun h2 => ?_) (fun h2 => ?_)
  · refine er_loc (pc' := 12) rfl rfl rfl ?_
    refine er_iret rfl rfl ?_
    exact PI_of (by simp [sLasting, *])
  · refine er_loc (pc' := 6) rfl rfl rfl ?_
    refine er_k (pc' := 7) (nI 2) rfl rfl rfl ?_
    refine er_imul (pc' := 8) rfl rfl ?_
    refine er_goto rfl ?_
    refine er_iret rfl rfl ?_
    exact PI_of (by simp [sLasting, *])
set_option maxRecDepth 100000 in
set_option maxHeartbeats 4000000 in
theorem l_lasting4 (d c : Nat) (v h m s : Int32) (X Z : Nat → Nat → Int32) (hc : c = 2 + 4) : EC (d + 2) 21 [.ref c, .int v, .int h, .int m, .int s] (Wd X Z) (PI (sLasting 4 v h m s) (Wd X Z)) := by
  refine er_enter (L := [(0, _), (1, _), (2, _), (3, _), (4, _)]) rfl rfl rfl ?_
  subst hc
  refine er_loc (pc' := 1) rfl rfl rfl ?_
  refine er_loc (pc' := 2) rfl rfl rfl ?_
  refine er_loc (pc' := 3) rfl rfl rfl ?_
  refine er_loc (pc' := 4) rfl rfl rfl ?_
  refine er_loc (pc' := 6) rfl rfl rfl ?_
  refine er_cIi (pc' := 9) (rest := []) 4 rfl rfl rfl rfl rfl rfl (l_lasting1 _ _ _ _ _ _ _ _ rfl ⟨_, by omega, rfl⟩) ?_
  refine er_loc (pc' := 10) rfl rfl rfl ?_
  refine er_k (pc' := 11) (nI 3) rfl rfl rfl ?_
  refine er_irem (pc' := 12) rfl rfl (by decide) ?_
  refine er_iadd (pc' := 13) rfl rfl ?_
  refine er_iret rfl rfl ?_
  exact PI_of (by simp [sLasting, *])
set_option maxRecDepth 100000 in
set_option maxHeartbeats 4000000 in
theorem l_lasting5 (d c : Nat) (v h m s : Int32) (X Z : Nat → Nat → Int32) (hc : c = 2 + 5) : EC (d + 2) 24 [.ref c, .int v, .int h, .int m, .int s] (Wd X Z) (PI (sLasting 5 v h m s) (Wd X Z)) := by
  refine er_enter (L := [(0, _), (1, _), (2, _), (3, _), (4, _)]) rfl rfl rfl ?_
  subst hc
  refine er_loc (pc' := 1) rfl rfl rfl ?_
  refine er_loc (pc' := 2) rfl rfl rfl ?_
  refine er_loc (pc' := 3) rfl rfl rfl ?_
  refine er_loc (pc' := 4) rfl rfl rfl ?_
  refine er_loc (pc' := 6) rfl rfl rfl ?_
  refine er_cIi (pc' := 9) (rest := []) 5 rfl rfl rfl rfl rfl rfl (l_lasting2 _ _ _ _ _ _ _ _ rfl ⟨_, by omega, rfl⟩) ?_
  refine er_loc (pc' := 11) rfl rfl rfl ?_
  refine er_iadd (pc' := 12) rfl rfl ?_
  refine er_iret rfl rfl ?_
  exact PI_of (by simp [sLasting, *])
set_option maxRecDepth 100000 in
set_option maxHeartbeats 4000000 in
theorem l_lasting6 (d c : Nat) (v h m s : Int32) (X Z : Nat → Nat → Int32) (hc : c = 2 + 6) : EC (d + 2) 27 [.ref c, .int v, .int h, .int m, .int s] (Wd X Z) (PI (sLasting 6 v h m s) (Wd X Z)) := by
  refine er_enter (L := [(0, _), (1, _), (2, _), (3, _), (4, _)]) rfl rfl rfl ?_
  subst hc
  refine er_loc (pc' := 1) rfl rfl rfl ?_
  refine er_loc (pc' := 2) rfl rfl rfl ?_
  refine er_loc (pc' := 3) rfl rfl rfl ?_
  refine er_loc (pc' := 4) rfl rfl rfl ?_
  refine er_loc (pc' := 6) rfl rfl rfl ?_
  refine er_cIi (pc' := 9) (rest := []) 6 rfl rfl rfl rfl rfl rfl (l_lasting3 _ _ _ _ _ _ _ _ rfl ⟨_, by omega, rfl⟩) ?_
  refine er_loc (pc' := 10) rfl rfl rfl ?_
  refine er_iadd (pc' := 11) rfl rfl ?_
  refine er_iret rfl rfl ?_
  exact PI_of (by simp [sLasting, *])
theorem l_lasting (d q : Nat) (v h m s : Int32) (X Z : Nat → Nat → Int32) (hq : q < 7) : EC (d + 2) (tgL q) [.ref (2 + q), .int v, .int h, .int m, .int s] (Wd X Z) (PI (sLasting q v h m s) (Wd X Z)) := by
  rcases lt7 hq with rfl | rfl | rfl | rfl | rfl | rfl | rfl
  · exact l_lasting0 (d + 1) _ _ _ _ _ _ _ rfl ⟨0, by omega, rfl⟩
  · exact l_lasting1 (d + 1) _ _ _ _ _ _ _ rfl ⟨1, by omega, rfl⟩
  · exact l_lasting2 (d + 1) _ _ _ _ _ _ _ rfl ⟨2, by omega, rfl⟩
  · exact l_lasting3 (d + 1) _ _ _ _ _ _ _ rfl ⟨3, by omega, rfl⟩
  · exact l_lasting4 d _ _ _ _ _ _ _ rfl
  · exact l_lasting5 d _ _ _ _ _ _ _ rfl
  · exact l_lasting6 d _ _ _ _ _ _ _ rfl
set_option maxRecDepth 100000 in
set_option maxHeartbeats 4000000 in
theorem l_back (d c : Nat) (v : Int32) (w : ab_W) : EC (d + 1) 2 [.ref c, .int v] w (PI (v / nI 2) w) := by
  refine er_enter (L := [(0, _), (1, _)]) rfl rfl rfl ?_
  refine er_loc (pc' := 1) rfl rfl rfl ?_
  refine er_k (pc' := 2) (nI 2) rfl rfl rfl ?_
  refine er_idiv (pc' := 3) rfl rfl (by decide) ?_
  refine er_iret rfl rfl ?_
  exact PI_of rfl
set_option maxRecDepth 100000 in
set_option maxHeartbeats 4000000 in
theorem l_back3 (d c : Nat) (v : Int32) (w : ab_W) : EC (d + 1) 18 [.ref c, .int v] w (PI (v) w) := by
  refine er_enter (L := [(0, _), (1, _)]) rfl rfl rfl ?_
  refine er_loc (pc' := 1) rfl rfl rfl ?_
  refine er_iret rfl rfl ?_
  exact PI_of rfl
set_option maxRecDepth 100000 in
set_option maxHeartbeats 4000000 in
theorem l_never (d c : Nat) (w : ab_W) : EC (d + 1) 4 [.ref c] w (PI (bI false) w) := by
  refine er_enter (L := [(0, _)]) rfl rfl rfl ?_
  refine er_k (pc' := 1) (nI 0) rfl rfl rfl ?_
  refine er_ret _ rfl rfl ?_
  exact PI_of rfl
set_option maxRecDepth 100000 in
set_option maxHeartbeats 4000000 in
theorem l_never2 (d c : Nat) (w : ab_W) : EC (d + 1) 14 [.ref c] w (PI (bI true) w) := by
  refine er_enter (L := [(0, _)]) rfl rfl rfl ?_
  refine er_k (pc' := 1) (nI 1) rfl rfl rfl ?_
  refine er_ret _ rfl rfl ?_
  exact PI_of rfl
set_option maxRecDepth 100000 in
set_option maxHeartbeats 4000000 in
theorem l_hands (d c : Nat) (w : ab_W) : EC (d + 1) 3 [.ref c] w (PI (nI 1) w) := by
  refine er_enter (L := [(0, _)]) rfl rfl rfl ?_
  refine er_k (pc' := 1) (nI 1) rfl rfl rfl ?_
  refine er_iret rfl rfl ?_
  exact PI_of rfl
set_option maxRecDepth 100000 in
set_option maxHeartbeats 4000000 in
theorem l_hands6 (d c : Nat) (w : ab_W) : EC (d + 1) 28 [.ref c] w (PI (nI 2) w) := by
  refine er_enter (L := [(0, _)]) rfl rfl rfl ?_
  refine er_k (pc' := 1) (nI 2) rfl rfl rfl ?_
  refine er_iret rfl rfl ?_
  exact PI_of rfl
theorem l_backOf (d q : Nat) (v : Int32) (w : ab_W) (hq : q < 7) : EC (d + 1) (tgB q) [.ref (2 + q), .int v] w (PI (sBackOf q v) w) := by
  rcases lt7 hq with rfl | rfl | rfl | rfl | rfl | rfl | rfl
  · exact l_back d _ v w
  · exact l_back d _ v w
  · exact l_back d _ v w
  · exact l_back3 d _ v w
  · exact l_back d _ v w
  · exact l_back d _ v w
  · exact l_back3 d _ v w
theorem l_neverOf (d q : Nat) (w : ab_W) (hq : q < 7) : EC (d + 1) (tgN q) [.ref (2 + q)] w (PI (bI (sNever q)) w) := by
  rcases lt7 hq with rfl | rfl | rfl | rfl | rfl | rfl | rfl
  · exact l_never d _ w
  · exact l_never d _ w
  · exact l_never2 d _ w
  · exact l_never d _ w
  · exact l_never d _ w
  · exact l_never2 d _ w
  · exact l_never d _ w
theorem l_handsOf (d q : Nat) (w : ab_W) (hq : q < 7) : EC (d + 1) (tgH q) [.ref (2 + q)] w (PI (sHands q) w) := by
  rcases lt7 hq with rfl | rfl | rfl | rfl | rfl | rfl | rfl
  · exact l_hands d _ w
  · exact l_hands d _ w
  · exact l_hands d _ w
  · exact l_hands d _ w
  · exact l_hands d _ w
  · exact l_hands d _ w
  · exact l_hands6 d _ w
end
section
/-! TEXTS: what their code gives, on a pile; the class's side -/
def sVal (g a b c : Int32) : Int32 := if g = -3 then c else if g = -2 then b else if g = -1 then a else g
def sJoin (g x y : Int32) : Int32 :=
  if g = 38 then bI (!decide (x = 0) && !decide (y = 0))
  else if g = 42 then x * y
  else if g = 43 then x + y
  else if g = 45 then x - y
  else if g = 47 then (if y = 0 then nI 0 else x / y)
  else if g = 60 then bI (decide (x < y))
  else if g = 61 then bI (decide (x = y))
  else if g = 62 then bI (decide (y < x))
  else if g = 124 then bI (!decide (x = 0) || !decide (y = 0))
  else (if y = 0 then nI 0 else x - x / y * y)
def sStep (g a b c : Int32) (l : List Int32) : List Int32 :=
  if g < -3 then (if g = -33 then (match l with
    | x :: r => bI (decide (x = 0)) :: r
    | [] => []) else (match l with
    | y :: x :: r => sJoin (-g) x y :: r
    | l => l)) else sVal g a b c :: l
def sEv (f : Nat → Int32) (a b c : Int32) : Nat → List Int32
  | 0 => []
  | n + 1 => sStep (f n) a b c (sEv f a b c n)
def sDp (f : Nat → Int32) : Nat → Nat
  | 0 => 0
  | n + 1 => if f n < -3 then (if f n = -33 then sDp f n else sDp f n - 1) else sDp f n + 1
/-- a code that never takes from an empty pile, and leaves one number -/
def wfC (f : Nat → Int32) (n : Nat) : Prop := n ≤ 50 ∧ (0 < n → sDp f n = 1) ∧ ∀ i, i < n → (¬ f i < -3 → sDp f i < 50) ∧ (f i = -33 → 1 ≤ sDp f i) ∧ (f i < -3 → f i ≠ -33 → 2 ≤ sDp f i)
def Stk (z : Nat → Int32) : List Int32 → Prop
  | [] => True
  | x :: r => z r.length = x ∧ Stk z r
theorem Stk_up {z : Nat → Int32} {k : Nat} {v : Int32} : ∀ {l : List Int32}, l.length ≤ k → Stk z l → Stk (u1 z k v) l
  | [], _, _ => trivial
  | x :: r, h, hs => by
    simp only [List.length_cons] at h
    exact ⟨by rw [u1_ne (by omega)]; exact hs.1, Stk_up (by omega) hs.2⟩
theorem Stk_push {z : Nat → Int32} {l : List Int32} (v : Int32) (h : Stk z l) : Stk (u1 z l.length v) (v :: l) := ⟨u1_same _ _ _, Stk_up (Nat.le_refl _) h⟩
theorem sEv_len {f : Nat → Int32} {a b c : Int32} {n : Nat} (hw : wfC f n) : ∀ i, i ≤ n → (sEv f a b c i).length = sDp f i
  | 0, _ => rfl
  | i + 1, h => by
    have ih := sEv_len (a := a) (b := b) (c := c) hw i (by omega)
    obtain ⟨w1, w2, w3⟩ := hw.2.2 i (by omega)
    unfold sEv sDp sStep
    by_cases h1 : f i < -3
    · rw [if_pos h1, if_pos h1]
      by_cases h2 : f i = -33
      · rw [if_pos h2, if_pos h2]
        have := w2 h2
        match hl : sEv f a b c i, ih with
        | [], ih => simp at ih; omega
        | x :: r, ih => simpa using ih
      · rw [if_neg h2, if_neg h2]
        have := w3 h1 h2
        match hl : sEv f a b c i, ih with
        | [], ih => simp at ih; omega
        | [x], ih => simp at ih; omega
        | y :: x :: r, ih => simp at ih ⊢; omega
    · rw [if_neg h1, if_neg h1]
      simp [ih]
theorem bI_1 : bI true = nI 1 := rfl
theorem bI_0 : bI false = nI 0 := rfl
set_option maxRecDepth 100000 in
set_option maxHeartbeats 4000000 in
theorem l_valueOf (d : Nat) (g a b c : Int32) (w : ab_W) : EC (d + 1) 57 [.int g, .int a, .int b, .int c] w (PI (sVal g a b c) w) := by
  refine er_enter (L := [(0, _), (1, _), (2, _), (3, _)]) rfl rfl rfl ?_
  refine er_loc (pc' := 1) rfl rfl rfl ?_
  refine er_sw (-3) rfl rfl (fun s1_m3 => ?_) (fun s1_m3 => ?_)
  · refine er_loc (pc' := 33) rfl rfl rfl ?_
    refine er_iret rfl rfl ?_
    exact PI_of (by simp [sVal, *])
  refine er_sw (-2) rfl rfl (fun s1_m2 => ?_) (fun s1_m2 => ?_)
  · refine er_loc (pc' := 31) rfl rfl rfl ?_
    refine er_iret rfl rfl ?_
    exact PI_of (by simp [sVal, *])
  refine er_sw (-1) rfl rfl (fun s1_m1 => ?_) (fun s1_m1 => ?_)
  · refine er_loc (pc' := 29) rfl rfl rfl ?_
    refine er_iret rfl rfl ?_
    exact PI_of (by simp [sVal, *])
  refine er_tsD [-3, -2, -1] rfl rfl rfl rfl (List.forall_mem_cons.mpr ⟨ne_toInt s1_m3 rfl, List.forall_mem_cons.mpr ⟨ne_toInt s1_m2 rfl, List.forall_mem_cons.mpr ⟨ne_toInt s1_m1 rfl, fun _ h => absurd h List.not_mem_nil⟩⟩⟩) ?_
  refine er_loc (pc' := 35) rfl rfl rfl ?_
  refine er_iret rfl rfl ?_
  exact PI_of (by simp [sVal, *])
set_option maxRecDepth 100000 in
set_option maxHeartbeats 4000000 in
theorem l_joined (d : Nat) (g x y : Int32) (w : ab_W) : EC (d + 1) 58 [.int g, .int x, .int y] w (PI (sJoin g x y) w) := by
  refine er_enter (L := [(0, _), (1, _), (2, _)]) rfl rfl rfl ?_
  refine er_loc (pc' := 1) rfl rfl rfl ?_
  refine er_sw (38) rfl rfl (fun s1_38 => ?_) (fun s1_38 => ?_)
  · refine er_loc (pc' := 99) rfl rfl rfl ?_
    refine er_if_eq (pc' := 102) rfl rfl (fun h99 => ?_) (fun h99 => ?_)
    · refine er_k (pc' := 111) (nI 0) rfl rfl rfl ?_
      refine er_iret rfl rfl ?_
      exact PI_of (by simp [sJoin, bI, *])
    · refine er_loc (pc' := 103) rfl rfl rfl ?_
      refine er_if_eq (pc' := 106) rfl rfl (fun h103 => ?_) (fun h103 => ?_)
      · refine er_k (pc' := 111) (nI 0) rfl rfl rfl ?_
        refine er_iret rfl rfl ?_
        exact PI_of (by simp [sJoin, bI, *])
      · refine er_k (pc' := 107) (nI 1) rfl rfl rfl ?_
        refine er_goto rfl ?_
        refine er_iret rfl rfl ?_
        exact PI_of (by simp [sJoin, bI, *])
  refine er_sw (42) rfl rfl (fun s1_42 => ?_) (fun s1_42 => ?_)
  · refine er_loc (pc' := 154) rfl rfl rfl ?_
    refine er_loc (pc' := 155) rfl rfl rfl ?_
    refine er_imul (pc' := 156) rfl rfl ?_
    refine er_iret rfl rfl ?_
    exact PI_of (by simp [sJoin, bI, *])
  refine er_sw (43) rfl rfl (fun s1_43 => ?_) (fun s1_43 => ?_)
  · refine er_loc (pc' := 146) rfl rfl rfl ?_
    refine er_loc (pc' := 147) rfl rfl rfl ?_
    refine er_iadd (pc' := 148) rfl rfl ?_
    refine er_iret rfl rfl ?_
    exact PI_of (by simp [sJoin, bI, *])
  refine er_sw (45) rfl rfl (fun s1_45 => ?_) (fun s1_45 => ?_)
  · refine er_loc (pc' := 150) rfl rfl rfl ?_
    refine er_loc (pc' := 151) rfl rfl rfl ?_
    refine er_isub (pc' := 152) rfl rfl ?_
    refine er_iret rfl rfl ?_
    exact PI_of (by simp [sJoin, bI, *])
  refine er_sw (47) rfl rfl (fun s1_47 => ?_) (fun s1_47 => ?_)
  · refine er_loc (pc' := 158) rfl rfl rfl ?_
    refine er_if_ne (pc' := 161) rfl rfl (fun h158 => ?_) (fun h158 => ?_)
    · refine er_loc (pc' := 166) rfl rfl rfl ?_
      refine er_loc (pc' := 167) rfl rfl rfl ?_
      refine er_idiv (pc' := 168) rfl rfl h158 ?_
      refine er_iret rfl rfl ?_
      exact PI_of (by simp [sJoin, bI, *])
    · refine er_k (pc' := 162) (nI 0) rfl rfl rfl ?_
      refine er_goto rfl ?_
      refine er_iret rfl rfl ?_
      exact PI_of (by simp [sJoin, bI, *])
  refine er_sw (60) rfl rfl (fun s1_60 => ?_) (fun s1_60 => ?_)
  · refine er_loc (pc' := 113) rfl rfl rfl ?_
    refine er_loc (pc' := 114) rfl rfl rfl ?_
    refine er_cm_ge (pc' := 117) rfl rfl (fun h114 => ?_) (fun h114 => ?_)
    · refine er_k (pc' := 122) (nI 0) rfl rfl rfl ?_
      refine er_iret rfl rfl ?_
      exact PI_of (by simp [sJoin, bI, *])
    · refine er_k (pc' := 118) (nI 1) rfl rfl rfl ?_
      refine er_goto rfl ?_
      refine er_iret rfl rfl ?_
      exact PI_of (by simp [sJoin, bI, *])
  refine er_sw (61) rfl rfl (fun s1_61 => ?_) (fun s1_61 => ?_)
  · refine er_loc (pc' := 124) rfl rfl rfl ?_
    refine er_loc (pc' := 125) rfl rfl rfl ?_
    refine er_cm_ne (pc' := 128) rfl rfl (fun h125 => ?_) (fun h125 => ?_)
    · refine er_k (pc' := 133) (nI 0) rfl rfl rfl ?_
      refine er_iret rfl rfl ?_
      exact PI_of (by simp [sJoin, bI, *])
    · refine er_k (pc' := 129) (nI 1) rfl rfl rfl ?_
      refine er_goto rfl ?_
      refine er_iret rfl rfl ?_
      exact PI_of (by simp [sJoin, bI, *])
  refine er_sw (62) rfl rfl (fun s1_62 => ?_) (fun s1_62 => ?_)
  · refine er_loc (pc' := 135) rfl rfl rfl ?_
    refine er_loc (pc' := 136) rfl rfl rfl ?_
    refine er_cm_le (pc' := 139) rfl rfl (fun h136 => ?_) (fun h136 => ?_)
    · refine er_k (pc' := 144) (nI 0) rfl rfl rfl ?_
      refine er_iret rfl rfl ?_
      exact PI_of (by simp [sJoin, bI, *])
    · refine er_k (pc' := 140) (nI 1) rfl rfl rfl ?_
      refine er_goto rfl ?_
      refine er_iret rfl rfl ?_
      exact PI_of (by simp [sJoin, bI, *])
  refine er_sw (124) rfl rfl (fun s1_124 => ?_) (fun s1_124 => ?_)
  · refine er_loc (pc' := 85) rfl rfl rfl ?_
    refine er_if_ne (pc' := 88) rfl rfl (fun h85 => ?_) (fun h85 => ?_)
    · refine er_k (pc' := 93) (nI 1) rfl rfl rfl ?_
      refine er_goto rfl ?_
      refine er_iret rfl rfl ?_
      exact PI_of (by simp [sJoin, bI, *])
    · refine er_loc (pc' := 89) rfl rfl rfl ?_
      refine er_if_eq (pc' := 92) rfl rfl (fun h89 => ?_) (fun h89 => ?_)
      · refine er_k (pc' := 97) (nI 0) rfl rfl rfl ?_
        refine er_iret rfl rfl ?_
        exact PI_of (by simp [sJoin, bI, *])
      · refine er_k (pc' := 93) (nI 1) rfl rfl rfl ?_
        refine er_goto rfl ?_
        refine er_iret rfl rfl ?_
        exact PI_of (by simp [sJoin, bI, *])
  refine er_lsD rfl rfl rfl (List.forall_mem_cons.mpr ⟨ne_toInt s1_38 rfl, List.forall_mem_cons.mpr ⟨ne_toInt s1_42 rfl, List.forall_mem_cons.mpr ⟨ne_toInt s1_43 rfl, List.forall_mem_cons.mpr ⟨ne_toInt s1_45 rfl, List.forall_mem_cons.mpr ⟨ne_toInt s1_47 rfl, List.forall_mem_cons.mpr ⟨ne_toInt s1_60 rfl, List.forall_mem_cons.mpr ⟨ne_toInt s1_61 rfl, List.forall_mem_cons.mpr ⟨ne_toInt s1_62 rfl, List.forall_mem_cons.mpr ⟨ne_toInt s1_124 rfl, fun _ h => absurd h List.not_mem_nil⟩⟩⟩⟩⟩⟩⟩⟩⟩) ?_
  refine er_loc (pc' := 170) rfl rfl rfl ?_
  refine er_if_ne (pc' := 173) rfl rfl (fun h170 => ?_) (fun h170 => ?_)
  · refine er_loc (pc' := 178) rfl rfl rfl ?_
    refine er_loc (pc' := 179) rfl rfl rfl ?_
    refine er_irem (pc' := 180) rfl rfl h170 ?_
    refine er_iret rfl rfl ?_
    exact PI_of (by simp [sJoin, bI, *])
  · refine er_k (pc' := 174) (nI 0) rfl rfl rfl ?_
    refine er_goto rfl ?_
    refine er_iret rfl rfl ?_
    exact PI_of (by simp [sJoin, bI, *])
def okSg (g : Int32) : Prop := g = 38 ∨ g = 42 ∨ g = 43 ∨ g = 45 ∨ g = 47 ∨ g = 60 ∨ g = 61 ∨ g = 62 ∨ g = 124 ∨ g = 37
set_option maxRecDepth 100000 in
set_option maxHeartbeats 4000000 in
theorem l_twoOf (d : Nat) (g x y : Int32) (w : ab_W) (hg : okSg g) : EC (d + 1) 144 [.int g, .int x, .int y] w (PI (sJoin g x y) w) := by
  refine er_enter (L := [(0, _), (1, _), (2, _)]) rfl rfl rfl ?_
  refine er_loc (pc' := 1) rfl rfl rfl ?_
  refine er_sw (37) rfl rfl (fun s1_37 => ?_) (fun s1_37 => ?_)
  · refine er_loc (pc' := 145) rfl rfl rfl ?_
    refine er_if_ne (pc' := 148) rfl rfl (fun h145 => ?_) (fun h145 => ?_)
    · refine er_loc (pc' := 153) rfl rfl rfl ?_
      refine er_loc (pc' := 154) rfl rfl rfl ?_
      refine er_irem (pc' := 155) rfl rfl h145 ?_
      refine er_iret rfl rfl ?_
      exact PI_of (by simp [sJoin, bI, *])
    · refine er_k (pc' := 149) (nI 0) rfl rfl rfl ?_
      refine er_goto rfl ?_
      refine er_iret rfl rfl ?_
      exact PI_of (by simp [sJoin, bI, *])
  refine er_sw (38) rfl rfl (fun s1_38 => ?_) (fun s1_38 => ?_)
  · refine er_loc (pc' := 190) rfl rfl rfl ?_
    refine er_if_eq (pc' := 193) rfl rfl (fun h190 => ?_) (fun h190 => ?_)
    · refine er_k (pc' := 202) (nI 0) rfl rfl rfl ?_
      refine er_iret rfl rfl ?_
      exact PI_of (by simp [sJoin, bI, *])
    · refine er_loc (pc' := 194) rfl rfl rfl ?_
      refine er_if_eq (pc' := 197) rfl rfl (fun h194 => ?_) (fun h194 => ?_)
      · refine er_k (pc' := 202) (nI 0) rfl rfl rfl ?_
        refine er_iret rfl rfl ?_
        exact PI_of (by simp [sJoin, bI, *])
      · refine er_k (pc' := 198) (nI 1) rfl rfl rfl ?_
        refine er_goto rfl ?_
        refine er_iret rfl rfl ?_
        exact PI_of (by simp [sJoin, bI, *])
  refine er_sw (42) rfl rfl (fun s1_42 => ?_) (fun s1_42 => ?_)
  · refine er_loc (pc' := 129) rfl rfl rfl ?_
    refine er_loc (pc' := 130) rfl rfl rfl ?_
    refine er_imul (pc' := 131) rfl rfl ?_
    refine er_iret rfl rfl ?_
    exact PI_of (by simp [sJoin, bI, *])
  refine er_sw (43) rfl rfl (fun s1_43 => ?_) (fun s1_43 => ?_)
  · refine er_loc (pc' := 121) rfl rfl rfl ?_
    refine er_loc (pc' := 122) rfl rfl rfl ?_
    refine er_iadd (pc' := 123) rfl rfl ?_
    refine er_iret rfl rfl ?_
    exact PI_of (by simp [sJoin, bI, *])
  refine er_sw (45) rfl rfl (fun s1_45 => ?_) (fun s1_45 => ?_)
  · refine er_loc (pc' := 125) rfl rfl rfl ?_
    refine er_loc (pc' := 126) rfl rfl rfl ?_
    refine er_isub (pc' := 127) rfl rfl ?_
    refine er_iret rfl rfl ?_
    exact PI_of (by simp [sJoin, bI, *])
  refine er_sw (47) rfl rfl (fun s1_47 => ?_) (fun s1_47 => ?_)
  · refine er_loc (pc' := 133) rfl rfl rfl ?_
    refine er_if_ne (pc' := 136) rfl rfl (fun h133 => ?_) (fun h133 => ?_)
    · refine er_loc (pc' := 141) rfl rfl rfl ?_
      refine er_loc (pc' := 142) rfl rfl rfl ?_
      refine er_idiv (pc' := 143) rfl rfl h133 ?_
      refine er_iret rfl rfl ?_
      exact PI_of (by simp [sJoin, bI, *])
    · refine er_k (pc' := 137) (nI 0) rfl rfl rfl ?_
      refine er_goto rfl ?_
      refine er_iret rfl rfl ?_
      exact PI_of (by simp [sJoin, bI, *])
  refine er_sw (60) rfl rfl (fun s1_60 => ?_) (fun s1_60 => ?_)
  · refine er_loc (pc' := 157) rfl rfl rfl ?_
    refine er_loc (pc' := 158) rfl rfl rfl ?_
    refine er_cm_ge (pc' := 161) rfl rfl (fun h158 => ?_) (fun h158 => ?_)
    · refine er_k (pc' := 166) (nI 0) rfl rfl rfl ?_
      refine er_iret rfl rfl ?_
      exact PI_of (by simp [sJoin, bI, *])
    · refine er_k (pc' := 162) (nI 1) rfl rfl rfl ?_
      refine er_goto rfl ?_
      refine er_iret rfl rfl ?_
      exact PI_of (by simp [sJoin, bI, *])
  refine er_sw (61) rfl rfl (fun s1_61 => ?_) (fun s1_61 => ?_)
  · refine er_loc (pc' := 168) rfl rfl rfl ?_
    refine er_loc (pc' := 169) rfl rfl rfl ?_
    refine er_cm_ne (pc' := 172) rfl rfl (fun h169 => ?_) (fun h169 => ?_)
    · refine er_k (pc' := 177) (nI 0) rfl rfl rfl ?_
      refine er_iret rfl rfl ?_
      exact PI_of (by simp [sJoin, bI, *])
    · refine er_k (pc' := 173) (nI 1) rfl rfl rfl ?_
      refine er_goto rfl ?_
      refine er_iret rfl rfl ?_
      exact PI_of (by simp [sJoin, bI, *])
  refine er_sw (62) rfl rfl (fun s1_62 => ?_) (fun s1_62 => ?_)
  · refine er_loc (pc' := 179) rfl rfl rfl ?_
    refine er_loc (pc' := 180) rfl rfl rfl ?_
    refine er_cm_le (pc' := 183) rfl rfl (fun h180 => ?_) (fun h180 => ?_)
    · refine er_k (pc' := 188) (nI 0) rfl rfl rfl ?_
      refine er_iret rfl rfl ?_
      exact PI_of (by simp [sJoin, bI, *])
    · refine er_k (pc' := 184) (nI 1) rfl rfl rfl ?_
      refine er_goto rfl ?_
      refine er_iret rfl rfl ?_
      exact PI_of (by simp [sJoin, bI, *])
  refine er_tsD [37, 38, 42, 43, 45, 47, 60, 61, 62] rfl rfl rfl rfl (List.forall_mem_cons.mpr ⟨ne_toInt s1_37 rfl, List.forall_mem_cons.mpr ⟨ne_toInt s1_38 rfl, List.forall_mem_cons.mpr ⟨ne_toInt s1_42 rfl, List.forall_mem_cons.mpr ⟨ne_toInt s1_43 rfl, List.forall_mem_cons.mpr ⟨ne_toInt s1_45 rfl, List.forall_mem_cons.mpr ⟨ne_toInt s1_47 rfl, List.forall_mem_cons.mpr ⟨ne_toInt s1_60 rfl, List.forall_mem_cons.mpr ⟨ne_toInt s1_61 rfl, List.forall_mem_cons.mpr ⟨ne_toInt s1_62 rfl, fun _ h => absurd h List.not_mem_nil⟩⟩⟩⟩⟩⟩⟩⟩⟩) ?_
  have hq : g = 124 := by simp_all [okSg]
  refine er_loc (pc' := 204) rfl rfl rfl ?_
  refine er_if_ne (pc' := 207) rfl rfl (fun h204 => ?_) (fun h204 => ?_)
  · refine er_k (pc' := 212) (nI 1) rfl rfl rfl ?_
    refine er_goto rfl ?_
    refine er_iret rfl rfl ?_
    exact PI_of (by simp [sJoin, bI, *])
  · refine er_loc (pc' := 208) rfl rfl rfl ?_
    refine er_if_eq (pc' := 211) rfl rfl (fun h208 => ?_) (fun h208 => ?_)
    · refine er_k (pc' := 216) (nI 0) rfl rfl rfl ?_
      refine er_iret rfl rfl ?_
      exact PI_of (by simp [sJoin, bI, *])
    · refine er_k (pc' := 212) (nI 1) rfl rfl rfl ?_
      refine er_goto rfl ?_
      refine er_iret rfl rfl ?_
      exact PI_of (by simp [sJoin, bI, *])
end
section
/-! TEXTS: their code worked out, by loops over a pile -/
theorem nI_sub {a b : Nat} (h : b ≤ a) : nI a - nI b = nI (a - b) := by
  have e : nI a = nI (a - b) + nI b := by rw [nI_add]; congr 1; omega
  rw [e, Int32.add_sub_cancel]
theorem nI_addm1 {a : Nat} (h : 1 ≤ a) : nI a + (-1) = nI (a - 1) := by
  rw [← nI_sub h]
  exact (Int32.sub_eq_add_neg (a := nI a) (b := nI 1)).symm ▸ rfl
theorem sDp_le (f : Nat → Int32) : ∀ i, sDp f i ≤ i
  | 0 => Nat.le_refl _
  | i + 1 => by
    have := sDp_le f i
    unfold sDp
    split
    · split <;> omega
    · omega
theorem sEv_push {f : Nat → Int32} {a b c : Int32} {i : Nat} (h : ¬ f i < -3) : sEv f a b c (i + 1) = sVal (f i) a b c :: sEv f a b c i := by
  show sStep _ _ _ _ _ = _
  unfold sStep
  rw [if_neg h]
theorem sDp_push {f : Nat → Int32} {i : Nat} (h : ¬ f i < -3) : sDp f (i + 1) = sDp f i + 1 := by
  show (if _ then _ else _) = _
  rw [if_neg h]
theorem sEv_deny {f : Nat → Int32} {a b c x : Int32} {r : List Int32} {i : Nat} (h : f i < -3) (h2 : f i = -33) (hl : sEv f a b c i = x :: r) : sEv f a b c (i + 1) = bI (decide (x = 0)) :: r := by
  show sStep _ _ _ _ _ = _
  unfold sStep
  rw [if_pos h, if_pos h2, hl]
theorem sDp_deny {f : Nat → Int32} {i : Nat} (h : f i < -3) (h2 : f i = -33) : sDp f (i + 1) = sDp f i := by
  show (if _ then _ else _) = _
  rw [if_pos h, if_pos h2]
theorem sEv_join {f : Nat → Int32} {a b c x y : Int32} {r : List Int32} {i : Nat} (h : f i < -3) (h2 : ¬ f i = -33) (hl : sEv f a b c i = y :: x :: r) : sEv f a b c (i + 1) = sJoin (-f i) x y :: r := by
  show sStep _ _ _ _ _ = _
  unfold sStep
  rw [if_pos h, if_neg h2, hl]
theorem sDp_join {f : Nat → Int32} {i : Nat} (h : f i < -3) (h2 : ¬ f i = -33) : sDp f (i + 1) = sDp f i - 1 := by
  show (if _ then _ else _) = _
  rw [if_pos h, if_neg h2]
theorem ne_nil {l : List Int32} {n : Nat} (h : l.length = n) (hn : 1 ≤ n) : ∃ x r, l = x :: r ∧ r.length = n - 1 := by
  match l, h with
  | [], h => simp at h; omega
  | x :: r, h => exact ⟨x, r, rfl, by simp at h; omega⟩
theorem ne_nil2 {l : List Int32} {n : Nat} (h : l.length = n) (hn : 2 ≤ n) : ∃ y x r, l = y :: x :: r ∧ r.length = n - 2 := by
  match l, h with
  | [], h => simp at h; omega
  | [x], h => simp at h; omega
  | y :: x :: r, h => exact ⟨y, x, r, rfl, by simp at h; omega⟩
theorem Stk_one {z : Nat → Int32} {l : List Int32} (h : Stk z l) (hl : l.length = 1) : z 0 = l.headD 0 := by
  match l, hl with
  | [x], _ => exact h.1
def sVl (f : Nat → Int32) (n : Nat) (a b c : Int32) : Int32 := (sEv f a b c n).headD 0
set_option maxRecDepth 100000 in
set_option maxHeartbeats 4000000 in
theorem l_wo_loop (d : Nat) {t : Nat} (ht : tx t) (X : Nat → Nat → Int32) (a b c : Int32) (len : Nat) (hl : X t 2 = nI len) (hw : wfC (X (t + 1)) len) (h0 : 0 < len) : ∀ (m i : Nat) (Z : Nat → Nat → Int32), i + m = len → Stk (Z (t + 2)) (sEv (X (t + 1)) a b c i) → ER (d + 1) tb_m56 6 [(0, .ref t), (1, .int a), (2, .int b), (3, .int c), (4, .int (nI (sDp (X (t + 1)) i))), (5, .int (nI i))] [] (Wd X Z) (RI (sVl (X (t + 1)) len a b c) X)
  | 0, i, Z, hi, hs => by
    have hi : i = len := by omega
    subst hi
    have h50 := hw.1
    refine er_loc (pc' := 8) rfl rfl rfl ?_
    refine er_loc (pc' := 9) rfl rfl rfl ?_
    refine er_gf (pc' := 12) (_) rfl (blt_T ht 0 rfl) (cO_T0 ht _ _) rfl rfl ?_
    rw [hl]
    refine er_cm_geT rfl (nI_nlt (by omega) (by omega)) ?_
    refine er_loc (pc' := 151) rfl rfl rfl ?_
    refine er_gf (pc' := 154) (_) rfl (blt_T ht 0 rfl) (cO_T0 ht _ _) rfl rfl ?_
    refine er_k (pc' := 155) (nI 0) rfl rfl rfl ?_
    refine er_ia (pc' := 156) (0) rfl (blt_T ht 2 rfl) (cO_T2 ht _ _) rfl (by omega) rfl rfl ?_
    refine er_iret rfl rfl ?_
    exact ⟨_, by rw [Stk_one hs (by rw [sEv_len hw _ (Nat.le_refl _)]; exact hw.2.1 h0)]; rfl⟩
  | m + 1, i, Z, hi, hs => by
    have h50 := hw.1
    obtain ⟨w1, w2, w3⟩ := hw.2.2 i (by omega)
    have hlen := sEv_len (a := a) (b := b) (c := c) hw i (by omega)
    have hd50 : sDp (X (t + 1)) i ≤ 50 := Nat.le_trans (sDp_le _ i) (by omega)
    refine er_loc (pc' := 8) rfl rfl rfl ?_
    refine er_loc (pc' := 9) rfl rfl rfl ?_
    refine er_gf (pc' := 12) (_) rfl (blt_T ht 0 rfl) (cO_T0 ht _ _) rfl rfl ?_
    rw [hl]
    refine er_cm_geF (pc' := 15) rfl (nI_lt (by omega) (by omega)) rfl ?_
    refine er_loc (pc' := 16) rfl rfl rfl ?_
    refine er_gf (pc' := 19) (_) rfl (blt_T ht 0 rfl) (cO_T0 ht _ _) rfl rfl ?_
    refine er_loc (pc' := 21) rfl rfl rfl ?_
    refine er_ia (pc' := 22) (i) rfl (blt_T ht 1 rfl) (cO_T1 ht _ _) rfl (by omega) rfl rfl ?_
    refine er_loc (pc' := 24) (L' := [(6, _), (0, _), (1, _), (2, _), (3, _), (4, _), (5, _)]) rfl rfl rfl ?_
    refine er_loc (pc' := 26) rfl rfl rfl ?_
    refine er_k (pc' := 28) (-3) rfl rfl rfl ?_
    refine er_cm_lt (pc' := 31) rfl rfl (fun h28 => ?_) (fun h28 => ?_)
    · refine er_loc (pc' := 64) rfl rfl rfl ?_
      refine er_k (pc' := 66) (-33) rfl rfl rfl ?_
      refine er_cm_ne (pc' := 69) rfl rfl (fun h66 => ?_) (fun h66 => ?_)
      · have d1 := w3 h28 h66
        obtain ⟨y0, x0, r0, hl0, hr0⟩ := ne_nil2 hlen d1
        have hz0 := hs
        rw [hl0] at hz0
        refine er_loc (pc' := 106) rfl rfl rfl ?_
        refine er_k (pc' := 107) (nI 2) rfl rfl rfl ?_
        refine er_cm_ltF (pc' := 110) rfl (nI_nlt d1 (by omega)) rfl ?_
        refine er_loc (pc' := 113) (L' := [(4, .int (_ + (-1))), (6, _), (0, _), (1, _), (2, _), (3, _), (5, _)]) rfl rfl rfl ?_
        rw [nI_addm1 (by omega)]
        refine er_loc (pc' := 114) rfl rfl rfl ?_
        refine er_gf (pc' := 117) (_) rfl (blt_T ht 0 rfl) (cO_T0 ht _ _) rfl rfl ?_
        refine er_loc (pc' := 119) rfl rfl rfl ?_
        refine er_k (pc' := 120) (nI 1) rfl rfl rfl ?_
        refine er_isub rfl rfl ?_
        refine er_loc (pc' := 123) rfl rfl rfl ?_
        refine er_ineg (pc' := 124) rfl rfl ?_
        refine er_loc (pc' := 125) rfl rfl rfl ?_
        refine er_gf (pc' := 128) (_) rfl (blt_T ht 0 rfl) (cO_T0 ht _ _) rfl rfl ?_
        refine er_loc (pc' := 130) rfl rfl rfl ?_
        refine er_k (pc' := 131) (nI 1) rfl rfl rfl ?_
        refine er_isub (pc' := 132) rfl rfl ?_
        refine er_ia (pc' := 133) (sDp (X (t + 1)) i - 2) rfl (blt_T ht 2 rfl) (cO_T2 ht _ _) ((nI_sub (by omega)).trans (congrArg nI (by omega))) (by omega) rfl rfl ?_
        refine er_loc (pc' := 134) rfl rfl rfl ?_
        refine er_gf (pc' := 137) (_) rfl (blt_T ht 0 rfl) (cO_T0 ht _ _) rfl rfl ?_
        refine er_loc (pc' := 139) rfl rfl rfl ?_
        refine er_ia (pc' := 140) (sDp (X (t + 1)) i - 1) rfl (blt_T ht 2 rfl) (cO_T2 ht _ _) rfl (by omega) rfl rfl ?_
        refine er_cSi (pc' := 143) (rest := [_, _]) rfl rfl rfl (l_joined _ _ _ _ _) ?_
        refine er_isZ (pc' := 144) (sDp (X (t + 1)) i - 2) rfl (blt_T ht 2 rfl) (fun f => cO_T2 ht _ f) ((nI_sub (by omega)).trans (congrArg nI (by omega))) (by omega) rfl rfl ?_
        refine er_loc (L' := [(5, .int (_ + nI 1)), (4, _), (6, _), (0, _), (1, _), (2, _), (3, _)]) rfl rfl rfl ?_
        refine er_goto rfl ?_
        rw [nI_add]
        refine ER_loc [(0, _), (1, _), (2, _), (3, _), (4, _), (5, _)] rfl (List.forall_mem_cons.mpr ⟨rfl, List.forall_mem_cons.mpr ⟨rfl, List.forall_mem_cons.mpr ⟨rfl, List.forall_mem_cons.mpr ⟨rfl, List.forall_mem_cons.mpr ⟨rfl, List.forall_mem_cons.mpr ⟨rfl, fun _ h => absurd h List.not_mem_nil⟩⟩⟩⟩⟩⟩) rfl rfl ?_
        have ih := fun Z1 => l_wo_loop d ht X a b c len hl hw h0 m (i + 1) Z1 (by omega)
        rw [sDp_join h28 h66] at ih
        refine ih _ ?_
        rw [ud_same]
        rw [sEv_join h28 h66 hl0, show Z (t + 2) (sDp (X (t + 1)) i - 2) = x0 from by rw [← hr0]; exact hz0.2.1, show Z (t + 2) (sDp (X (t + 1)) i - 1) = y0 from by rw [show sDp (X (t + 1)) i - 1 = (x0 :: r0).length from by simp only [List.length_cons]; omega]; exact hz0.1, ← hr0]
        exact Stk_push _ hz0.2.2
      · have d1 := w2 h66
        obtain ⟨x0, r0, hl0, hr0⟩ := ne_nil hlen d1
        have hz0 := hs
        rw [hl0] at hz0
        refine er_loc (pc' := 71) rfl rfl rfl ?_
        refine er_k (pc' := 72) (nI 1) rfl rfl rfl ?_
        refine er_cm_ltF (pc' := 75) rfl (nI_nlt d1 (by omega)) rfl ?_
        refine er_loc (pc' := 76) rfl rfl rfl ?_
        refine er_gf (pc' := 79) (_) rfl (blt_T ht 0 rfl) (cO_T0 ht _ _) rfl rfl ?_
        refine er_loc (pc' := 81) rfl rfl rfl ?_
        refine er_k (pc' := 82) (nI 1) rfl rfl rfl ?_
        refine er_isub (pc' := 83) rfl rfl ?_
        refine er_loc (pc' := 84) rfl rfl rfl ?_
        refine er_gf (pc' := 87) (_) rfl (blt_T ht 0 rfl) (cO_T0 ht _ _) rfl rfl ?_
        refine er_loc (pc' := 89) rfl rfl rfl ?_
        refine er_k (pc' := 90) (nI 1) rfl rfl rfl ?_
        refine er_isub (pc' := 91) rfl rfl ?_
        refine er_ia (pc' := 92) (sDp (X (t + 1)) i - 1) rfl (blt_T ht 2 rfl) (cO_T2 ht _ _) (nI_sub d1) (by omega) rfl rfl ?_
        rw [show Z (t + 2) (sDp (X (t + 1)) i - 1) = x0 from by rw [← hr0]; exact hz0.1]
        refine er_if_ne (pc' := 95) rfl rfl (fun h92 => ?_) (fun h92 => ?_)
        · refine er_k (nI 0) rfl rfl rfl ?_
          refine er_isZ (pc' := 101) (sDp (X (t + 1)) i - 1) rfl (blt_T ht 2 rfl) (fun f => cO_T2 ht _ f) (nI_sub d1) (by omega) rfl rfl ?_
          refine er_goto rfl ?_
          refine er_loc (L' := [(5, .int (_ + nI 1)), (6, _), (0, _), (1, _), (2, _), (3, _), (4, _)]) rfl rfl rfl ?_
          refine er_goto rfl ?_
          rw [nI_add]
          refine ER_loc [(0, _), (1, _), (2, _), (3, _), (4, _), (5, _)] rfl (List.forall_mem_cons.mpr ⟨rfl, List.forall_mem_cons.mpr ⟨rfl, List.forall_mem_cons.mpr ⟨rfl, List.forall_mem_cons.mpr ⟨rfl, List.forall_mem_cons.mpr ⟨rfl, List.forall_mem_cons.mpr ⟨rfl, fun _ h => absurd h List.not_mem_nil⟩⟩⟩⟩⟩⟩) rfl rfl ?_
          have ih := fun Z1 => l_wo_loop d ht X a b c len hl hw h0 m (i + 1) Z1 (by omega)
          rw [sDp_deny h28 h66] at ih
          refine ih _ ?_
          rw [ud_same]
          rw [sEv_deny h28 h66 hl0, decide_eq_false h92, ← hr0]
          exact Stk_push _ hz0.2
        · refine er_k (nI 1) rfl rfl rfl ?_
          refine er_goto rfl ?_
          refine er_isZ (pc' := 101) (sDp (X (t + 1)) i - 1) rfl (blt_T ht 2 rfl) (fun f => cO_T2 ht _ f) (nI_sub d1) (by omega) rfl rfl ?_
          refine er_goto rfl ?_
          refine er_loc (L' := [(5, .int (_ + nI 1)), (6, _), (0, _), (1, _), (2, _), (3, _), (4, _)]) rfl rfl rfl ?_
          refine er_goto rfl ?_
          rw [nI_add]
          refine ER_loc [(0, _), (1, _), (2, _), (3, _), (4, _), (5, _)] rfl (List.forall_mem_cons.mpr ⟨rfl, List.forall_mem_cons.mpr ⟨rfl, List.forall_mem_cons.mpr ⟨rfl, List.forall_mem_cons.mpr ⟨rfl, List.forall_mem_cons.mpr ⟨rfl, List.forall_mem_cons.mpr ⟨rfl, fun _ h => absurd h List.not_mem_nil⟩⟩⟩⟩⟩⟩) rfl rfl ?_
          have ih := fun Z1 => l_wo_loop d ht X a b c len hl hw h0 m (i + 1) Z1 (by omega)
          rw [sDp_deny h28 h66] at ih
          refine ih _ ?_
          rw [ud_same]
          rw [sEv_deny h28 h66 hl0, decide_eq_true h92, ← hr0]
          exact Stk_push _ hz0.2
    · refine er_loc (pc' := 33) rfl rfl rfl ?_
      refine er_loc (pc' := 34) rfl rfl rfl ?_
      refine er_gf (pc' := 37) (_) rfl (blt_T ht 0 rfl) (cO_T0 ht _ _) rfl rfl ?_
      refine er_al (pc' := 38) rfl (blt_T ht 2 rfl) (cO_T2 ht _ _) rfl ?_
      refine er_cm_geF (pc' := 41) rfl (nI_lt (w1 h28) (by omega)) rfl ?_
      refine er_loc (pc' := 42) rfl rfl rfl ?_
      refine er_gf (pc' := 45) (_) rfl (blt_T ht 0 rfl) (cO_T0 ht _ _) rfl rfl ?_
      refine er_loc (pc' := 47) rfl rfl rfl ?_
      refine er_loc (pc' := 49) rfl rfl rfl ?_
      refine er_loc (pc' := 50) rfl rfl rfl ?_
      refine er_loc (pc' := 51) rfl rfl rfl ?_
      refine er_loc (pc' := 52) rfl rfl rfl ?_
      refine er_cSi (pc' := 55) (rest := [_, _]) rfl rfl rfl (l_valueOf _ _ _ _ _ _) ?_
      refine er_isZ (sDp (X (t + 1)) i) rfl (blt_T ht 2 rfl) (fun f => cO_T2 ht _ f) rfl (w1 h28) rfl rfl ?_
      refine er_loc (pc' := 59) (L' := [(4, .int (_ + nI 1)), (6, _), (0, _), (1, _), (2, _), (3, _), (5, _)]) rfl rfl rfl ?_
      refine er_goto rfl ?_
      refine er_loc (L' := [(5, .int (_ + nI 1)), (4, _), (6, _), (0, _), (1, _), (2, _), (3, _)]) rfl rfl rfl ?_
      refine er_goto rfl ?_
      rw [nI_add, nI_add]
      refine ER_loc [(0, _), (1, _), (2, _), (3, _), (4, _), (5, _)] rfl (List.forall_mem_cons.mpr ⟨rfl, List.forall_mem_cons.mpr ⟨rfl, List.forall_mem_cons.mpr ⟨rfl, List.forall_mem_cons.mpr ⟨rfl, List.forall_mem_cons.mpr ⟨rfl, List.forall_mem_cons.mpr ⟨rfl, fun _ h => absurd h List.not_mem_nil⟩⟩⟩⟩⟩⟩) rfl rfl ?_
      have ih := fun Z1 => l_wo_loop d ht X a b c len hl hw h0 m (i + 1) Z1 (by omega)
      rw [sDp_push h28] at ih
      refine ih _ ?_
      rw [ud_same]
      rw [sEv_push h28, ← hlen]
      exact Stk_push _ hs
set_option maxRecDepth 100000 in
set_option maxHeartbeats 4000000 in
theorem l_workedOut (d : Nat) {t : Nat} (ht : tx t) (X Z : Nat → Nat → Int32) (a b c : Int32) (len : Nat) (hl : X t 2 = nI len) (hw : wfC (X (t + 1)) len) (h0 : 0 < len) : EC (d + 2) 56 [.ref t, .int a, .int b, .int c] (Wd X Z) (RI (sVl (X (t + 1)) len a b c) X) := by
  refine er_enter (L := [(0, _), (1, _), (2, _), (3, _)]) rfl rfl rfl ?_
  refine er_k (pc' := 1) (nI 0) rfl rfl rfl ?_
  refine er_loc (pc' := 3) (L' := [(4, _), (0, _), (1, _), (2, _), (3, _)]) rfl rfl rfl ?_
  refine er_k (pc' := 4) (nI 0) rfl rfl rfl ?_
  refine er_loc (pc' := 6) (L' := [(5, _), (4, _), (0, _), (1, _), (2, _), (3, _)]) rfl rfl rfl ?_
  refine ER_loc [(0, _), (1, _), (2, _), (3, _), (4, _), (5, _)] rfl (List.forall_mem_cons.mpr ⟨rfl, List.forall_mem_cons.mpr ⟨rfl, List.forall_mem_cons.mpr ⟨rfl, List.forall_mem_cons.mpr ⟨rfl, List.forall_mem_cons.mpr ⟨rfl, List.forall_mem_cons.mpr ⟨rfl, fun _ h => absurd h List.not_mem_nil⟩⟩⟩⟩⟩⟩) rfl rfl ?_
  exact l_wo_loop d ht X a b c len hl hw h0 len 0 _ (by omega) trivial
set_option maxRecDepth 100000 in
set_option maxHeartbeats 4000000 in
theorem l_isGiven (d : Nat) {t : Nat} (ht : tx t) (X Z : Nat → Nat → Int32) (len : Nat) (hl : X t 2 = nI len) (h50 : len ≤ 50) : EC (d + 1) 55 [.ref t] (Wd X Z) (PI (bI (decide (0 < len))) (Wd X Z)) := by
  refine er_enter (L := [(0, _)]) rfl rfl rfl ?_
  refine er_loc (pc' := 1) rfl rfl rfl ?_
  refine er_gf (pc' := 4) (_) rfl (blt_T ht 0 rfl) (cO_T0 ht _ _) rfl rfl ?_
  rw [hl]
  refine er_if_le (pc' := 7) rfl rfl (fun h4 => ?_) (fun h4 => ?_)
  · have hq : len = 0 := by
      rcases Nat.eq_zero_or_pos len with h | h
      · exact h
      · exact absurd (nI_lt h (by omega)) h4
    refine er_k (pc' := 12) (nI 0) rfl rfl rfl ?_
    refine er_ret _ rfl rfl ?_
    exact PI_of (bI_eq0 (by simp [hq]))
  · have hq : 0 < len := by
      rcases Nat.eq_zero_or_pos len with h | h
      · subst h; exact absurd h4 (by decide +kernel)
      · exact h
    refine er_k (pc' := 8) (nI 1) rfl rfl rfl ?_
    refine er_goto rfl ?_
    refine er_ret _ rfl rfl ?_
    exact PI_of (bI_eq1 (by simp [hq]))
end
section
/-! JOBS: what a JOB holds, as numbers; what follows from it; the first methods over it -/
def okF (k : Nat) : Bool := k == 1 || k == 6 || k == 7 || k == 8 || k == 9 || k == 10 || k == 14 || k == 16 || k == 17
def jx (X : Nat → Nat → Int32) (b : Nat) : Nat → Nat → Int32 := fun i k => match i with
  | 0 => if okF k = true then X b k else 0
  | 1 => if k < 8 then X (b + 1) k else 0
  | 2 => if k < 8 then X (b + 2) k else 0
  | 3 => if k < 8 then X (b + 3) k else 0
  | 4 => if k < 8 then X (b + 4) k else 0
  | 5 => if k = 0 then X (b + 5) 2 else 0
  | 6 => if k < nN (X (b + 5) 2) then X (b + 6) k else 0
  | 7 => if k = 0 then X (b + 8) 2 else 0
  | 8 => if k < nN (X (b + 8) 2) then X (b + 9) k else 0
  | 9 => if k < 50 then X (b + 11) k else 0
  | 10 => if k < 20 then X (b + 12) k else 0
  | _ => 0
section JX
variable {X : Nat → Nat → Int32} {b k : Nat}
theorem jx0 (h : okF k = true) : jx X b 0 k = X b k := if_pos h
theorem jx1 (h : k < 8) : jx X b 1 k = X (b + 1) k := if_pos h
theorem jx2 (h : k < 8) : jx X b 2 k = X (b + 2) k := if_pos h
theorem jx3 (h : k < 8) : jx X b 3 k = X (b + 3) k := if_pos h
theorem jx4 (h : k < 8) : jx X b 4 k = X (b + 4) k := if_pos h
theorem jx5 : jx X b 5 0 = X (b + 5) 2 := id rfl
theorem jx6 (h : k < nN (X (b + 5) 2)) : jx X b 6 k = X (b + 6) k := if_pos h
theorem jx7 : jx X b 7 0 = X (b + 8) 2 := id rfl
theorem jx8 (h : k < nN (X (b + 8) 2)) : jx X b 8 k = X (b + 9) k := if_pos h
theorem jx9 (h : k < 50) : jx X b 9 k = X (b + 11) k := if_pos h
theorem jx10 (h : k < 20) : jx X b 10 k = X (b + 12) k := if_pos h
theorem jx01 : jx X b 0 1 = X b 1 := jx0 rfl
theorem jx06 : jx X b 0 6 = X b 6 := jx0 rfl
theorem jx07 : jx X b 0 7 = X b 7 := jx0 rfl
theorem jx08 : jx X b 0 8 = X b 8 := jx0 rfl
theorem jx09 : jx X b 0 9 = X b 9 := jx0 rfl
theorem jx010 : jx X b 0 10 = X b 10 := jx0 rfl
theorem jx014 : jx X b 0 14 = X b 14 := jx0 rfl
theorem jx016 : jx X b 0 16 = X b 16 := jx0 rfl
theorem jx017 : jx X b 0 17 = X b 17 := jx0 rfl
end JX
def bt (x : Int32) (i : Nat) : Bool := x.toBitVec.getLsbD i
def isN (v : Int32) (B : Nat) : Prop := v = nI (nN v) ∧ nN v ≤ B
theorem isN.of {n B : Nat} (h : n ≤ B) (hB : B < 2 ^ 31) : isN (nI n) B := by
  unfold isN
  rw [nN_nI (by omega)]
  exact ⟨rfl, h⟩
abbrev jn (J : Nat → Nat → Int32) : Nat := nN (J 0 1)
abbrev jl (J : Nat → Nat → Int32) : Nat := nN (J 5 0)
abbrev je (J : Nat → Nat → Int32) : Nat := nN (J 7 0)
def IJ (T : Nat) (J : Nat → Nat → Int32) : Prop :=
  isN (J 0 1) 8 ∧ (∀ k, isN (J 1 k) 6) ∧ (∀ k, isN (J 2 k) 9) ∧ (∀ k, isN (J 3 k) 9) ∧ (∀ k i, bt (J 4 k) i = true → i < k) ∧ (∀ i, bt (J 0 6) i = true → i < jn J) ∧ (∀ i, bt (J 0 7) i = true → i < jn J)
  ∧ (J 0 8 = nI 1 ∨ J 0 8 = nI 2) ∧ isN (J 0 9) 999 ∧ isN (J 0 10) T ∧ (isN (J 5 0) 50 ∧ wfC (J 6) (jl J)) ∧ (isN (J 7 0) 50 ∧ wfC (J 8) (je J)) ∧ isN (J 0 14) 50 ∧ isN (J 0 16) 20 ∧ (∀ k, isN (J 9 k) 255)
section IJS
variable {T : Nat} {J : Nat → Nat → Int32}
theorem IJ.n (h : IJ T J) : isN (J 0 1) 8 := h.1
theorem IJ.kind (h : IJ T J) : ∀ k, isN (J 1 k) 6 := h.2.1
theorem IJ.m (h : IJ T J) : ∀ k, isN (J 2 k) 9 := h.2.2.1
theorem IJ.sc (h : IJ T J) : ∀ k, isN (J 3 k) 9 := h.2.2.2.1
theorem IJ.needs (h : IJ T J) : ∀ k i, bt (J 4 k) i = true → i < k := h.2.2.2.2.1
theorem IJ.done (h : IJ T J) : ∀ i, bt (J 0 6) i = true → i < jn J := h.2.2.2.2.2.1
theorem IJ.wrong (h : IJ T J) : ∀ i, bt (J 0 7) i = true → i < jn J := h.2.2.2.2.2.2.1
theorem IJ.hands (h : IJ T J) : J 0 8 = nI 1 ∨ J 0 8 = nI 2 := h.2.2.2.2.2.2.2.1
theorem IJ.bag (h : IJ T J) : isN (J 0 9) 999 := h.2.2.2.2.2.2.2.2.1
theorem IJ.minute (h : IJ T J) : isN (J 0 10) T := h.2.2.2.2.2.2.2.2.2.1
theorem IJ.tl (h : IJ T J) : isN (J 5 0) 50 ∧ wfC (J 6) (jl J) := h.2.2.2.2.2.2.2.2.2.2.1
theorem IJ.te (h : IJ T J) : isN (J 7 0) 50 ∧ wfC (J 8) (je J) := h.2.2.2.2.2.2.2.2.2.2.2.1
theorem IJ.fed (h : IJ T J) : isN (J 0 14) 50 := h.2.2.2.2.2.2.2.2.2.2.2.2.1
theorem IJ.waits (h : IJ T J) : isN (J 0 16) 20 := h.2.2.2.2.2.2.2.2.2.2.2.2.2.1
theorem IJ.tape (h : IJ T J) : ∀ k, isN (J 9 k) 255 := h.2.2.2.2.2.2.2.2.2.2.2.2.2.2
end IJS
def sTired (J : Nat → Nat → Int32) : Int32 := if J 0 10 / nI 30 < nI 9 then J 0 10 / nI 30 else nI 9
def sLastsBy (J : Nat → Nat → Int32) (s m t : Int32) : Int32 := sHeld (if 0 < jl J then sVl (J 6) (jl J) s m t else nI 1 + s + t) (nI 1) (nI 99)
def sErrsBy (J : Nat → Nat → Int32) (m t k : Int32) : Int32 := sHeld (if 0 < je J then sVl (J 8) (je J) m t k else (if nI 9 < m + t then nI 1 else nI 0)) (nI 0) (nI 1)
def sKind (J : Nat → Nat → Int32) (k : Nat) : Nat := nN (J 1 k)
def sLasts (J : Nat → Nat → Int32) (k : Nat) : Int32 := sLasting (sKind J k) (sLastsBy J (J 3 k) (J 2 k) (sTired J)) (J 0 8) (J 2 k) (J 3 k)
def sBack (J : Nat → Nat → Int32) (k : Nat) : Int32 := sBackOf (sKind J k) (sLasts J k)
def sErrs (J : Nat → Nat → Int32) (k : Nat) : Int32 := sErrsBy J (J 2 k) (sTired J) (J 1 k)
def sDone (J : Nat → Nat → Int32) (k : Nat) : Bool := sBit (J 0 6) (nI k)
def sReady (J : Nat → Nat → Int32) (k : Nat) : Bool := decide ((J 4 k &&& (J 0 6 ^^^ (-1))) = 0) && !decide (J 0 9 < J 3 k)
def sMayDo (J : Nat → Nat → Int32) (k : Nat) : Bool := decide (k < jn J) && !sDone J k && sReady J k && !decide (J 0 8 < sHands (sKind J k))
theorem sDp_cong {f g : Nat → Int32} : ∀ {n : Nat}, (∀ i, i < n → f i = g i) → sDp f n = sDp g n
  | 0, _ => rfl
  | n + 1, h => by
    unfold sDp
    rw [sDp_cong (fun i hi => h i (by omega)), h n (by omega)]
theorem sEv_cong {f g : Nat → Int32} {a b c : Int32} : ∀ {n : Nat}, (∀ i, i < n → f i = g i) → sEv f a b c n = sEv g a b c n
  | 0, _ => rfl
  | n + 1, h => by
    unfold sEv
    rw [sEv_cong (fun i hi => h i (by omega)), h n (by omega)]
theorem sVl_cong {f g : Nat → Int32} {a b c : Int32} {n : Nat} (h : ∀ i, i < n → f i = g i) : sVl f n a b c = sVl g n a b c := by
  unfold sVl
  rw [sEv_cong h]
theorem wfC_cong {f g : Nat → Int32} {n : Nat} (h : ∀ i, i < n → f i = g i) (hw : wfC f n) : wfC g n := by
  obtain ⟨h1, h2, h3⟩ := hw
  refine ⟨h1, fun h0 => by rw [← sDp_cong h]; exact h2 h0, fun i hi => ?_⟩
  rw [← h i hi, ← sDp_cong (fun j hj => h j (by omega))]
  exact h3 i hi
theorem tx5 {b : Nat} (hb : jb b) : tx (b + 5) := by rcases hb with rfl | rfl | rfl <;> simp [tx]
theorem tx8 {b : Nat} (hb : jb b) : tx (b + 8) := by rcases hb with rfl | rfl | rfl <;> simp [tx]
theorem min_max_held {v a b : Int32} (hab : ¬ b < a) : (if a < (if v < b then v else b) then (if v < b then v else b) else a) = sHeld v a b := by
  unfold sHeld
  simp only [Int32.lt_iff_toInt_lt] at *
  by_cases h1 : v.toInt < a.toInt
  · rw [if_pos h1, if_pos (show v.toInt < b.toInt by omega), if_neg (by omega)]
  · rw [if_neg h1]
    by_cases h2 : b.toInt < v.toInt
    · rw [if_pos h2, if_neg (show ¬ v.toInt < b.toInt by omega)]
      by_cases h3 : a.toInt < b.toInt
      · rw [if_pos h3]
      · rw [if_neg h3]; exact Int32.toInt_inj.mp (by omega)
    · rw [if_neg h2]
      by_cases h4 : v.toInt < b.toInt
      · rw [if_pos h4]
        by_cases h3 : a.toInt < v.toInt
        · rw [if_pos h3]
        · rw [if_neg h3]; exact Int32.toInt_inj.mp (by omega)
      · rw [if_neg h4]
        by_cases h3 : a.toInt < b.toInt
        · rw [if_pos h3]; exact Int32.toInt_inj.mp (by omega)
        · rw [if_neg h3]; exact Int32.toInt_inj.mp (by omega)
set_option maxRecDepth 100000 in
set_option maxHeartbeats 4000000 in
theorem l_has (d : Nat) {b : Nat} (hb : jb b) (X Z : Nat → Nat → Int32) (s : Int32) : EC (d + 1) 33 [.ref b, .int s] (Wd X Z) (PI (bI (!decide (s < 0) && decide (s < X b 1))) (Wd X Z)) := by
  refine er_enter (L := [(0, _), (1, _)]) rfl rfl rfl ?_
  refine er_loc (pc' := 1) rfl rfl rfl ?_
  refine er_if_lt (pc' := 4) rfl rfl (fun h1 => ?_) (fun h1 => ?_)
  · refine er_k (pc' := 17) (nI 0) rfl rfl rfl ?_
    refine er_ret _ rfl rfl ?_
    exact PI_of (bI_eq0 (by simp [*]))
  · refine er_loc (pc' := 5) rfl rfl rfl ?_
    refine er_loc (pc' := 6) rfl rfl rfl ?_
    refine er_gf (pc' := 9) (_) rfl (blt_J hb 0 rfl) (cO_J0 hb _ _) rfl rfl ?_
    refine er_cm_ge (pc' := 12) rfl rfl (fun h9 => ?_) (fun h9 => ?_)
    · refine er_k (pc' := 17) (nI 0) rfl rfl rfl ?_
      refine er_ret _ rfl rfl ?_
      exact PI_of (bI_eq0 (by simp [*]))
    · refine er_k (pc' := 13) (nI 1) rfl rfl rfl ?_
      refine er_goto rfl ?_
      refine er_ret _ rfl rfl ?_
      exact PI_of (bI_eq1 (by simp [*]))
theorem l_has_t (d : Nat) {b : Nat} (hb : jb b) (X Z : Nat → Nat → Int32) {T k : Nat} (hI : IJ T (jx X b)) (hk : k < jn (jx X b)) : EC (d + 1) 33 [.ref b, .int (nI k)] (Wd X Z) (PI (bI true) (Wd X Z)) := by
  have h := l_has d hb X Z (nI k)
  have h8 := hI.n
  have h9 : jn (jx X b) ≤ 8 := h8.2
  have e : (!decide (nI k < 0) && decide (nI k < X b 1)) = true := by
    have e1 : X b 1 = nI (jn (jx X b)) := h8.1
    rw [e1, decide_eq_false (nI_pos (by omega)), decide_eq_true (nI_lt hk (by omega))]
    rfl
  rw [e] at h
  exact h
theorem l_has_f (d : Nat) {b : Nat} (hb : jb b) (X Z : Nat → Nat → Int32) {T k : Nat} (hI : IJ T (jx X b)) (hk : ¬ k < jn (jx X b)) (h100 : k < 100) : EC (d + 1) 33 [.ref b, .int (nI k)] (Wd X Z) (PI (bI false) (Wd X Z)) := by
  have h := l_has d hb X Z (nI k)
  have h8 := hI.n
  have e : (!decide (nI k < 0) && decide (nI k < X b 1)) = false := by
    have e1 : X b 1 = nI (jn (jx X b)) := h8.1
    have h9 := h8.2
    rw [e1, decide_eq_false (nI_nlt (a := k) (b := jn (jx X b)) (by omega) (by omega))]
    simp
  rw [e] at h
  exact h
set_option maxRecDepth 100000 in
set_option maxHeartbeats 4000000 in
theorem l_isDone (d : Nat) {b : Nat} (hb : jb b) (X Z : Nat → Nat → Int32) (k : Int32) : EC (d + 2) 34 [.ref b, .int k] (Wd X Z) (PI (bI (sBit (X b 6) k)) (Wd X Z)) := by
  refine er_enter (L := [(0, _), (1, _)]) rfl rfl rfl ?_
  refine er_loc (pc' := 1) rfl rfl rfl ?_
  refine er_gf (pc' := 4) (_) rfl (blt_J hb 0 rfl) (cO_J0 hb _ _) rfl rfl ?_
  refine er_loc (pc' := 5) rfl rfl rfl ?_
  refine er_cSi (pc' := 8) (rest := []) rfl rfl rfl (l_isIn _ _ _ _) ?_
  refine er_zret rfl rfl ?_
  exact PI_of rfl
set_option maxRecDepth 100000 in
set_option maxHeartbeats 4000000 in
theorem l_isWrong (d : Nat) {b : Nat} (hb : jb b) (X Z : Nat → Nat → Int32) (k : Int32) : EC (d + 2) 35 [.ref b, .int k] (Wd X Z) (PI (bI (sBit (X b 7) k)) (Wd X Z)) := by
  refine er_enter (L := [(0, _), (1, _)]) rfl rfl rfl ?_
  refine er_loc (pc' := 1) rfl rfl rfl ?_
  refine er_gf (pc' := 4) (_) rfl (blt_J hb 0 rfl) (cO_J0 hb _ _) rfl rfl ?_
  refine er_loc (pc' := 5) rfl rfl rfl ?_
  refine er_cSi (pc' := 8) (rest := []) rfl rfl rfl (l_isIn _ _ _ _) ?_
  refine er_zret rfl rfl ?_
  exact PI_of rfl
set_option maxRecDepth 100000 in
set_option maxHeartbeats 4000000 in
theorem l_tired (d : Nat) {b : Nat} (hb : jb b) (X Z : Nat → Nat → Int32) : EC (d + 1) 37 [.ref b] (Wd X Z) (PI (sTired (jx X b)) (Wd X Z)) := by
  refine er_enter (L := [(0, _)]) rfl rfl rfl ?_
  refine er_k (pc' := 2) (nI 9) rfl rfl rfl ?_
  refine er_loc (pc' := 3) rfl rfl rfl ?_
  refine er_gf (pc' := 6) (_) rfl (blt_J hb 0 rfl) (cO_J0 hb _ _) rfl rfl ?_
  refine er_k (pc' := 8) (nI 30) rfl rfl rfl ?_
  refine er_idiv (pc' := 9) rfl rfl (by decide) ?_
  refine er_min (pc' := 12) rfl rfl rfl rfl ?_
  refine er_iret rfl rfl ?_
  exact PI_of rfl
theorem wf6 {T b : Nat} {X : Nat → Nat → Int32} (hI : IJ T (jx X b)) : wfC (X (b + 5 + 1)) (jl (jx X b)) := wfC_cong (fun _ hi => jx6 hi) hI.tl.2
theorem wf8 {T b : Nat} {X : Nat → Nat → Int32} (hI : IJ T (jx X b)) : wfC (X (b + 8 + 1)) (je (jx X b)) := wfC_cong (fun _ hi => jx8 hi) hI.te.2
theorem vl6 {b : Nat} {X : Nat → Nat → Int32} {p q r : Int32} : sVl (X (b + 5 + 1)) (jl (jx X b)) p q r = sVl (jx X b 6) (jl (jx X b)) p q r := sVl_cong (fun _ hi => (jx6 hi).symm)
theorem vl8 {b : Nat} {X : Nat → Nat → Int32} {p q r : Int32} : sVl (X (b + 8 + 1)) (je (jx X b)) p q r = sVl (jx X b 8) (je (jx X b)) p q r := sVl_cong (fun _ hi => (jx8 hi).symm)
set_option maxRecDepth 100000 in
set_option maxHeartbeats 4000000 in
theorem l_lastsBy (d : Nat) {b : Nat} (hb : jb b) (X Z : Nat → Nat → Int32) {T : Nat} (hI : IJ T (jx X b)) (p q r : Int32) : EC (d + 3) 38 [.ref b, .int p, .int q, .int r] (Wd X Z) (RI (sLastsBy (jx X b) p q r) X) := by
  refine er_enter (L := [(0, _), (1, _), (2, _), (3, _)]) rfl rfl rfl ?_
  refine er_loc (pc' := 1) rfl rfl rfl ?_
  refine er_gf (pc' := 4) (_) rfl (blt_J hb 0 rfl) (cO_J0 hb _ _) rfl rfl ?_
  refine er_cIi (pc' := 7) (rest := []) 8 rfl rfl rfl (blt_J hb 5 rfl) (cO_J5 hb _ _) rfl (l_isGiven _ (tx5 hb) _ _ (jl (jx X b)) hI.tl.1.1 hI.tl.1.2) ?_
  refine er_if_eqb (pc' := 10) rfl rfl (fun h7 => ?_) (fun h7 => ?_)
  · refine er_k (pc' := 24) (nI 1) rfl rfl rfl ?_
    refine er_loc (pc' := 25) rfl rfl rfl ?_
    refine er_iadd (pc' := 26) rfl rfl ?_
    refine er_loc (pc' := 27) rfl rfl rfl ?_
    refine er_iadd (pc' := 28) rfl rfl ?_
    refine er_loc (pc' := 30) (L' := [(4, _), (0, _), (1, _), (2, _), (3, _)]) rfl rfl rfl ?_
    refine er_k (pc' := 31) (nI 1) rfl rfl rfl ?_
    refine er_k (pc' := 33) (nI 99) rfl rfl rfl ?_
    refine er_loc (pc' := 35) rfl rfl rfl ?_
    refine er_min (pc' := 38) rfl rfl rfl rfl ?_
    refine er_max (pc' := 41) rfl rfl rfl rfl ?_
    refine er_iret rfl rfl ?_
    refine RI_of ?_ rfl
    rw [min_max_held (by decide +kernel)]
    unfold sLastsBy
    first | rw [if_pos (of_decide_eq_true h7), vl6] | rw [if_neg (of_decide_eq_false h7)]
  · refine er_loc (pc' := 11) rfl rfl rfl ?_
    refine er_gf (pc' := 14) (_) rfl (blt_J hb 0 rfl) (cO_J0 hb _ _) rfl rfl ?_
    refine er_loc (pc' := 15) rfl rfl rfl ?_
    refine er_loc (pc' := 16) rfl rfl rfl ?_
    refine er_loc (pc' := 17) rfl rfl rfl ?_
    refine er_cIz (pc' := 20) (rest := []) 8 rfl rfl rfl (blt_J hb 5 rfl) (cO_J5 hb _ _) rfl (l_workedOut _ (tx5 hb) _ _ _ _ _ (jl (jx X b)) hI.tl.1.1 (wf6 hI) (of_decide_eq_true h7)) ?_
    intro Z1
    refine er_goto rfl ?_
    refine er_loc (pc' := 30) (L' := [(4, _), (0, _), (1, _), (2, _), (3, _)]) rfl rfl rfl ?_
    refine er_k (pc' := 31) (nI 1) rfl rfl rfl ?_
    refine er_k (pc' := 33) (nI 99) rfl rfl rfl ?_
    refine er_loc (pc' := 35) rfl rfl rfl ?_
    refine er_min (pc' := 38) rfl rfl rfl rfl ?_
    refine er_max (pc' := 41) rfl rfl rfl rfl ?_
    refine er_iret rfl rfl ?_
    refine RI_of ?_ rfl
    rw [min_max_held (by decide +kernel)]
    unfold sLastsBy
    first | rw [if_pos (of_decide_eq_true h7), vl6] | rw [if_neg (of_decide_eq_false h7)]
set_option maxRecDepth 100000 in
set_option maxHeartbeats 4000000 in
theorem l_errsBy (d : Nat) {b : Nat} (hb : jb b) (X Z : Nat → Nat → Int32) {T : Nat} (hI : IJ T (jx X b)) (p q r : Int32) : EC (d + 3) 43 [.ref b, .int p, .int q, .int r] (Wd X Z) (RI (sErrsBy (jx X b) p q r) X) := by
  refine er_enter (L := [(0, _), (1, _), (2, _), (3, _)]) rfl rfl rfl ?_
  refine er_loc (pc' := 1) rfl rfl rfl ?_
  refine er_gf (pc' := 4) (_) rfl (blt_J hb 0 rfl) (cO_J0 hb _ _) rfl rfl ?_
  refine er_cIi (pc' := 7) (rest := []) 8 rfl rfl rfl (blt_J hb 8 rfl) (cO_J8 hb _ _) rfl (l_isGiven _ (tx8 hb) _ _ (je (jx X b)) hI.te.1.1 hI.te.1.2) ?_
  refine er_if_eqb (pc' := 10) rfl rfl (fun h7 => ?_) (fun h7 => ?_)
  · refine er_loc (pc' := 30) rfl rfl rfl ?_
    refine er_loc (pc' := 31) rfl rfl rfl ?_
    refine er_iadd (pc' := 32) rfl rfl ?_
    refine er_k (pc' := 34) (nI 9) rfl rfl rfl ?_
    refine er_cm_le (pc' := 37) rfl rfl (fun h34 => ?_) (fun h34 => ?_)
    · refine er_k (pc' := 42) (nI 0) rfl rfl rfl ?_
      refine er_iret rfl rfl ?_
      refine RI_of ?_ rfl
      unfold sErrsBy
      rw [if_neg (of_decide_eq_false h7)]
      first | rw [if_pos h34] | rw [if_neg h34]
      decide +kernel
    · refine er_k (pc' := 38) (nI 1) rfl rfl rfl ?_
      refine er_goto rfl ?_
      refine er_iret rfl rfl ?_
      refine RI_of ?_ rfl
      unfold sErrsBy
      rw [if_neg (of_decide_eq_false h7)]
      first | rw [if_pos h34] | rw [if_neg h34]
      decide +kernel
  · refine er_k (pc' := 11) (nI 0) rfl rfl rfl ?_
    refine er_k (pc' := 12) (nI 1) rfl rfl rfl ?_
    refine er_loc (pc' := 13) rfl rfl rfl ?_
    refine er_gf (pc' := 16) (_) rfl (blt_J hb 0 rfl) (cO_J0 hb _ _) rfl rfl ?_
    refine er_loc (pc' := 17) rfl rfl rfl ?_
    refine er_loc (pc' := 18) rfl rfl rfl ?_
    refine er_loc (pc' := 19) rfl rfl rfl ?_
    refine er_cIz (pc' := 22) (rest := [_, _]) 8 rfl rfl rfl (blt_J hb 8 rfl) (cO_J8 hb _ _) rfl (l_workedOut _ (tx8 hb) _ _ _ _ _ (je (jx X b)) hI.te.1.1 (wf8 hI) (of_decide_eq_true h7)) ?_
    intro Z1
    refine er_min (pc' := 25) rfl rfl rfl rfl ?_
    refine er_max (pc' := 28) rfl rfl rfl rfl ?_
    refine er_iret rfl rfl ?_
    refine RI_of ?_ rfl
    rw [min_max_held (by decide +kernel)]
    unfold sErrsBy
    rw [if_pos (of_decide_eq_true h7), vl8]
end
section
/-! JOBS: kinds, how long, what may be -/
theorem jn8 {T : Nat} {J : Nat → Nat → Int32} (hI : IJ T J) : jn J ≤ 8 := hI.n.2
theorem kind7 {T : Nat} {J : Nat → Nat → Int32} (hI : IJ T J) (k : Nat) : sKind J k < 7 := Nat.lt_succ_of_le (hI.kind k).2
theorem kindX {T b k : Nat} {X : Nat → Nat → Int32} (hI : IJ T (jx X b)) (h : k < 8) : X (b + 1) k = nI (sKind (jx X b) k) := by
  rw [← jx1 (X := X) h]
  exact (hI.kind k).1
theorem sIn_nI {a b c : Nat} (ha : a < 2 ^ 31) (hb : b < 2 ^ 31) (hc : c < 2 ^ 31) : sIn (nI a) (nI b) (nI c) = (decide (b ≤ a) && decide (a ≤ c)) := by
  unfold sIn
  have e1 : decide (nI a < nI b) = decide (a < b) := decide_eq_decide.mpr (nI_ltI ha hb)
  have e2 : decide (nI c < nI a) = decide (c < a) := decide_eq_decide.mpr (nI_ltI hc ha)
  rw [e1, e2]
  simp only [← decide_not, Nat.not_lt]
set_option maxRecDepth 100000 in
set_option maxHeartbeats 4000000 in
theorem l_kindOf (d : Nat) {b : Nat} (hb : jb b) (X Z : Nat → Nat → Int32) {T : Nat} (hI : IJ T (jx X b)) {k : Nat} (hk : k < jn (jx X b)) : EC (d + 2) 39 [.ref b, .int (nI k)] (Wd X Z) (PR (2 + sKind (jx X b) k) (Wd X Z)) := by
  refine er_enter (L := [(0, _), (1, _)]) rfl rfl rfl ?_
  have h8 := jn8 hI
  have hk8 : k < 8 := by omega
  have hq := kind7 hI k
  refine er_loc (pc' := 1) rfl rfl rfl ?_
  refine er_loc (pc' := 2) rfl rfl rfl ?_
  refine er_cIi (pc' := 5) (rest := []) 7 rfl rfl rfl (blt_J hb 0 rfl) (cO_J0 hb _ _) rfl (l_has_t _ hb _ _ hI hk) ?_
  refine er_if_eqF (pc' := 8) rfl (by decide +kernel) rfl ?_
  refine er_loc (pc' := 9) rfl rfl rfl ?_
  refine er_gf (pc' := 12) (_) rfl (blt_J hb 0 rfl) (cO_J0 hb _ _) rfl rfl ?_
  refine er_loc (pc' := 13) rfl rfl rfl ?_
  refine er_ia (pc' := 14) (k) rfl (blt_J hb 1 rfl) (cO_J1 hb _ _) rfl (by omega) rfl rfl ?_
  rw [kindX hI hk8]
  refine er_goto rfl ?_
  refine er_loc (pc' := 19) (L' := [(2, _), (0, _), (1, _)]) rfl rfl rfl ?_
  refine er_loc (pc' := 20) rfl rfl rfl ?_
  refine er_gf (pc' := 23) (_) rfl (blt_J hb 0 rfl) (cO_J0 hb _ _) rfl rfl ?_
  refine er_loc (pc' := 24) rfl rfl rfl ?_
  refine er_k (pc' := 25) (nI 0) rfl rfl rfl ?_
  refine er_loc (pc' := 26) rfl rfl rfl ?_
  refine er_gf (pc' := 29) (_) rfl (blt_J hb 0 rfl) (cO_J0 hb _ _) rfl rfl ?_
  refine er_alq (pc' := 30) rfl rfl rfl rfl rfl ?_
  refine er_k (pc' := 31) (nI 1) rfl rfl rfl ?_
  refine er_isub (pc' := 32) rfl rfl ?_
  refine er_cSi (pc' := 35) (rest := [_]) rfl rfl rfl (l_within _ _ _ _ _) ?_
  rw [show nI 7 - nI 1 = nI 6 from by decide +kernel, sIn_nI (by omega) (by omega) (by omega), decide_eq_true (Nat.zero_le _), decide_eq_true (show sKind (jx X b) k ≤ 6 by omega)]
  refine er_if_eqF (pc' := 38) rfl (by decide +kernel) rfl ?_
  refine er_loc (pc' := 39) rfl rfl rfl ?_
  refine er_goto rfl ?_
  refine er_aa (pc' := 44) ((sKind (jx X b) k)) rfl rfl rfl rfl rfl hq rfl rfl ?_
  refine er_ret _ rfl rfl ?_
  exact rfl
set_option maxRecDepth 100000 in
set_option maxHeartbeats 4000000 in
theorem l_lasts (d : Nat) {b : Nat} (hb : jb b) (X Z : Nat → Nat → Int32) {T : Nat} (hI : IJ T (jx X b)) {k : Nat} (hk : k < jn (jx X b)) : EC (d + 4) 36 [.ref b, .int (nI k)] (Wd X Z) (RI (sLasts (jx X b) k) X) := by
  refine er_enter (L := [(0, _), (1, _)]) rfl rfl rfl ?_
  have h8 := jn8 hI
  have hk8 : k < 8 := by omega
  have hq := kind7 hI k
  refine er_loc (pc' := 1) rfl rfl rfl ?_
  refine er_loc (pc' := 2) rfl rfl rfl ?_
  refine er_cIi (pc' := 5) (rest := []) 7 rfl rfl rfl (blt_J hb 0 rfl) (cO_J0 hb _ _) rfl (l_has_t _ hb _ _ hI hk) ?_
  refine er_if_neT rfl (by decide +kernel) ?_
  refine er_loc (pc' := 11) rfl rfl rfl ?_
  refine er_loc (pc' := 12) rfl rfl rfl ?_
  refine er_gf (pc' := 15) (_) rfl (blt_J hb 0 rfl) (cO_J0 hb _ _) rfl rfl ?_
  refine er_loc (pc' := 16) rfl rfl rfl ?_
  refine er_ia (pc' := 17) (k) rfl (blt_J hb 3 rfl) (cO_J3 hb _ _) rfl (by omega) rfl rfl ?_
  refine er_loc (pc' := 18) rfl rfl rfl ?_
  refine er_gf (pc' := 21) (_) rfl (blt_J hb 0 rfl) (cO_J0 hb _ _) rfl rfl ?_
  refine er_loc (pc' := 22) rfl rfl rfl ?_
  refine er_ia (pc' := 23) (k) rfl (blt_J hb 2 rfl) (cO_J2 hb _ _) rfl (by omega) rfl rfl ?_
  refine er_loc (pc' := 24) rfl rfl rfl ?_
  refine er_cIi (pc' := 27) (rest := [_, _, _]) 7 rfl rfl rfl (blt_J hb 0 rfl) (cO_J0 hb _ _) rfl (l_tired _ hb _ _) ?_
  refine er_cIz (pc' := 30) (rest := []) 7 rfl rfl rfl (blt_J hb 0 rfl) (cO_J0 hb _ _) rfl (l_lastsBy _ hb _ _ hI _ _ _) ?_
  intro Z1
  refine er_loc (pc' := 31) (L' := [(2, _), (0, _), (1, _)]) rfl rfl rfl ?_
  refine er_loc (pc' := 32) rfl rfl rfl ?_
  refine er_loc (pc' := 33) rfl rfl rfl ?_
  refine er_cIr (pc' := 36) (rest := []) 7 rfl rfl rfl (blt_J hb 0 rfl) (cO_J0 hb _ _) rfl (l_kindOf _ hb _ _ hI hk) ?_
  refine er_loc (pc' := 37) rfl rfl rfl ?_
  refine er_loc (pc' := 38) rfl rfl rfl ?_
  refine er_gf (pc' := 41) (_) rfl (blt_J hb 0 rfl) (cO_J0 hb _ _) rfl rfl ?_
  refine er_loc (pc' := 42) rfl rfl rfl ?_
  refine er_gf (pc' := 45) (_) rfl (blt_J hb 0 rfl) (cO_J0 hb _ _) rfl rfl ?_
  refine er_loc (pc' := 46) rfl rfl rfl ?_
  refine er_ia (pc' := 47) (k) rfl (blt_J hb 2 rfl) (cO_J2 hb _ _) rfl (by omega) rfl rfl ?_
  refine er_loc (pc' := 48) rfl rfl rfl ?_
  refine er_gf (pc' := 51) (_) rfl (blt_J hb 0 rfl) (cO_J0 hb _ _) rfl rfl ?_
  refine er_loc (pc' := 52) rfl rfl rfl ?_
  refine er_ia (pc' := 53) (k) rfl (blt_J hb 3 rfl) (cO_J3 hb _ _) rfl (by omega) rfl rfl ?_
  refine er_cIi (pc' := 56) (rest := []) (sKind (jx X b) k) rfl rfl (by rcases lt7 hq with e | e | e | e | e | e | e <;> rw [e] <;> rfl) (blt_S hq) (cO_S hq _ _) rfl (l_lasting _ _ _ _ _ _ _ _ hq) ?_
  refine er_iret rfl rfl ?_
  refine RI_of ?_ rfl
  unfold sLasts
  rw [jx2 hk8, jx3 hk8]
  rfl
set_option maxRecDepth 100000 in
set_option maxHeartbeats 4000000 in
theorem l_takesBack (d : Nat) {b : Nat} (hb : jb b) (X Z : Nat → Nat → Int32) {T : Nat} (hI : IJ T (jx X b)) {k : Nat} (hk : k < jn (jx X b)) : EC (d + 5) 40 [.ref b, .int (nI k)] (Wd X Z) (RI (sBack (jx X b) k) X) := by
  refine er_enter (L := [(0, _), (1, _)]) rfl rfl rfl ?_
  have h8 := jn8 hI
  have hk8 : k < 8 := by omega
  have hq := kind7 hI k
  refine er_loc (pc' := 1) rfl rfl rfl ?_
  refine er_loc (pc' := 2) rfl rfl rfl ?_
  refine er_cIr (pc' := 5) (rest := []) 7 rfl rfl rfl (blt_J hb 0 rfl) (cO_J0 hb _ _) rfl (l_kindOf _ hb _ _ hI hk) ?_
  refine er_loc (pc' := 6) rfl rfl rfl ?_
  refine er_loc (pc' := 7) rfl rfl rfl ?_
  refine er_cIz (pc' := 10) (rest := [_]) 7 rfl rfl rfl (blt_J hb 0 rfl) (cO_J0 hb _ _) rfl (l_lasts _ hb _ _ hI hk) ?_
  intro Z2
  refine er_cIi (pc' := 13) (rest := []) (sKind (jx X b) k) rfl rfl (by rcases lt7 hq with e | e | e | e | e | e | e <;> rw [e] <;> rfl) (blt_S hq) (cO_S hq _ _) rfl (l_backOf _ _ _ _ hq) ?_
  refine er_iret rfl rfl ?_
  exact RI_of rfl rfl
set_option maxRecDepth 100000 in
set_option maxHeartbeats 4000000 in
theorem l_mayBeDone (d : Nat) {b : Nat} (hb : jb b) (X Z : Nat → Nat → Int32) {T : Nat} (hI : IJ T (jx X b)) {k : Nat} (hk : k < jn (jx X b)) : EC (d + 3) 41 [.ref b, .int (nI k)] (Wd X Z) (PI (bI (sMayDo (jx X b) k)) (Wd X Z)) := by
  refine er_enter (L := [(0, _), (1, _)]) rfl rfl rfl ?_
  have h8 := jn8 hI
  have hk8 : k < 8 := by omega
  have hq := kind7 hI k
  refine er_loc (pc' := 1) rfl rfl rfl ?_
  refine er_loc (pc' := 2) rfl rfl rfl ?_
  refine er_cIi (pc' := 5) (rest := []) 7 rfl rfl rfl (blt_J hb 0 rfl) (cO_J0 hb _ _) rfl (l_has_t _ hb _ _ hI hk) ?_
  refine er_if_eqF (pc' := 8) rfl (by decide +kernel) rfl ?_
  refine er_loc (pc' := 9) rfl rfl rfl ?_
  refine er_loc (pc' := 10) rfl rfl rfl ?_
  refine er_cIi (pc' := 13) (rest := []) 7 rfl rfl rfl (blt_J hb 0 rfl) (cO_J0 hb _ _) rfl (l_isDone _ hb _ _ _) ?_
  refine er_if_eqb (pc' := 16) rfl rfl (fun h13 => ?_) (fun h13 => ?_)
  · refine er_loc (pc' := 19) rfl rfl rfl ?_
    refine er_gf (pc' := 22) (_) rfl (blt_J hb 0 rfl) (cO_J0 hb _ _) rfl rfl ?_
    refine er_loc (pc' := 23) rfl rfl rfl ?_
    refine er_ia (pc' := 24) (k) rfl (blt_J hb 4 rfl) (cO_J4 hb _ _) rfl (by omega) rfl rfl ?_
    refine er_loc (pc' := 25) rfl rfl rfl ?_
    refine er_gf (pc' := 28) (_) rfl (blt_J hb 0 rfl) (cO_J0 hb _ _) rfl rfl ?_
    refine er_k (pc' := 29) (-1) rfl rfl rfl ?_
    refine er_ixor (pc' := 30) rfl rfl ?_
    refine er_iand (pc' := 31) rfl rfl ?_
    refine er_if_ne (pc' := 34) rfl rfl (fun h31 => ?_) (fun h31 => ?_)
    · refine er_k (pc' := 52) (nI 0) rfl rfl rfl ?_
      refine er_loc (pc' := 53) (L' := [(2, _), (0, _), (1, _)]) rfl rfl rfl ?_
      refine er_loc (pc' := 54) rfl rfl rfl ?_
      refine er_if_eqT rfl (by decide +kernel) ?_
      refine er_k (pc' := 77) (nI 0) rfl rfl rfl ?_
      refine er_ret _ rfl rfl ?_
      exact PI_of (bI_eq0 (by simp only [sMayDo, sReady, sDone, jx4 hk8, jx3 hk8, jx06, jx09, jx08]; simp_all))
    · refine er_loc (pc' := 35) rfl rfl rfl ?_
      refine er_gf (pc' := 38) (_) rfl (blt_J hb 0 rfl) (cO_J0 hb _ _) rfl rfl ?_
      refine er_loc (pc' := 39) rfl rfl rfl ?_
      refine er_gf (pc' := 42) (_) rfl (blt_J hb 0 rfl) (cO_J0 hb _ _) rfl rfl ?_
      refine er_loc (pc' := 43) rfl rfl rfl ?_
      refine er_ia (pc' := 44) (k) rfl (blt_J hb 3 rfl) (cO_J3 hb _ _) rfl (by omega) rfl rfl ?_
      refine er_cm_lt (pc' := 47) rfl rfl (fun h44 => ?_) (fun h44 => ?_)
      · refine er_k (pc' := 52) (nI 0) rfl rfl rfl ?_
        refine er_loc (pc' := 53) (L' := [(2, _), (0, _), (1, _)]) rfl rfl rfl ?_
        refine er_loc (pc' := 54) rfl rfl rfl ?_
        refine er_if_eqT rfl (by decide +kernel) ?_
        refine er_k (pc' := 77) (nI 0) rfl rfl rfl ?_
        refine er_ret _ rfl rfl ?_
        exact PI_of (bI_eq0 (by simp only [sMayDo, sReady, sDone, jx4 hk8, jx3 hk8, jx06, jx09, jx08]; simp_all))
      · refine er_k (pc' := 48) (nI 1) rfl rfl rfl ?_
        refine er_goto rfl ?_
        refine er_loc (pc' := 53) (L' := [(2, _), (0, _), (1, _)]) rfl rfl rfl ?_
        refine er_loc (pc' := 54) rfl rfl rfl ?_
        refine er_if_eqF (pc' := 57) rfl (by decide +kernel) rfl ?_
        refine er_loc (pc' := 58) rfl rfl rfl ?_
        refine er_gf (pc' := 61) (_) rfl (blt_J hb 0 rfl) (cO_J0 hb _ _) rfl rfl ?_
        refine er_loc (pc' := 62) rfl rfl rfl ?_
        refine er_loc (pc' := 63) rfl rfl rfl ?_
        refine er_cIr (pc' := 66) (rest := [_]) 7 rfl rfl rfl (blt_J hb 0 rfl) (cO_J0 hb _ _) rfl (l_kindOf _ hb _ _ hI hk) ?_
        refine er_cIi (pc' := 69) (rest := [_]) (sKind (jx X b) k) rfl rfl (by rcases lt7 hq with e | e | e | e | e | e | e <;> rw [e] <;> rfl) (blt_S hq) (cO_S hq _ _) rfl (l_handsOf _ _ _ hq) ?_
        refine er_cm_lt (pc' := 72) rfl rfl (fun h69 => ?_) (fun h69 => ?_)
        · refine er_k (pc' := 77) (nI 0) rfl rfl rfl ?_
          refine er_ret _ rfl rfl ?_
          exact PI_of (bI_eq0 (by simp only [sMayDo, sReady, sDone, jx4 hk8, jx3 hk8, jx06, jx09, jx08]; simp_all))
        · refine er_k (pc' := 73) (nI 1) rfl rfl rfl ?_
          refine er_goto rfl ?_
          refine er_ret _ rfl rfl ?_
          exact PI_of (bI_eq1 (by simp only [sMayDo, sReady, sDone, jx4 hk8, jx3 hk8, jx06, jx09, jx08]; rw [decide_eq_true hk, h13, decide_eq_true h31, decide_eq_false h44, decide_eq_false h69]; rfl))
  · refine er_k (pc' := 17) (nI 0) rfl rfl rfl ?_
    refine er_ret _ rfl rfl ?_
    exact PI_of (bI_eq0 (by simp only [sMayDo, sReady, sDone, jx4 hk8, jx3 hk8, jx06, jx09, jx08]; simp_all))
end
section
/-! JOBS: what is needed, what rests on it, doing and undoing -/
def sNeed (J : Nat → Nat → Int32) (k : Nat) : Nat → Bool
  | 0 => false
  | i + 1 => sNeed J k i || (decide (k < i) && sDone J i && sBit (J 4 i) (nI k))
def sMayUn (J : Nat → Nat → Int32) (k : Nat) : Bool := decide (k < jn J) && sDone J k && !sNever (sKind J k) && !sNeed J k (jn J)
def sRest (J : Nat → Nat → Int32) (k : Nat) : Nat → Int32
  | 0 => nI 0
  | i + 1 => if k < i then sWith (sRest J k i) (nI i) (!decide ((J 4 i &&& sWith (sRest J k i) (nI k) true) = 0) && sDone J i) else sRest J k i
def sSum (J : Nat → Nat → Int32) (s : Int32) : Nat → Int32
  | 0 => nI 0
  | i + 1 => sSum J s i + (if sBit s (nI i) = true then J 3 i else nI 0)
def sFirst (J : Nat → Nat → Int32) : Nat → Nat → Option Nat
  | 0, _ => none
  | m + 1, i => if sMayDo J i = true then some i else sFirst J m (i + 1)
def fI (q : Option Nat) : Int32 := match q with
  | none => -1
  | some k => nI k
theorem sNeed_low {J : Nat → Nat → Int32} {k : Nat} : ∀ {i : Nat}, i ≤ k + 1 → sNeed J k i = false
  | 0, _ => rfl
  | i + 1, h => by
    unfold sNeed
    rw [sNeed_low (by omega), decide_eq_false (by omega)]
    rfl
theorem sRest_low {J : Nat → Nat → Int32} {k : Nat} : ∀ {i : Nat}, i ≤ k + 1 → sRest J k i = nI 0
  | 0, _ => rfl
  | i + 1, h => by
    unfold sRest
    rw [if_neg (by omega), sRest_low (by omega)]
set_option maxRecDepth 100000 in
set_option maxHeartbeats 4000000 in
theorem l_mbu_loop (d : Nat) {b : Nat} (hb : jb b) (X Z : Nat → Nat → Int32) {T : Nat} (hI : IJ T (jx X b)) {k : Nat} (hk : k < jn (jx X b)) : ∀ (m i : Nat) (x v : Int32), i + m = jn (jx X b) → k < i → x = nI i → v = bI (sNeed (jx X b) k i) → ER (d + 2) tb_m42 35 [(0, .ref b), (1, .int (nI k)), (2, .int v), (3, .int x)] [] (Wd X Z) (PI (bI (!sNeed (jx X b) k (jn (jx X b)))) (Wd X Z))
  | 0, i, x, v, hi, hki, hx, hv => by
    have h8 := jn8 hI
    have hi : i = jn (jx X b) := by omega
    subst hx
    subst hv
    subst hi
    refine er_loc (pc' := 36) rfl rfl rfl ?_
    refine er_loc (pc' := 37) rfl rfl rfl ?_
    refine er_gf (pc' := 40) (_) rfl (blt_J hb 0 rfl) (cO_J0 hb _ _) rfl rfl ?_
    rw [show X b 1 = nI (jn (jx X b)) from hI.n.1]
    refine er_cm_geT rfl (nI_nlt (by omega) (by omega)) ?_
    refine er_loc (pc' := 81) rfl rfl rfl ?_
    refine er_if_neb (pc' := 84) rfl rfl (fun h81 => ?_) (fun h81 => ?_)
    · refine er_k (pc' := 89) (nI 0) rfl rfl rfl ?_
      refine er_ret _ rfl rfl ?_
      exact PI_of (bI_eq0 (by simp [*]))
    · refine er_k (pc' := 85) (nI 1) rfl rfl rfl ?_
      refine er_goto rfl ?_
      refine er_ret _ rfl rfl ?_
      exact PI_of (bI_eq1 (by simp [*]))
  | m + 1, i, x, v, hi, hki, hx, hv => by
    have h8 := jn8 hI
    have hi8 : i < 8 := by omega
    subst hx
    subst hv
    refine er_loc (pc' := 36) rfl rfl rfl ?_
    refine er_loc (pc' := 37) rfl rfl rfl ?_
    refine er_gf (pc' := 40) (_) rfl (blt_J hb 0 rfl) (cO_J0 hb _ _) rfl rfl ?_
    rw [show X b 1 = nI (jn (jx X b)) from hI.n.1]
    refine er_cm_geF (pc' := 43) rfl (nI_lt (by omega) (by omega)) rfl ?_
    refine er_loc (pc' := 44) rfl rfl rfl ?_
    refine er_if_neb (pc' := 47) rfl rfl (fun h44 => ?_) (fun h44 => ?_)
    · refine er_k (pc' := 69) (nI 1) rfl rfl rfl ?_
      refine er_goto rfl ?_
      refine er_loc (L' := [(2, _), (0, _), (1, _), (3, _)]) rfl rfl rfl ?_
      refine er_loc (L' := [(3, .int (_ + nI 1)), (2, _), (0, _), (1, _)]) rfl rfl rfl ?_
      refine er_goto rfl ?_
      refine ER_loc [(0, _), (1, _), (2, _), (3, _)] rfl (List.forall_mem_cons.mpr ⟨rfl, List.forall_mem_cons.mpr ⟨rfl, List.forall_mem_cons.mpr ⟨rfl, List.forall_mem_cons.mpr ⟨rfl, fun _ h => absurd h List.not_mem_nil⟩⟩⟩⟩) rfl rfl ?_
      refine l_mbu_loop d hb X Z hI hk m (i + 1) _ _ (by omega) (by omega) (nI_add i 1) (bI_eq1 ?_)
      simp only [sNeed, sDone, jx4 hi8, jx06]
      simp [*]
    · refine er_loc (pc' := 48) rfl rfl rfl ?_
      refine er_loc (pc' := 49) rfl rfl rfl ?_
      refine er_cIi (pc' := 52) (rest := []) 7 rfl rfl rfl (blt_J hb 0 rfl) (cO_J0 hb _ _) rfl (l_isDone _ hb _ _ _) ?_
      refine er_if_eqb (pc' := 55) rfl rfl (fun h52 => ?_) (fun h52 => ?_)
      · refine er_k (pc' := 73) (nI 0) rfl rfl rfl ?_
        refine er_loc (L' := [(2, _), (0, _), (1, _), (3, _)]) rfl rfl rfl ?_
        refine er_loc (L' := [(3, .int (_ + nI 1)), (2, _), (0, _), (1, _)]) rfl rfl rfl ?_
        refine er_goto rfl ?_
        refine ER_loc [(0, _), (1, _), (2, _), (3, _)] rfl (List.forall_mem_cons.mpr ⟨rfl, List.forall_mem_cons.mpr ⟨rfl, List.forall_mem_cons.mpr ⟨rfl, List.forall_mem_cons.mpr ⟨rfl, fun _ h => absurd h List.not_mem_nil⟩⟩⟩⟩) rfl rfl ?_
        refine l_mbu_loop d hb X Z hI hk m (i + 1) _ _ (by omega) (by omega) (nI_add i 1) (bI_eq0 ?_)
        simp only [sNeed, sDone, jx4 hi8, jx06]
        simp [*]
      · refine er_loc (pc' := 56) rfl rfl rfl ?_
        refine er_gf (pc' := 59) (_) rfl (blt_J hb 0 rfl) (cO_J0 hb _ _) rfl rfl ?_
        refine er_loc (pc' := 60) rfl rfl rfl ?_
        refine er_ia (pc' := 61) (i) rfl (blt_J hb 4 rfl) (cO_J4 hb _ _) rfl (by omega) rfl rfl ?_
        refine er_loc (pc' := 62) rfl rfl rfl ?_
        refine er_cSi (pc' := 65) (rest := []) rfl rfl rfl (l_isIn _ _ _ _) ?_
        refine er_if_eqb (pc' := 68) rfl rfl (fun h65 => ?_) (fun h65 => ?_)
        · refine er_k (pc' := 73) (nI 0) rfl rfl rfl ?_
          refine er_loc (L' := [(2, _), (0, _), (1, _), (3, _)]) rfl rfl rfl ?_
          refine er_loc (L' := [(3, .int (_ + nI 1)), (2, _), (0, _), (1, _)]) rfl rfl rfl ?_
          refine er_goto rfl ?_
          refine ER_loc [(0, _), (1, _), (2, _), (3, _)] rfl (List.forall_mem_cons.mpr ⟨rfl, List.forall_mem_cons.mpr ⟨rfl, List.forall_mem_cons.mpr ⟨rfl, List.forall_mem_cons.mpr ⟨rfl, fun _ h => absurd h List.not_mem_nil⟩⟩⟩⟩) rfl rfl ?_
          refine l_mbu_loop d hb X Z hI hk m (i + 1) _ _ (by omega) (by omega) (nI_add i 1) (bI_eq0 ?_)
          simp only [sNeed, sDone, jx4 hi8, jx06]
          simp [*]
        · refine er_k (pc' := 69) (nI 1) rfl rfl rfl ?_
          refine er_goto rfl ?_
          refine er_loc (L' := [(2, _), (0, _), (1, _), (3, _)]) rfl rfl rfl ?_
          refine er_loc (L' := [(3, .int (_ + nI 1)), (2, _), (0, _), (1, _)]) rfl rfl rfl ?_
          refine er_goto rfl ?_
          refine ER_loc [(0, _), (1, _), (2, _), (3, _)] rfl (List.forall_mem_cons.mpr ⟨rfl, List.forall_mem_cons.mpr ⟨rfl, List.forall_mem_cons.mpr ⟨rfl, List.forall_mem_cons.mpr ⟨rfl, fun _ h => absurd h List.not_mem_nil⟩⟩⟩⟩) rfl rfl ?_
          refine l_mbu_loop d hb X Z hI hk m (i + 1) _ _ (by omega) (by omega) (nI_add i 1) (bI_eq1 ?_)
          simp only [sNeed, sDone, jx4 hi8, jx06]
          simp [*]
set_option maxRecDepth 100000 in
set_option maxHeartbeats 4000000 in
theorem l_mayBeUndone (d : Nat) {b : Nat} (hb : jb b) (X Z : Nat → Nat → Int32) {T : Nat} (hI : IJ T (jx X b)) {k : Nat} (hk : k < jn (jx X b)) : EC (d + 3) 42 [.ref b, .int (nI k)] (Wd X Z) (PI (bI (sMayUn (jx X b) k)) (Wd X Z)) := by
  refine er_enter (L := [(0, _), (1, _)]) rfl rfl rfl ?_
  have h8 := jn8 hI
  have hk8 : k < 8 := by omega
  have hq := kind7 hI k
  refine er_loc (pc' := 1) rfl rfl rfl ?_
  refine er_loc (pc' := 2) rfl rfl rfl ?_
  refine er_cIi (pc' := 5) (rest := []) 7 rfl rfl rfl (blt_J hb 0 rfl) (cO_J0 hb _ _) rfl (l_has_t _ hb _ _ hI hk) ?_
  refine er_if_eqF (pc' := 8) rfl (by decide +kernel) rfl ?_
  refine er_loc (pc' := 9) rfl rfl rfl ?_
  refine er_loc (pc' := 10) rfl rfl rfl ?_
  refine er_cIi (pc' := 13) (rest := []) 7 rfl rfl rfl (blt_J hb 0 rfl) (cO_J0 hb _ _) rfl (l_isDone _ hb _ _ _) ?_
  refine er_if_eqb (pc' := 16) rfl rfl (fun h13 => ?_) (fun h13 => ?_)
  · refine er_k (pc' := 28) (nI 0) rfl rfl rfl ?_
    refine er_ret _ rfl rfl ?_
    exact PI_of (bI_eq0 (by simp only [sMayUn, sDone, jx06]; simp [*]))
  · refine er_loc (pc' := 17) rfl rfl rfl ?_
    refine er_loc (pc' := 18) rfl rfl rfl ?_
    refine er_cIr (pc' := 21) (rest := []) 7 rfl rfl rfl (blt_J hb 0 rfl) (cO_J0 hb _ _) rfl (l_kindOf _ hb _ _ hI hk) ?_
    refine er_cIi (pc' := 24) (rest := []) (sKind (jx X b) k) rfl rfl (by rcases lt7 hq with e | e | e | e | e | e | e <;> rw [e] <;> rfl) (blt_S hq) (cO_S hq _ _) rfl (l_neverOf _ _ _ hq) ?_
    refine er_if_eqb (pc' := 27) rfl rfl (fun h24 => ?_) (fun h24 => ?_)
    · refine er_k (pc' := 30) (nI 0) rfl rfl rfl ?_
      refine er_loc (pc' := 31) (L' := [(2, _), (0, _), (1, _)]) rfl rfl rfl ?_
      refine er_loc (pc' := 32) rfl rfl rfl ?_
      refine er_k (pc' := 33) (nI 1) rfl rfl rfl ?_
      refine er_iadd (pc' := 34) rfl rfl ?_
      refine er_loc (pc' := 35) (L' := [(3, _), (2, _), (0, _), (1, _)]) rfl rfl rfl ?_
      refine ER.mono (Q := PI (bI (sMayUn (jx X b) k)) (Wd X Z)) ?_ (fun _ h => h)
      have e : sMayUn (jx X b) k = !sNeed (jx X b) k (jn (jx X b)) := by
        simp only [sMayUn, sDone, jx06]
        simp [*]
      rw [e]
      refine ER_loc [(0, _), (1, _), (2, _), (3, _)] rfl (List.forall_mem_cons.mpr ⟨rfl, List.forall_mem_cons.mpr ⟨rfl, List.forall_mem_cons.mpr ⟨rfl, List.forall_mem_cons.mpr ⟨rfl, fun _ h => absurd h List.not_mem_nil⟩⟩⟩⟩) rfl rfl ?_
      exact l_mbu_loop d hb X Z hI hk (jn (jx X b) - (k + 1)) (k + 1) _ _ (by omega) (by omega) (nI_add k 1) (bI_eq0 (sNeed_low (Nat.le_refl _)))
    · refine er_k (pc' := 28) (nI 0) rfl rfl rfl ?_
      refine er_ret _ rfl rfl ?_
      exact PI_of (bI_eq0 (by simp only [sMayUn, sDone, jx06]; simp [*]))
set_option maxRecDepth 100000 in
set_option maxHeartbeats 4000000 in
theorem l_least_loop (d : Nat) {b : Nat} (hb : jb b) (X Z : Nat → Nat → Int32) {T : Nat} (hI : IJ T (jx X b)) : ∀ (m i : Nat) (x : Int32), i + m = jn (jx X b) → x = nI i → ER (d + 3) tb_m49 2 [(0, .ref b), (1, .int x)] [] (Wd X Z) (PI (fI (sFirst (jx X b) m i)) (Wd X Z))
  | 0, i, x, hi, hx => by
    have h8 := jn8 hI
    have hi : i = jn (jx X b) := by omega
    subst hx
    subst hi
    refine er_loc (pc' := 3) rfl rfl rfl ?_
    refine er_loc (pc' := 4) rfl rfl rfl ?_
    refine er_gf (pc' := 7) (_) rfl (blt_J hb 0 rfl) (cO_J0 hb _ _) rfl rfl ?_
    rw [show X b 1 = nI (jn (jx X b)) from hI.n.1]
    refine er_cm_geT rfl (nI_nlt (by omega) (by omega)) ?_
    refine er_k (pc' := 27) (-1) rfl rfl rfl ?_
    refine er_iret rfl rfl ?_
    exact PI_of rfl
  | m + 1, i, x, hi, hx => by
    have h8 := jn8 hI
    have hi8 : i < 8 := by omega
    subst hx
    refine er_loc (pc' := 3) rfl rfl rfl ?_
    refine er_loc (pc' := 4) rfl rfl rfl ?_
    refine er_gf (pc' := 7) (_) rfl (blt_J hb 0 rfl) (cO_J0 hb _ _) rfl rfl ?_
    rw [show X b 1 = nI (jn (jx X b)) from hI.n.1]
    refine er_cm_geF (pc' := 10) rfl (nI_lt (by omega) (by omega)) rfl ?_
    refine er_loc (pc' := 11) rfl rfl rfl ?_
    refine er_loc (pc' := 12) rfl rfl rfl ?_
    refine er_cIi (pc' := 15) (rest := []) 7 rfl rfl rfl (blt_J hb 0 rfl) (cO_J0 hb _ _) rfl (l_mayBeDone _ hb _ _ hI (k := i) (by omega)) ?_
    refine er_if_eqb (pc' := 18) rfl rfl (fun h15 => ?_) (fun h15 => ?_)
    · refine er_loc (pc' := 23) (L' := [(1, .int (_ + nI 1)), (0, _)]) rfl rfl rfl ?_
      refine er_goto rfl ?_
      refine ER_loc [(0, _), (1, _)] rfl (List.forall_mem_cons.mpr ⟨rfl, List.forall_mem_cons.mpr ⟨rfl, fun _ h => absurd h List.not_mem_nil⟩⟩) rfl rfl ?_
      have e : sFirst (jx X b) (m + 1) i = sFirst (jx X b) m (i + 1) := by
        show (if _ then _ else _) = _
        rw [if_neg (by rw [h15]; decide)]
      rw [e]
      exact l_least_loop d hb X Z hI m (i + 1) _ (by omega) (nI_add i 1)
    · refine er_loc (pc' := 19) rfl rfl rfl ?_
      refine er_iret rfl rfl ?_
      exact PI_of (by show nI i = fI (if _ then _ else _); rw [if_pos h15]; rfl)
set_option maxRecDepth 100000 in
set_option maxHeartbeats 4000000 in
theorem l_leastThatMay (d : Nat) {b : Nat} (hb : jb b) (X Z : Nat → Nat → Int32) {T : Nat} (hI : IJ T (jx X b)) : EC (d + 4) 49 [.ref b] (Wd X Z) (PI (fI (sFirst (jx X b) (jn (jx X b)) 0)) (Wd X Z)) := by
  refine er_enter (L := [(0, _)]) rfl rfl rfl ?_
  refine er_k (pc' := 1) (nI 0) rfl rfl rfl ?_
  refine er_loc (pc' := 2) (L' := [(1, _), (0, _)]) rfl rfl rfl ?_
  refine ER_loc [(0, _), (1, _)] rfl (List.forall_mem_cons.mpr ⟨rfl, List.forall_mem_cons.mpr ⟨rfl, fun _ h => absurd h List.not_mem_nil⟩⟩) rfl rfl ?_
  exact l_least_loop d hb X Z hI _ 0 _ (by omega) rfl
set_option maxRecDepth 100000 in
set_option maxHeartbeats 4000000 in
theorem l_rest_loop (d : Nat) {b : Nat} (hb : jb b) (X Z : Nat → Nat → Int32) {T : Nat} (hI : IJ T (jx X b)) {k : Nat} (hk : k < jn (jx X b)) : ∀ (m i : Nat) (x v : Int32), i + m = jn (jx X b) → k < i → x = nI i → v = sRest (jx X b) k i → ER (d + 2) tb_m52 6 [(0, .ref b), (1, .int (nI k)), (2, .int v), (3, .int x)] [] (Wd X Z) (PI (sRest (jx X b) k (jn (jx X b))) (Wd X Z))
  | 0, i, x, v, hi, hki, hx, hv => by
    have h8 := jn8 hI
    have hi : i = jn (jx X b) := by omega
    subst hx
    subst hv
    subst hi
    refine er_loc (pc' := 7) rfl rfl rfl ?_
    refine er_loc (pc' := 8) rfl rfl rfl ?_
    refine er_gf (pc' := 11) (_) rfl (blt_J hb 0 rfl) (cO_J0 hb _ _) rfl rfl ?_
    rw [show X b 1 = nI (jn (jx X b)) from hI.n.1]
    refine er_cm_geT rfl (nI_nlt (by omega) (by omega)) ?_
    refine er_loc (pc' := 68) rfl rfl rfl ?_
    refine er_iret rfl rfl ?_
    exact PI_of rfl
  | m + 1, i, x, v, hi, hki, hx, hv => by
    have h8 := jn8 hI
    have hi8 : i < 8 := by omega
    subst hx
    subst hv
    refine er_loc (pc' := 7) rfl rfl rfl ?_
    refine er_loc (pc' := 8) rfl rfl rfl ?_
    refine er_gf (pc' := 11) (_) rfl (blt_J hb 0 rfl) (cO_J0 hb _ _) rfl rfl ?_
    rw [show X b 1 = nI (jn (jx X b)) from hI.n.1]
    refine er_cm_geF (pc' := 14) rfl (nI_lt (by omega) (by omega)) rfl ?_
    refine er_loc (pc' := 15) rfl rfl rfl ?_
    refine er_gf (pc' := 18) (_) rfl (blt_J hb 0 rfl) (cO_J0 hb _ _) rfl rfl ?_
    refine er_loc (pc' := 19) rfl rfl rfl ?_
    refine er_ia (pc' := 20) (i) rfl (blt_J hb 4 rfl) (cO_J4 hb _ _) rfl (by omega) rfl rfl ?_
    refine er_loc (pc' := 21) rfl rfl rfl ?_
    refine er_loc (pc' := 22) rfl rfl rfl ?_
    refine er_k (pc' := 23) (nI 1) rfl rfl rfl ?_
    refine er_cSi (pc' := 26) (rest := [_]) rfl rfl rfl (l_with _ _ _ true _) ?_
    refine er_iand (pc' := 27) rfl rfl ?_
    refine er_if_eq (pc' := 30) rfl rfl (fun h27 => ?_) (fun h27 => ?_)
    · refine er_k (pc' := 35) (nI 0) rfl rfl rfl ?_
      refine er_loc (pc' := 37) (L' := [(4, _), (0, _), (1, _), (2, _), (3, _)]) rfl rfl rfl ?_
      refine er_loc (pc' := 38) rfl rfl rfl ?_
      refine er_loc (pc' := 39) rfl rfl rfl ?_
      refine er_loc (pc' := 41) rfl rfl rfl ?_
      refine er_if_eqT rfl (by decide +kernel) ?_
      refine er_k (pc' := 57) (nI 0) rfl rfl rfl ?_
      refine er_cSi (rest := []) rfl rfl rfl (l_with _ _ _ false _) ?_
      refine er_loc (L' := [(2, _), (4, _), (0, _), (1, _), (3, _)]) rfl rfl rfl ?_
      refine er_loc (L' := [(3, .int (_ + nI 1)), (2, _), (4, _), (0, _), (1, _)]) rfl rfl rfl ?_
      refine er_goto rfl ?_
      refine ER_loc [(0, _), (1, _), (2, _), (3, _)] rfl (List.forall_mem_cons.mpr ⟨rfl, List.forall_mem_cons.mpr ⟨rfl, List.forall_mem_cons.mpr ⟨rfl, List.forall_mem_cons.mpr ⟨rfl, fun _ h => absurd h List.not_mem_nil⟩⟩⟩⟩) rfl rfl ?_
      refine l_rest_loop d hb X Z hI hk m (i + 1) _ _ (by omega) (by omega) (nI_add i 1) ?_
      have e : (!decide ((jx X b 4 i &&& sWith (sRest (jx X b) k i) (nI k) true) = 0) && sDone (jx X b) i) = false := by
        simp only [sDone, jx4 hi8, jx06]
        simp [*]
      show sWith _ _ _ = (if _ then _ else _)
      rw [if_pos hki, e]
    · refine er_k (pc' := 31) (nI 1) rfl rfl rfl ?_
      refine er_goto rfl ?_
      refine er_loc (pc' := 37) (L' := [(4, _), (0, _), (1, _), (2, _), (3, _)]) rfl rfl rfl ?_
      refine er_loc (pc' := 38) rfl rfl rfl ?_
      refine er_loc (pc' := 39) rfl rfl rfl ?_
      refine er_loc (pc' := 41) rfl rfl rfl ?_
      refine er_if_eqF (pc' := 44) rfl (by decide +kernel) rfl ?_
      refine er_loc (pc' := 45) rfl rfl rfl ?_
      refine er_loc (pc' := 46) rfl rfl rfl ?_
      refine er_cIi (pc' := 49) (rest := [_, _]) 7 rfl rfl rfl (blt_J hb 0 rfl) (cO_J0 hb _ _) rfl (l_isDone _ hb _ _ _) ?_
      refine er_if_eqb (pc' := 52) rfl rfl (fun h49 => ?_) (fun h49 => ?_)
      · refine er_k (pc' := 57) (nI 0) rfl rfl rfl ?_
        refine er_cSi (rest := []) rfl rfl rfl (l_with _ _ _ false _) ?_
        refine er_loc (L' := [(2, _), (4, _), (0, _), (1, _), (3, _)]) rfl rfl rfl ?_
        refine er_loc (L' := [(3, .int (_ + nI 1)), (2, _), (4, _), (0, _), (1, _)]) rfl rfl rfl ?_
        refine er_goto rfl ?_
        refine ER_loc [(0, _), (1, _), (2, _), (3, _)] rfl (List.forall_mem_cons.mpr ⟨rfl, List.forall_mem_cons.mpr ⟨rfl, List.forall_mem_cons.mpr ⟨rfl, List.forall_mem_cons.mpr ⟨rfl, fun _ h => absurd h List.not_mem_nil⟩⟩⟩⟩) rfl rfl ?_
        refine l_rest_loop d hb X Z hI hk m (i + 1) _ _ (by omega) (by omega) (nI_add i 1) ?_
        have e : (!decide ((jx X b 4 i &&& sWith (sRest (jx X b) k i) (nI k) true) = 0) && sDone (jx X b) i) = false := by
          simp only [sDone, jx4 hi8, jx06]
          simp [*]
        show sWith _ _ _ = (if _ then _ else _)
        rw [if_pos hki, e]
      · refine er_k (pc' := 53) (nI 1) rfl rfl rfl ?_
        refine er_goto rfl ?_
        refine er_cSi (rest := []) rfl rfl rfl (l_with _ _ _ true _) ?_
        refine er_loc (L' := [(2, _), (4, _), (0, _), (1, _), (3, _)]) rfl rfl rfl ?_
        refine er_loc (L' := [(3, .int (_ + nI 1)), (2, _), (4, _), (0, _), (1, _)]) rfl rfl rfl ?_
        refine er_goto rfl ?_
        refine ER_loc [(0, _), (1, _), (2, _), (3, _)] rfl (List.forall_mem_cons.mpr ⟨rfl, List.forall_mem_cons.mpr ⟨rfl, List.forall_mem_cons.mpr ⟨rfl, List.forall_mem_cons.mpr ⟨rfl, fun _ h => absurd h List.not_mem_nil⟩⟩⟩⟩) rfl rfl ?_
        refine l_rest_loop d hb X Z hI hk m (i + 1) _ _ (by omega) (by omega) (nI_add i 1) ?_
        have e : (!decide ((jx X b 4 i &&& sWith (sRest (jx X b) k i) (nI k) true) = 0) && sDone (jx X b) i) = true := by
          simp only [sDone, jx4 hi8, jx06]
          simp [*]
        show sWith _ _ _ = (if _ then _ else _)
        rw [if_pos hki, e]
set_option maxRecDepth 100000 in
set_option maxHeartbeats 4000000 in
theorem l_restingOn (d : Nat) {b : Nat} (hb : jb b) (X Z : Nat → Nat → Int32) {T : Nat} (hI : IJ T (jx X b)) {k : Nat} (hk : k < jn (jx X b)) : EC (d + 3) 52 [.ref b, .int (nI k)] (Wd X Z) (PI (sRest (jx X b) k (jn (jx X b))) (Wd X Z)) := by
  refine er_enter (L := [(0, _), (1, _)]) rfl rfl rfl ?_
  refine er_k (pc' := 1) (nI 0) rfl rfl rfl ?_
  refine er_loc (pc' := 2) (L' := [(2, _), (0, _), (1, _)]) rfl rfl rfl ?_
  refine er_loc (pc' := 3) rfl rfl rfl ?_
  refine er_k (pc' := 4) (nI 1) rfl rfl rfl ?_
  refine er_iadd (pc' := 5) rfl rfl ?_
  refine er_loc (pc' := 6) (L' := [(3, _), (2, _), (0, _), (1, _)]) rfl rfl rfl ?_
  refine ER_loc [(0, _), (1, _), (2, _), (3, _)] rfl (List.forall_mem_cons.mpr ⟨rfl, List.forall_mem_cons.mpr ⟨rfl, List.forall_mem_cons.mpr ⟨rfl, List.forall_mem_cons.mpr ⟨rfl, fun _ h => absurd h List.not_mem_nil⟩⟩⟩⟩) rfl rfl ?_
  exact l_rest_loop d hb X Z hI hk (jn (jx X b) - (k + 1)) (k + 1) _ _ (by omega) (by omega) (nI_add k 1) (sRest_low (Nat.le_refl _)).symm
set_option maxRecDepth 100000 in
set_option maxHeartbeats 4000000 in
theorem l_sum_loop (d : Nat) {b : Nat} (hb : jb b) (X Z : Nat → Nat → Int32) {T : Nat} (hI : IJ T (jx X b)) (s : Int32) : ∀ (m i : Nat) (x v : Int32), i + m = jn (jx X b) → x = nI i → v = sSum (jx X b) s i → ER (d + 1) tb_m53 4 [(0, .ref b), (1, .int s), (2, .int v), (3, .int x)] [] (Wd X Z) (PI (sSum (jx X b) s (jn (jx X b))) (Wd X Z))
  | 0, i, x, v, hi, hx, hv => by
    have h8 := jn8 hI
    have hi : i = jn (jx X b) := by omega
    subst hx
    subst hv
    subst hi
    refine er_loc (pc' := 5) rfl rfl rfl ?_
    refine er_loc (pc' := 6) rfl rfl rfl ?_
    refine er_gf (pc' := 9) (_) rfl (blt_J hb 0 rfl) (cO_J0 hb _ _) rfl rfl ?_
    rw [show X b 1 = nI (jn (jx X b)) from hI.n.1]
    refine er_cm_geT rfl (nI_nlt (by omega) (by omega)) ?_
    refine er_loc (pc' := 40) rfl rfl rfl ?_
    refine er_iret rfl rfl ?_
    exact PI_of rfl
  | m + 1, i, x, v, hi, hx, hv => by
    have h8 := jn8 hI
    have hi8 : i < 8 := by omega
    subst hx
    subst hv
    refine er_loc (pc' := 5) rfl rfl rfl ?_
    refine er_loc (pc' := 6) rfl rfl rfl ?_
    refine er_gf (pc' := 9) (_) rfl (blt_J hb 0 rfl) (cO_J0 hb _ _) rfl rfl ?_
    rw [show X b 1 = nI (jn (jx X b)) from hI.n.1]
    refine er_cm_geF (pc' := 12) rfl (nI_lt (by omega) (by omega)) rfl ?_
    refine er_loc (pc' := 13) rfl rfl rfl ?_
    refine er_loc (pc' := 14) rfl rfl rfl ?_
    refine er_loc (pc' := 15) rfl rfl rfl ?_
    refine er_cSi (pc' := 18) (rest := [_]) rfl rfl rfl (l_isIn _ _ _ _) ?_
    refine er_if_eqb (pc' := 21) rfl rfl (fun h18 => ?_) (fun h18 => ?_)
    · refine er_k (pc' := 31) (nI 0) rfl rfl rfl ?_
      refine er_iadd rfl rfl ?_
      refine er_loc (L' := [(2, _), (0, _), (1, _), (3, _)]) rfl rfl rfl ?_
      refine er_loc (L' := [(3, .int (_ + nI 1)), (2, _), (0, _), (1, _)]) rfl rfl rfl ?_
      refine er_goto rfl ?_
      refine ER_loc [(0, _), (1, _), (2, _), (3, _)] rfl (List.forall_mem_cons.mpr ⟨rfl, List.forall_mem_cons.mpr ⟨rfl, List.forall_mem_cons.mpr ⟨rfl, List.forall_mem_cons.mpr ⟨rfl, fun _ h => absurd h List.not_mem_nil⟩⟩⟩⟩) rfl rfl ?_
      refine l_sum_loop d hb X Z hI s m (i + 1) _ _ (by omega) (nI_add i 1) ?_
      show _ = sSum _ _ _ + (if _ then _ else _)
      rw [if_neg (by rw [h18]; decide)]
    · refine er_loc (pc' := 22) rfl rfl rfl ?_
      refine er_gf (pc' := 25) (_) rfl (blt_J hb 0 rfl) (cO_J0 hb _ _) rfl rfl ?_
      refine er_loc (pc' := 26) rfl rfl rfl ?_
      refine er_ia (pc' := 27) (i) rfl (blt_J hb 3 rfl) (cO_J3 hb _ _) rfl (by omega) rfl rfl ?_
      refine er_goto rfl ?_
      refine er_iadd rfl rfl ?_
      refine er_loc (L' := [(2, _), (0, _), (1, _), (3, _)]) rfl rfl rfl ?_
      refine er_loc (L' := [(3, .int (_ + nI 1)), (2, _), (0, _), (1, _)]) rfl rfl rfl ?_
      refine er_goto rfl ?_
      refine ER_loc [(0, _), (1, _), (2, _), (3, _)] rfl (List.forall_mem_cons.mpr ⟨rfl, List.forall_mem_cons.mpr ⟨rfl, List.forall_mem_cons.mpr ⟨rfl, List.forall_mem_cons.mpr ⟨rfl, fun _ h => absurd h List.not_mem_nil⟩⟩⟩⟩) rfl rfl ?_
      refine l_sum_loop d hb X Z hI s m (i + 1) _ _ (by omega) (nI_add i 1) ?_
      show _ = sSum _ _ _ + (if _ then _ else _)
      rw [if_pos h18, jx3 hi8]
set_option maxRecDepth 100000 in
set_option maxHeartbeats 4000000 in
theorem l_screwsOf (d : Nat) {b : Nat} (hb : jb b) (X Z : Nat → Nat → Int32) {T : Nat} (hI : IJ T (jx X b)) (s : Int32) : EC (d + 2) 53 [.ref b, .int s] (Wd X Z) (PI (sSum (jx X b) s (jn (jx X b))) (Wd X Z)) := by
  refine er_enter (L := [(0, _), (1, _)]) rfl rfl rfl ?_
  refine er_k (pc' := 1) (nI 0) rfl rfl rfl ?_
  refine er_loc (pc' := 2) (L' := [(2, _), (0, _), (1, _)]) rfl rfl rfl ?_
  refine er_k (pc' := 3) (nI 0) rfl rfl rfl ?_
  refine er_loc (pc' := 4) (L' := [(3, _), (2, _), (0, _), (1, _)]) rfl rfl rfl ?_
  refine ER_loc [(0, _), (1, _), (2, _), (3, _)] rfl (List.forall_mem_cons.mpr ⟨rfl, List.forall_mem_cons.mpr ⟨rfl, List.forall_mem_cons.mpr ⟨rfl, List.forall_mem_cons.mpr ⟨rfl, fun _ h => absurd h List.not_mem_nil⟩⟩⟩⟩) rfl rfl ?_
  exact l_sum_loop d hb X Z hI s (jn (jx X b)) 0 _ _ (by omega) rfl rfl
def pop1 (x : Int32) : Int32 := x - ((x.toUInt32 >>> ((nI 1 : Int32).toUInt32 &&& Int32.toUInt32 31)).toInt32 &&& 1431655765)
def pop2 (x : Int32) : Int32 := (x &&& 858993459) + ((x.toUInt32 >>> ((nI 2 : Int32).toUInt32 &&& Int32.toUInt32 31)).toInt32 &&& 858993459)
def pop3 (x : Int32) : Int32 := x + (x.toUInt32 >>> ((nI 4 : Int32).toUInt32 &&& Int32.toUInt32 31)).toInt32 &&& 252645135
def pop4 (x : Int32) : Int32 := x + (x.toUInt32 >>> ((nI 8 : Int32).toUInt32 &&& Int32.toUInt32 31)).toInt32
def pop5 (x : Int32) : Int32 := x + (x.toUInt32 >>> ((nI 16 : Int32).toUInt32 &&& Int32.toUInt32 31)).toInt32
def sPop (x : Int32) : Int32 := pop5 (pop4 (pop3 (pop2 (pop1 x)))) &&& nI 63
def sOpen (J : Nat → Nat → Int32) : Int32 := J 0 1 - sPop (J 0 6)
set_option maxRecDepth 100000 in
set_option maxHeartbeats 4000000 in
theorem l_bitCount (d : Nat) (x : Int32) (w : ab_W) : EC (d + 1) 226 [.int x] w (PI (sPop x) w) := by
  refine er_enter (L := [(0, _)]) rfl rfl rfl ?_
  refine er_loc (pc' := 1) rfl rfl rfl ?_
  refine er_loc (pc' := 2) rfl rfl rfl ?_
  refine er_k (pc' := 3) (nI 1) rfl rfl rfl ?_
  refine er_iushr (pc' := 4) rfl rfl ?_
  refine er_ldc (pc' := 7) (1431655765) rfl rfl rfl rfl rfl ?_
  refine er_iand (pc' := 8) rfl rfl ?_
  refine er_isub (pc' := 9) rfl rfl ?_
  refine er_loc (pc' := 10) (L' := [(0, _)]) rfl rfl rfl ?_
  refine er_loc (pc' := 11) rfl rfl rfl ?_
  refine er_ldc (pc' := 14) (858993459) rfl rfl rfl rfl rfl ?_
  refine er_iand (pc' := 15) rfl rfl ?_
  refine er_loc (pc' := 16) rfl rfl rfl ?_
  refine er_k (pc' := 17) (nI 2) rfl rfl rfl ?_
  refine er_iushr (pc' := 18) rfl rfl ?_
  refine er_ldc (pc' := 21) (858993459) rfl rfl rfl rfl rfl ?_
  refine er_iand (pc' := 22) rfl rfl ?_
  refine er_iadd (pc' := 23) rfl rfl ?_
  refine er_loc (pc' := 24) (L' := [(0, _)]) rfl rfl rfl ?_
  refine er_loc (pc' := 25) rfl rfl rfl ?_
  refine er_loc (pc' := 26) rfl rfl rfl ?_
  refine er_k (pc' := 27) (nI 4) rfl rfl rfl ?_
  refine er_iushr (pc' := 28) rfl rfl ?_
  refine er_iadd (pc' := 29) rfl rfl ?_
  refine er_ldc (pc' := 32) (252645135) rfl rfl rfl rfl rfl ?_
  refine er_iand (pc' := 33) rfl rfl ?_
  refine er_loc (pc' := 34) (L' := [(0, _)]) rfl rfl rfl ?_
  refine er_loc (pc' := 35) rfl rfl rfl ?_
  refine er_loc (pc' := 36) rfl rfl rfl ?_
  refine er_k (pc' := 38) (nI 8) rfl rfl rfl ?_
  refine er_iushr (pc' := 39) rfl rfl ?_
  refine er_iadd (pc' := 40) rfl rfl ?_
  refine er_loc (pc' := 41) (L' := [(0, _)]) rfl rfl rfl ?_
  refine er_loc (pc' := 42) rfl rfl rfl ?_
  refine er_loc (pc' := 43) rfl rfl rfl ?_
  refine er_k (pc' := 45) (nI 16) rfl rfl rfl ?_
  refine er_iushr (pc' := 46) rfl rfl ?_
  refine er_iadd (pc' := 47) rfl rfl ?_
  refine er_loc (pc' := 48) (L' := [(0, _)]) rfl rfl rfl ?_
  refine er_loc (pc' := 49) rfl rfl rfl ?_
  refine er_k (pc' := 51) (nI 63) rfl rfl rfl ?_
  refine er_iand (pc' := 52) rfl rfl ?_
  refine er_iret rfl rfl ?_
  exact PI_of rfl
set_option maxRecDepth 100000 in
set_option maxHeartbeats 4000000 in
theorem l_howManyOpen (d : Nat) {b : Nat} (hb : jb b) (X Z : Nat → Nat → Int32) : EC (d + 2) 50 [.ref b] (Wd X Z) (PI (sOpen (jx X b)) (Wd X Z)) := by
  refine er_enter (L := [(0, _)]) rfl rfl rfl ?_
  refine er_loc (pc' := 1) rfl rfl rfl ?_
  refine er_gf (pc' := 4) (_) rfl (blt_J hb 0 rfl) (cO_J0 hb _ _) rfl rfl ?_
  refine er_loc (pc' := 5) rfl rfl rfl ?_
  refine er_gf (pc' := 8) (_) rfl (blt_J hb 0 rfl) (cO_J0 hb _ _) rfl rfl ?_
  refine er_cSi (pc' := 11) (rest := [_]) rfl rfl rfl (l_bitCount _ _ _) ?_
  refine er_isub (pc' := 12) rfl rfl ?_
  refine er_iret rfl rfl ?_
  exact PI_of rfl
end
section
/-! BITS of sets -/
theorem fin32 {k : Nat} (h : k < 32) {p : Nat → Prop} (hp : ∀ i : Fin 32, p i.val) : p k := hp ⟨k, h⟩
theorem sh1_bv {k : Nat} (h : k < 32) : (nI 1 <<< (nI k &&& 31)).toBitVec = BitVec.twoPow 32 k := fin32 (p := fun k => (nI 1 <<< (nI k &&& 31)).toBitVec = BitVec.twoPow 32 k) h (by decide +kernel)
theorem shn_bv {k : Nat} (h : k < 32) : ((nI k).toUInt32 &&& Int32.toUInt32 31).toBitVec = BitVec.ofNat 32 k := fin32 (p := fun k => ((nI k).toUInt32 &&& Int32.toUInt32 31).toBitVec = BitVec.ofNat 32 k) h (by decide +kernel)
theorem bt_lt {x : Int32} {i : Nat} (h : bt x i = true) : i < 32 := by
  unfold bt at h
  exact BitVec.lt_of_getLsbD h
theorem bt_ext {x y : Int32} (h : ∀ i, i < 32 → bt x i = bt y i) : x = y := by
  apply Int32.toBitVec_inj.mp
  exact BitVec.eq_of_getLsbD_eq (fun i hi => h i hi)
theorem bt_and (x y : Int32) (i : Nat) : bt (x &&& y) i = (bt x i && bt y i) := by
  unfold bt
  rw [Int32.toBitVec_and, BitVec.getLsbD_and]
theorem bt_or (x y : Int32) (i : Nat) : bt (x ||| y) i = (bt x i || bt y i) := by
  unfold bt
  rw [Int32.toBitVec_or, BitVec.getLsbD_or]
theorem bt_xor (x y : Int32) (i : Nat) : bt (x ^^^ y) i = (bt x i ^^ bt y i) := by
  unfold bt
  rw [Int32.toBitVec_xor, BitVec.getLsbD_xor]
theorem bt_m1 {i : Nat} (h : i < 32) : bt (-1) i = true := fin32 (p := fun i => bt (-1) i = true) h (by decide +kernel)
theorem bt_0 (i : Nat) : bt (nI 0) i = false := by
  unfold bt
  rw [show (nI 0).toBitVec = 0#32 from by decide +kernel, BitVec.getLsbD_zero]
theorem bt_one {k : Nat} (h : k < 32) (i : Nat) : bt (nI 1 <<< (nI k &&& 31)) i = decide (i = k) := by
  unfold bt
  rw [sh1_bv h, BitVec.getLsbD_twoPow]
  by_cases hk : i = k
  · subst hk; simp [h]
  · simp [hk, Ne.symm hk]
theorem bt_with {x : Int32} {k : Nat} {c : Bool} (h : k < 32) (i : Nat) : bt (sWith x (nI k) c) i = if i = k then c else bt x i := by
  unfold sWith
  cases c with
  | true =>
    simp only [cond_true]
    rw [bt_or, bt_one h]
    by_cases hk : i = k <;> simp [hk]
  | false =>
    simp only [cond_false]
    rw [bt_and, bt_xor, bt_one h]
    by_cases hk : i = k
    · subst hk
      rw [bt_m1 h]
      simp
    · by_cases hi : i < 32
      · rw [bt_m1 hi]
        simp [hk]
      · have e : bt x i = false := by
          cases hb : bt x i with
          | false => rfl
          | true => exact absurd (bt_lt hb) hi
        rw [e]
        simp [hk]
theorem nI1_and {x : Int32} : (x &&& nI 1 = nI 1) ↔ bt x 0 = true := by
  constructor
  · intro h
    have h1 : bt (x &&& nI 1) 0 = bt (nI 1) 0 := by rw [h]
    rw [bt_and, show bt (nI 1) 0 = true from by decide +kernel] at h1
    simpa using h1
  · intro h
    apply bt_ext
    intro i hi
    rw [bt_and]
    by_cases h0 : i = 0
    · subst h0; rw [h]; rfl
    · have e : bt (nI 1) i = false := by
        have h2 := bt_one (k := 0) (by omega) i
        rw [show nI 1 <<< (nI 0 &&& 31) = nI 1 from by decide +kernel] at h2
        rw [h2]
        exact decide_eq_false h0
      rw [e]
      simp
theorem sBit_bt {x : Int32} {k : Nat} (h : k < 32) : sBit x (nI k) = bt x k := by
  unfold sBit
  have e : ((x.toUInt32 >>> ((nI k).toUInt32 &&& Int32.toUInt32 31)).toInt32 &&& nI 1 = nI 1) ↔ bt x k = true := by
    rw [nI1_and]
    have e2 : bt (x.toUInt32 >>> ((nI k).toUInt32 &&& Int32.toUInt32 31)).toInt32 0 = bt x k := by
      unfold bt
      rw [show (x.toUInt32 >>> ((nI k).toUInt32 &&& Int32.toUInt32 31)).toInt32.toBitVec = (x.toUInt32 >>> ((nI k).toUInt32 &&& Int32.toUInt32 31)).toBitVec from rfl, UInt32.toBitVec_shiftRight, shn_bv h]
      rw [show x.toUInt32.toBitVec = x.toBitVec from rfl]
      rw [show (BitVec.ofNat 32 k % 32) = BitVec.ofNat 32 k from fin32 (p := fun k => (BitVec.ofNat 32 k % 32) = BitVec.ofNat 32 k) h (by decide +kernel)]
      rw [BitVec.ushiftRight_eq', BitVec.getLsbD_ushiftRight, BitVec.toNat_ofNat, Nat.mod_eq_of_lt (by omega)]
      rfl
    rw [e2]
  cases hb : bt x k with
  | true => exact decide_eq_true (e.mpr hb)
  | false => exact decide_eq_false (fun hh => by rw [e.mp hh] at hb; cases hb)
theorem sub_iff {x y : Int32} : (x &&& (y ^^^ (-1))) = 0 ↔ ∀ i, bt x i = true → bt y i = true := by
  constructor
  · intro h i hi
    have h1 : bt (x &&& (y ^^^ (-1))) i = bt (0 : Int32) i := by rw [h]
    rw [bt_and, bt_xor, hi, bt_m1 (bt_lt hi), show (0 : Int32) = nI 0 from by decide +kernel, bt_0] at h1
    cases hy : bt y i with
    | true => rfl
    | false => rw [hy] at h1; cases h1
  · intro h
    rw [show (0 : Int32) = nI 0 from by decide +kernel]
    apply bt_ext
    intro i hi
    rw [bt_and, bt_xor, bt_m1 hi, bt_0]
    cases hx : bt x i with
    | false => rfl
    | true => rw [h i hx]; rfl
theorem and_ne0 {x y : Int32} : ¬ (x &&& y) = 0 ↔ ∃ i, bt x i = true ∧ bt y i = true := by
  constructor
  · intro h
    apply Classical.byContradiction
    intro hn
    apply h
    rw [show (0 : Int32) = nI 0 from by decide +kernel]
    apply bt_ext
    intro i hi
    rw [bt_and, bt_0]
    cases hx : bt x i with
    | false => rfl
    | true =>
      cases hy : bt y i with
      | false => rfl
      | true => exact absurd ⟨i, hx, hy⟩ hn
  · rintro ⟨i, h1, h2⟩ h
    have h3 : bt (x &&& y) i = bt (0 : Int32) i := by rw [h]
    rw [bt_and, h1, h2, show (0 : Int32) = nI 0 from by decide +kernel, bt_0] at h3
    cases h3
theorem ud_at (X : Nat → Nat → Int32) (c k : Nat) (v : Int32) (i j : Nat) : ud X c k v i j = if i = c then (if j = k then v else X i j) else X i j := by
  unfold ud uc
  by_cases h : i = c
  · subst h; simp [u1]
  · simp [h]
theorem isN_iff {v : Int32} {B : Nat} (hB : B < 2 ^ 31) : isN v B ↔ ∃ n, n ≤ B ∧ v = nI n := by
  constructor
  · intro h; exact ⟨nN v, h.2, h.1⟩
  · rintro ⟨n, h1, rfl⟩; exact isN.of h1 hB
theorem isN.mono {v : Int32} {B C : Nat} (h : isN v B) (hBC : B ≤ C) : isN v C := ⟨h.1, Nat.le_trans h.2 hBC⟩
end
section
/-! JOBS: what changes them -/
theorem jx_ud0 {X : Nat → Nat → Int32} {b k : Nat} {v : Int32} (h : okF k = true) : jx (ud X b k v) b = ud (jx X b) 0 k v := by
  funext i j
  unfold jx
  simp only [ud_at]
  match i with
  | 0 =>
    by_cases hj : j = k
    · subst hj; simp [h]
    · simp [hj]
  | 1 => simp
  | 2 => simp
  | 3 => simp
  | 4 => simp
  | 5 => simp
  | 6 => simp
  | 7 => simp
  | 8 => simp
  | 9 => simp
  | 10 => simp
  | i + 11 => simp
theorem jx_ud1 {X : Nat → Nat → Int32} {b k : Nat} {v : Int32} (h : k < 8) : jx (ud X (b + 1) k v) b = ud (jx X b) 1 k v := by
  funext i j
  unfold jx
  simp only [ud_at]
  match i with
  | 0 => simp
  | 1 =>
    by_cases hj : j = k
    · subst hj; simp [h]
    · simp [hj]
  | 2 => simp
  | 3 => simp
  | 4 => simp
  | 5 => simp
  | 6 => simp
  | 7 => simp
  | 8 => simp
  | 9 => simp
  | 10 => simp
  | i + 11 => simp; try omega
theorem jx_ud2 {X : Nat → Nat → Int32} {b k : Nat} {v : Int32} (h : k < 8) : jx (ud X (b + 2) k v) b = ud (jx X b) 2 k v := by
  funext i j
  unfold jx
  simp only [ud_at]
  match i with
  | 0 => simp
  | 1 => simp
  | 2 =>
    by_cases hj : j = k
    · subst hj; simp [h]
    · simp [hj]
  | 3 => simp
  | 4 => simp
  | 5 => simp
  | 6 => simp
  | 7 => simp
  | 8 => simp
  | 9 => simp
  | 10 => simp
  | i + 11 => simp; try omega
theorem jx_ud3 {X : Nat → Nat → Int32} {b k : Nat} {v : Int32} (h : k < 8) : jx (ud X (b + 3) k v) b = ud (jx X b) 3 k v := by
  funext i j
  unfold jx
  simp only [ud_at]
  match i with
  | 0 => simp
  | 1 => simp
  | 2 => simp
  | 3 =>
    by_cases hj : j = k
    · subst hj; simp [h]
    · simp [hj]
  | 4 => simp
  | 5 => simp
  | 6 => simp
  | 7 => simp
  | 8 => simp
  | 9 => simp
  | 10 => simp
  | i + 11 => simp; try omega
theorem jx_ud4 {X : Nat → Nat → Int32} {b k : Nat} {v : Int32} (h : k < 8) : jx (ud X (b + 4) k v) b = ud (jx X b) 4 k v := by
  funext i j
  unfold jx
  simp only [ud_at]
  match i with
  | 0 => simp
  | 1 => simp
  | 2 => simp
  | 3 => simp
  | 4 =>
    by_cases hj : j = k
    · subst hj; simp [h]
    · simp [hj]
  | 5 => simp
  | 6 => simp
  | 7 => simp
  | 8 => simp
  | 9 => simp
  | 10 => simp
  | i + 11 => simp; try omega
theorem jx_off {X X' : Nat → Nat → Int32} {b : Nat} (h : ∀ c, b ≤ c → c ≤ b + 12 → X' c = X c) : jx X' b = jx X b := by
  funext i j
  unfold jx
  rw [h b (by omega) (by omega), h (b + 1) (by omega) (by omega), h (b + 2) (by omega) (by omega), h (b + 3) (by omega) (by omega), h (b + 4) (by omega) (by omega), h (b + 5) (by omega) (by omega), h (b + 6) (by omega) (by omega), h (b + 8) (by omega) (by omega), h (b + 9) (by omega) (by omega), h (b + 11) (by omega) (by omega), h (b + 12) (by omega) (by omega)]
section IJU
variable {T T' : Nat} {J : Nat → Nat → Int32} {v : Int32}
theorem IJ.uMin (h : IJ T J) (hv : isN v T') : IJ T' (ud J 0 10 v) := ⟨h.n, h.kind, h.m, h.sc, h.needs, h.done, h.wrong, h.hands, h.bag, hv, h.tl, h.te, h.fed, h.waits, h.tape⟩
theorem IJ.uBag (h : IJ T J) (hv : isN v 999) : IJ T (ud J 0 9 v) := ⟨h.n, h.kind, h.m, h.sc, h.needs, h.done, h.wrong, h.hands, hv, h.minute, h.tl, h.te, h.fed, h.waits, h.tape⟩
theorem IJ.uHands (h : IJ T J) (hv : v = nI 1 ∨ v = nI 2) : IJ T (ud J 0 8 v) := ⟨h.n, h.kind, h.m, h.sc, h.needs, h.done, h.wrong, hv, h.bag, h.minute, h.tl, h.te, h.fed, h.waits, h.tape⟩
theorem IJ.uDone (h : IJ T J) (hv : ∀ i, bt v i = true → i < jn J) : IJ T (ud J 0 6 v) := ⟨h.n, h.kind, h.m, h.sc, h.needs, hv, h.wrong, h.hands, h.bag, h.minute, h.tl, h.te, h.fed, h.waits, h.tape⟩
theorem IJ.uWrong (h : IJ T J) (hv : ∀ i, bt v i = true → i < jn J) : IJ T (ud J 0 7 v) := ⟨h.n, h.kind, h.m, h.sc, h.needs, h.done, hv, h.hands, h.bag, h.minute, h.tl, h.te, h.fed, h.waits, h.tape⟩
theorem IJ.uZ (h : IJ T J) : IJ T (ud J 0 17 v) := ⟨h.n, h.kind, h.m, h.sc, h.needs, h.done, h.wrong, h.hands, h.bag, h.minute, h.tl, h.te, h.fed, h.waits, h.tape⟩
theorem IJ.uFed (h : IJ T J) (hv : isN v 50) : IJ T (ud J 0 14 v) := ⟨h.n, h.kind, h.m, h.sc, h.needs, h.done, h.wrong, h.hands, h.bag, h.minute, h.tl, h.te, hv, h.waits, h.tape⟩
theorem IJ.uWaits (h : IJ T J) (hv : isN v 20) : IJ T (ud J 0 16 v) := ⟨h.n, h.kind, h.m, h.sc, h.needs, h.done, h.wrong, h.hands, h.bag, h.minute, h.tl, h.te, h.fed, hv, h.tape⟩
theorem u1_all {f : Nat → Int32} {k : Nat} {p : Int32 → Prop} (h : ∀ i, p (f i)) (hv : p v) : ∀ i, p (u1 f k v i) := by
  intro i
  unfold u1
  split
  · exact hv
  · exact h i
theorem IJ.uKind (h : IJ T J) {k : Nat} (hv : isN v 6) : IJ T (ud J 1 k v) := ⟨h.n, u1_all (p := fun x => isN x 6) h.kind hv, h.m, h.sc, h.needs, h.done, h.wrong, h.hands, h.bag, h.minute, h.tl, h.te, h.fed, h.waits, h.tape⟩
theorem IJ.uM (h : IJ T J) {k : Nat} (hv : isN v 9) : IJ T (ud J 2 k v) := ⟨h.n, h.kind, u1_all (p := fun x => isN x 9) h.m hv, h.sc, h.needs, h.done, h.wrong, h.hands, h.bag, h.minute, h.tl, h.te, h.fed, h.waits, h.tape⟩
theorem IJ.uSc (h : IJ T J) {k : Nat} (hv : isN v 9) : IJ T (ud J 3 k v) := ⟨h.n, h.kind, h.m, u1_all (p := fun x => isN x 9) h.sc hv, h.needs, h.done, h.wrong, h.hands, h.bag, h.minute, h.tl, h.te, h.fed, h.waits, h.tape⟩
theorem IJ.uNeeds (h : IJ T J) {k : Nat} (hv : ∀ i, bt v i = true → i < k) : IJ T (ud J 4 k v) := ⟨h.n, h.kind, h.m, h.sc, (by
  intro j i hi
  have e : ud J 4 k v 4 j = if j = k then v else J 4 j := rfl
  rw [e] at hi
  split at hi
  · rename_i hj; subst hj; exact hv i hi
  · exact h.needs j i hi), h.done, h.wrong, h.hands, h.bag, h.minute, h.tl, h.te, h.fed, h.waits, h.tape⟩
theorem IJ.uN (h : IJ T J) {n : Nat} (hn : n ≤ 8) (hge : jn J ≤ n) : IJ T (ud J 0 1 (nI n)) := ⟨isN.of hn (by omega), h.kind, h.m, h.sc, h.needs, (by
  intro i hi
  have e : jn (ud J 0 1 (nI n)) = n := nN_nI (by omega)
  have := h.done i hi
  rw [e]; omega), (by
  intro i hi
  have e : jn (ud J 0 1 (nI n)) = n := nN_nI (by omega)
  have := h.wrong i hi
  rw [e]; omega), h.hands, h.bag, h.minute, h.tl, h.te, h.fed, h.waits, h.tape⟩
theorem IJ.mono (h : IJ T J) (hT : T ≤ T') : IJ T' J := ⟨h.n, h.kind, h.m, h.sc, h.needs, h.done, h.wrong, h.hands, h.bag, h.minute.mono hT, h.tl, h.te, h.fed, h.waits, h.tape⟩
theorem bt_with_lt {x : Int32} {k n : Nat} {c : Bool} (hk : k < n) (hn : n ≤ 8) (h : ∀ i, bt x i = true → i < n) : ∀ i, bt (sWith x (nI k) c) i = true → i < n := by
  intro i hi
  rw [bt_with (by omega)] at hi
  split at hi
  · omega
  · exact h i hi
end IJU
def xPass (X : Nat → Nat → Int32) (b k : Nat) : Nat → Nat → Int32 := ud (ud (ud X b 10 (X b 10 + sLasts (jx X b) k)) b 9 (X b 9 - X (b + 3) k)) b 6 (sWith (X b 6) (nI k) true)
def jPass (J : Nat → Nat → Int32) (k : Nat) : Nat → Nat → Int32 := ud (ud (ud J 0 10 (J 0 10 + sLasts J k)) 0 9 (J 0 9 - J 3 k)) 0 6 (sWith (J 0 6) (nI k) true)
def xFin (X : Nat → Nat → Int32) (b k : Nat) : Nat → Nat → Int32 := xPass (ud X b 7 (sWith (X b 7) (nI k) (!decide (sErrs (jx X b) k = 0)))) b k
def jFin (J : Nat → Nat → Int32) (k : Nat) : Nat → Nat → Int32 := jPass (ud J 0 7 (sWith (J 0 7) (nI k) (!decide (sErrs J k = 0)))) k
def sGive (g s : Int32) : Int32 := if g + (if nI 0 < s - nI 1 then s - nI 1 else nI 0) < nI 999 then g + (if nI 0 < s - nI 1 then s - nI 1 else nI 0) else nI 999
def xApart (X : Nat → Nat → Int32) (b k : Nat) : Nat → Nat → Int32 := ud (ud (ud (ud X b 10 (X b 10 + sBack (jx X b) k)) b 9 (sGive (X b 9) (X (b + 3) k))) b 6 (sWith (X b 6) (nI k) false)) b 7 (sWith (X b 7) (nI k) false)
def jApart (J : Nat → Nat → Int32) (k : Nat) : Nat → Nat → Int32 := ud (ud (ud (ud J 0 10 (J 0 10 + sBack J k)) 0 9 (sGive (J 0 9) (J 3 k))) 0 6 (sWith (J 0 6) (nI k) false)) 0 7 (sWith (J 0 7) (nI k) false)
def xUnpass (X : Nat → Nat → Int32) (b k : Nat) (g t : Int32) : Nat → Nat → Int32 := ud (ud (ud X b 6 (sWith (X b 6) (nI k) false)) b 9 g) b 10 t
def jUnpass (J : Nat → Nat → Int32) (k : Nat) (g t : Int32) : Nat → Nat → Int32 := ud (ud (ud J 0 6 (sWith (J 0 6) (nI k) false)) 0 9 g) 0 10 t
theorem jx_xPass {X : Nat → Nat → Int32} {b k : Nat} (hk : k < 8) : jx (xPass X b k) b = jPass (jx X b) k := by
  unfold xPass jPass
  rw [jx_ud0 rfl, jx_ud0 rfl, jx_ud0 rfl, jx010, jx09, jx06, jx3 hk]
theorem jx_xFin {X : Nat → Nat → Int32} {b k : Nat} (hk : k < 8) : jx (xFin X b k) b = jFin (jx X b) k := by
  unfold xFin jFin
  rw [jx_xPass hk, jx_ud0 rfl, jx07]
theorem jx_xApart {X : Nat → Nat → Int32} {b k : Nat} (hk : k < 8) : jx (xApart X b k) b = jApart (jx X b) k := by
  unfold xApart jApart
  rw [jx_ud0 rfl, jx_ud0 rfl, jx_ud0 rfl, jx_ud0 rfl, jx010, jx09, jx06, jx07, jx3 hk]
theorem jx_xUnpass {X : Nat → Nat → Int32} {b k : Nat} {g t : Int32} : jx (xUnpass X b k g t) b = jUnpass (jx X b) k g t := by
  unfold xUnpass jUnpass
  rw [jx_ud0 rfl, jx_ud0 rfl, jx_ud0 rfl, jx06]
theorem xPass_off {X : Nat → Nat → Int32} {b k c : Nat} (h : c ≠ b) : xPass X b k c = X c := by
  unfold xPass
  rw [ud_ne h, ud_ne h, ud_ne h]
theorem xFin_off {X : Nat → Nat → Int32} {b k c : Nat} (h : c ≠ b) : xFin X b k c = X c := by
  unfold xFin
  rw [xPass_off h, ud_ne h]
theorem xApart_off {X : Nat → Nat → Int32} {b k c : Nat} (h : c ≠ b) : xApart X b k c = X c := by
  unfold xApart
  rw [ud_ne h, ud_ne h, ud_ne h, ud_ne h]
theorem xUnpass_off {X : Nat → Nat → Int32} {b k c : Nat} {g t : Int32} (h : c ≠ b) : xUnpass X b k g t c = X c := by
  unfold xUnpass
  rw [ud_ne h, ud_ne h, ud_ne h]
set_option maxRecDepth 100000 in
set_option maxHeartbeats 4000000 in
theorem l_pass (d : Nat) {b : Nat} (hb : jb b) (X Z : Nat → Nat → Int32) {T : Nat} (hI : IJ T (jx X b)) {k : Nat} (hk : k < jn (jx X b)) : EC (d + 5) 45 [.ref b, .int (nI k)] (Wd X Z) (RV (xPass X b k)) := by
  refine er_enter (L := [(0, _), (1, _)]) rfl rfl rfl ?_
  have h8 := jn8 hI
  have hk8 : k < 8 := by omega
  have hq := kind7 hI k
  refine er_loc (pc' := 1) rfl rfl rfl ?_
  refine er_loc (pc' := 2) rfl rfl rfl ?_
  refine er_cIi (pc' := 5) (rest := []) 7 rfl rfl rfl (blt_J hb 0 rfl) (cO_J0 hb _ _) rfl (l_has_t _ hb _ _ hI hk) ?_
  refine er_if_eqF (pc' := 8) rfl (by decide +kernel) rfl ?_
  refine er_loc (pc' := 9) rfl rfl rfl ?_
  refine er_pure (pc' := 10) rfl rfl rfl ?_
  refine er_gf (pc' := 13) (_) rfl (blt_J hb 0 rfl) (cO_J0 hb _ _) rfl rfl ?_
  refine er_loc (pc' := 14) rfl rfl rfl ?_
  refine er_loc (pc' := 15) rfl rfl rfl ?_
  refine er_cIz (pc' := 18) (rest := [_, _]) 7 rfl rfl rfl (blt_J hb 0 rfl) (cO_J0 hb _ _) rfl (l_lasts _ hb _ _ hI hk) ?_
  intro Z2
  refine er_iadd (pc' := 19) rfl rfl ?_
  refine er_pfIX (pc' := 22) 10 rfl (blt_J hb 0 rfl) (cO_J0 hb _ _) rfl (cO_J0 hb _ _) rfl ?_
  refine er_loc (pc' := 23) rfl rfl rfl ?_
  refine er_pure (pc' := 24) rfl rfl rfl ?_
  refine er_gf (pc' := 27) (_) rfl (blt_J hb 0 rfl) (cO_J0 hb _ _) rfl rfl ?_
  refine er_loc (pc' := 28) rfl rfl rfl ?_
  refine er_gf (pc' := 31) (_) rfl (blt_J hb 0 rfl) (cO_J0 hb _ _) rfl rfl ?_
  refine er_loc (pc' := 32) rfl rfl rfl ?_
  refine er_ia (pc' := 33) (k) rfl (blt_J hb 3 rfl) (cO_J3 hb _ _) rfl (by omega) rfl rfl ?_
  refine er_isub (pc' := 34) rfl rfl ?_
  refine er_pfIX (pc' := 37) 9 rfl (blt_J hb 0 rfl) (cO_J0 hb _ _) rfl (cO_J0 hb _ _) rfl ?_
  refine er_loc (pc' := 38) rfl rfl rfl ?_
  refine er_loc (pc' := 39) rfl rfl rfl ?_
  refine er_gf (pc' := 42) (_) rfl (blt_J hb 0 rfl) (cO_J0 hb _ _) rfl rfl ?_
  refine er_loc (pc' := 43) rfl rfl rfl ?_
  refine er_k (pc' := 44) (nI 1) rfl rfl rfl ?_
  refine er_cSi (pc' := 47) (rest := [_]) rfl rfl rfl (l_with _ _ _ true _) ?_
  refine er_pfIX (pc' := 50) 6 rfl (blt_J hb 0 rfl) (cO_J0 hb _ _) rfl (cO_J0 hb _ _) rfl ?_
  refine er_vret rfl rfl ?_
  exact RV_of (by simp [xPass, ud_at])
set_option maxRecDepth 100000 in
set_option maxHeartbeats 4000000 in
theorem l_finish (d : Nat) {b : Nat} (hb : jb b) (X Z : Nat → Nat → Int32) {T : Nat} (hI : IJ T (jx X b)) {k : Nat} (hk : k < jn (jx X b)) : EC (d + 6) 44 [.ref b, .int (nI k)] (Wd X Z) (RV (xFin X b k)) := by
  refine er_enter (L := [(0, _), (1, _)]) rfl rfl rfl ?_
  have h8 := jn8 hI
  have hk8 : k < 8 := by omega
  have hq := kind7 hI k
  refine er_loc (pc' := 1) rfl rfl rfl ?_
  refine er_loc (pc' := 2) rfl rfl rfl ?_
  refine er_cIi (pc' := 5) (rest := []) 7 rfl rfl rfl (blt_J hb 0 rfl) (cO_J0 hb _ _) rfl (l_has_t _ hb _ _ hI hk) ?_
  refine er_if_eqF (pc' := 8) rfl (by decide +kernel) rfl ?_
  refine er_loc (pc' := 9) rfl rfl rfl ?_
  refine er_loc (pc' := 10) rfl rfl rfl ?_
  refine er_gf (pc' := 13) (_) rfl (blt_J hb 0 rfl) (cO_J0 hb _ _) rfl rfl ?_
  refine er_loc (pc' := 14) rfl rfl rfl ?_
  refine er_ia (pc' := 15) (k) rfl (blt_J hb 2 rfl) (cO_J2 hb _ _) rfl (by omega) rfl rfl ?_
  refine er_loc (pc' := 16) rfl rfl rfl ?_
  refine er_cIi (pc' := 19) (rest := [_, _]) 7 rfl rfl rfl (blt_J hb 0 rfl) (cO_J0 hb _ _) rfl (l_tired _ hb _ _) ?_
  refine er_loc (pc' := 20) rfl rfl rfl ?_
  refine er_gf (pc' := 23) (_) rfl (blt_J hb 0 rfl) (cO_J0 hb _ _) rfl rfl ?_
  refine er_loc (pc' := 24) rfl rfl rfl ?_
  refine er_ia (pc' := 25) (k) rfl (blt_J hb 1 rfl) (cO_J1 hb _ _) rfl (by omega) rfl rfl ?_
  refine er_cIz (pc' := 28) (rest := []) 7 rfl rfl rfl (blt_J hb 0 rfl) (cO_J0 hb _ _) rfl (l_errsBy _ hb _ _ hI _ _ _) ?_
  intro Z1
  refine er_loc (pc' := 29) (L' := [(2, _), (0, _), (1, _)]) rfl rfl rfl ?_
  refine er_loc (pc' := 30) rfl rfl rfl ?_
  refine er_loc (pc' := 31) rfl rfl rfl ?_
  refine er_gf (pc' := 34) (_) rfl (blt_J hb 0 rfl) (cO_J0 hb _ _) rfl rfl ?_
  refine er_loc (pc' := 35) rfl rfl rfl ?_
  refine er_loc (pc' := 36) rfl rfl rfl ?_
  refine er_if_eq rfl rfl (fun h36 => ?_) (fun h36 => ?_)
  · refine er_k (pc' := 44) (nI 0) rfl rfl rfl ?_
    refine er_cSi (pc' := 47) (rest := [_]) rfl rfl rfl (l_with _ _ _ false _) ?_
    refine er_pfIX 7 rfl (blt_J hb 0 rfl) (cO_J0 hb _ _) rfl (cO_J0 hb _ _) rfl ?_
    refine er_loc (pc' := 51) rfl rfl rfl ?_
    refine er_loc (pc' := 52) rfl rfl rfl ?_
    have hI1 : IJ T (jx (ud X b 7 (sWith (X b 7) (nI k) false)) b) := by
      rw [jx_ud0 rfl]
      exact hI.uWrong (bt_with_lt hk h8 hI.wrong)
    have hk1 : k < jn (jx (ud X b 7 (sWith (X b 7) (nI k) false)) b) := by
      rw [jx_ud0 rfl]
      exact hk
    refine er_cIv (rest := []) 7 rfl rfl rfl (blt_J hb 0 rfl) (cO_J0 hb _ _) rfl (l_pass _ hb _ _ hI1 hk1) ?_
    intro Z3
    refine er_vret rfl rfl (RV_of ?_)
    unfold xFin
    rw [show (!decide (sErrs (jx X b) k = 0)) = false from by
      have e : sErrs (jx X b) k = sErrsBy (jx X b) (X (b + 2) k) (sTired (jx X b)) (X (b + 1) k) := by unfold sErrs; rw [jx2 hk8, jx1 hk8]
      rw [e]; simp [h36]]
  · refine er_k (pc' := 40) (nI 1) rfl rfl rfl ?_
    refine er_goto rfl ?_
    refine er_cSi (pc' := 47) (rest := [_]) rfl rfl rfl (l_with _ _ _ true _) ?_
    refine er_pfIX 7 rfl (blt_J hb 0 rfl) (cO_J0 hb _ _) rfl (cO_J0 hb _ _) rfl ?_
    refine er_loc (pc' := 51) rfl rfl rfl ?_
    refine er_loc (pc' := 52) rfl rfl rfl ?_
    have hI1 : IJ T (jx (ud X b 7 (sWith (X b 7) (nI k) true)) b) := by
      rw [jx_ud0 rfl]
      exact hI.uWrong (bt_with_lt hk h8 hI.wrong)
    have hk1 : k < jn (jx (ud X b 7 (sWith (X b 7) (nI k) true)) b) := by
      rw [jx_ud0 rfl]
      exact hk
    refine er_cIv (rest := []) 7 rfl rfl rfl (blt_J hb 0 rfl) (cO_J0 hb _ _) rfl (l_pass _ hb _ _ hI1 hk1) ?_
    intro Z3
    refine er_vret rfl rfl (RV_of ?_)
    unfold xFin
    rw [show (!decide (sErrs (jx X b) k = 0)) = true from by
      have e : sErrs (jx X b) k = sErrsBy (jx X b) (X (b + 2) k) (sTired (jx X b)) (X (b + 1) k) := by unfold sErrs; rw [jx2 hk8, jx1 hk8]
      rw [e]; simp [h36]]
set_option maxRecDepth 100000 in
set_option maxHeartbeats 4000000 in
theorem l_takeApart (d : Nat) {b : Nat} (hb : jb b) (X Z : Nat → Nat → Int32) {T : Nat} (hI : IJ T (jx X b)) {k : Nat} (hk : k < jn (jx X b)) : EC (d + 6) 46 [.ref b, .int (nI k)] (Wd X Z) (RV (xApart X b k)) := by
  refine er_enter (L := [(0, _), (1, _)]) rfl rfl rfl ?_
  have h8 := jn8 hI
  have hk8 : k < 8 := by omega
  have hq := kind7 hI k
  refine er_loc (pc' := 1) rfl rfl rfl ?_
  refine er_loc (pc' := 2) rfl rfl rfl ?_
  refine er_cIi (pc' := 5) (rest := []) 7 rfl rfl rfl (blt_J hb 0 rfl) (cO_J0 hb _ _) rfl (l_has_t _ hb _ _ hI hk) ?_
  refine er_if_eqF (pc' := 8) rfl (by decide +kernel) rfl ?_
  refine er_loc (pc' := 9) rfl rfl rfl ?_
  refine er_pure (pc' := 10) rfl rfl rfl ?_
  refine er_gf (pc' := 13) (_) rfl (blt_J hb 0 rfl) (cO_J0 hb _ _) rfl rfl ?_
  refine er_loc (pc' := 14) rfl rfl rfl ?_
  refine er_loc (pc' := 15) rfl rfl rfl ?_
  refine er_cIz (pc' := 18) (rest := [_, _]) 7 rfl rfl rfl (blt_J hb 0 rfl) (cO_J0 hb _ _) rfl (l_takesBack _ hb _ _ hI hk) ?_
  intro Z2
  refine er_iadd (pc' := 19) rfl rfl ?_
  refine er_pfIX (pc' := 22) 10 rfl (blt_J hb 0 rfl) (cO_J0 hb _ _) rfl (cO_J0 hb _ _) rfl ?_
  refine er_loc (pc' := 23) rfl rfl rfl ?_
  refine er_k (pc' := 26) (nI 999) rfl rfl rfl ?_
  refine er_loc (pc' := 27) rfl rfl rfl ?_
  refine er_gf (pc' := 30) (_) rfl (blt_J hb 0 rfl) (cO_J0 hb _ _) rfl rfl ?_
  refine er_k (pc' := 31) (nI 0) rfl rfl rfl ?_
  refine er_loc (pc' := 32) rfl rfl rfl ?_
  refine er_gf (pc' := 35) (_) rfl (blt_J hb 0 rfl) (cO_J0 hb _ _) rfl rfl ?_
  refine er_loc (pc' := 36) rfl rfl rfl ?_
  refine er_ia (pc' := 37) (k) rfl (blt_J hb 3 rfl) (cO_J3 hb _ _) rfl (by omega) rfl rfl ?_
  refine er_k (pc' := 38) (nI 1) rfl rfl rfl ?_
  refine er_isub (pc' := 39) rfl rfl ?_
  refine er_max (pc' := 42) rfl rfl rfl rfl ?_
  refine er_iadd (pc' := 43) rfl rfl ?_
  refine er_min (pc' := 46) rfl rfl rfl rfl ?_
  refine er_pfIX (pc' := 49) 9 rfl (blt_J hb 0 rfl) (cO_J0 hb _ _) rfl (cO_J0 hb _ _) rfl ?_
  refine er_loc (pc' := 50) rfl rfl rfl ?_
  refine er_loc (pc' := 51) rfl rfl rfl ?_
  refine er_gf (pc' := 54) (_) rfl (blt_J hb 0 rfl) (cO_J0 hb _ _) rfl rfl ?_
  refine er_loc (pc' := 55) rfl rfl rfl ?_
  refine er_k (pc' := 56) (nI 0) rfl rfl rfl ?_
  refine er_cSi (pc' := 59) (rest := [_]) rfl rfl rfl (l_with _ _ _ false _) ?_
  refine er_pfIX (pc' := 62) 6 rfl (blt_J hb 0 rfl) (cO_J0 hb _ _) rfl (cO_J0 hb _ _) rfl ?_
  refine er_loc (pc' := 63) rfl rfl rfl ?_
  refine er_loc (pc' := 64) rfl rfl rfl ?_
  refine er_gf (pc' := 67) (_) rfl (blt_J hb 0 rfl) (cO_J0 hb _ _) rfl rfl ?_
  refine er_loc (pc' := 68) rfl rfl rfl ?_
  refine er_k (pc' := 69) (nI 0) rfl rfl rfl ?_
  refine er_cSi (pc' := 72) (rest := [_]) rfl rfl rfl (l_with _ _ _ false _) ?_
  refine er_pfIX (pc' := 75) 7 rfl (blt_J hb 0 rfl) (cO_J0 hb _ _) rfl (cO_J0 hb _ _) rfl ?_
  refine er_vret rfl rfl ?_
  exact RV_of (by simp [xApart, sGive, ud_at])
set_option maxRecDepth 100000 in
set_option maxHeartbeats 4000000 in
theorem l_unpass (d : Nat) {b : Nat} (hb : jb b) (X Z : Nat → Nat → Int32) (k : Nat) (g t : Int32) : EC (d + 2) 51 [.ref b, .int (nI k), .int g, .int t] (Wd X Z) (RV (xUnpass X b k g t)) := by
  refine er_enter (L := [(0, _), (1, _), (2, _), (3, _)]) rfl rfl rfl ?_
  refine er_loc (pc' := 1) rfl rfl rfl ?_
  refine er_loc (pc' := 2) rfl rfl rfl ?_
  refine er_gf (pc' := 5) (_) rfl (blt_J hb 0 rfl) (cO_J0 hb _ _) rfl rfl ?_
  refine er_loc (pc' := 6) rfl rfl rfl ?_
  refine er_k (pc' := 7) (nI 0) rfl rfl rfl ?_
  refine er_cSi (pc' := 10) (rest := [_]) rfl rfl rfl (l_with _ _ _ false _) ?_
  refine er_pfIX (pc' := 13) 6 rfl (blt_J hb 0 rfl) (cO_J0 hb _ _) rfl (cO_J0 hb _ _) rfl ?_
  refine er_loc (pc' := 14) rfl rfl rfl ?_
  refine er_loc (pc' := 15) rfl rfl rfl ?_
  refine er_pfIX (pc' := 18) 9 rfl (blt_J hb 0 rfl) (cO_J0 hb _ _) rfl (cO_J0 hb _ _) rfl ?_
  refine er_loc (pc' := 19) rfl rfl rfl ?_
  refine er_loc (pc' := 20) rfl rfl rfl ?_
  refine er_pfIX (pc' := 23) 10 rfl (blt_J hb 0 rfl) (cO_J0 hb _ _) rfl (cO_J0 hb _ _) rfl ?_
  refine er_vret rfl rfl ?_
  exact RV_of (by simp [xUnpass, ud_at])
def sZ (z : Int32) : Int32 := z * 1103515245 + nI 12345
def sDraw (z : Int32) : Int32 := (z.toUInt32 >>> ((nI 8).toUInt32 &&& Int32.toUInt32 31)).toInt32
set_option maxRecDepth 100000 in
set_option maxHeartbeats 4000000 in
theorem l_draw (d : Nat) {b : Nat} (hb : jb b) (X Z : Nat → Nat → Int32) : EC (d + 1) 47 [.ref b] (Wd X Z) (RI (sDraw (sZ (X b 17))) (ud X b 17 (sZ (X b 17)))) := by
  refine er_enter (L := [(0, _)]) rfl rfl rfl ?_
  refine er_loc (pc' := 1) rfl rfl rfl ?_
  refine er_loc (pc' := 2) rfl rfl rfl ?_
  refine er_gf (pc' := 5) (_) rfl (blt_J hb 0 rfl) (cO_J0 hb _ _) rfl rfl ?_
  refine er_ldc (pc' := 7) (1103515245) rfl rfl rfl rfl rfl ?_
  refine er_imul (pc' := 8) rfl rfl ?_
  refine er_k (pc' := 11) (nI 12345) rfl rfl rfl ?_
  refine er_iadd (pc' := 12) rfl rfl ?_
  refine er_pfIX (pc' := 15) 17 rfl (blt_J hb 0 rfl) (cO_J0 hb _ _) rfl (cO_J0 hb _ _) rfl ?_
  refine er_loc (pc' := 16) rfl rfl rfl ?_
  refine er_gf (pc' := 19) (_) rfl (blt_J hb 0 rfl) (cO_J0 hb _ _) rfl rfl ?_
  refine er_k (pc' := 21) (nI 8) rfl rfl rfl ?_
  refine er_iushr (pc' := 22) rfl rfl ?_
  refine er_iret rfl rfl ?_
  exact RI_of (by simp [sDraw, sZ, ud_at]) rfl
def xAdd (X : Nat → Nat → Int32) (b n : Nat) (km s nd : Int32) : Nat → Nat → Int32 := ud (ud (ud (ud (ud X (b + 1) n (km / nI 10)) (b + 2) n (km - km / nI 10 * nI 10)) (b + 3) n s) (b + 4) n nd) b 1 (nI (n + 1))
def jAdd (J : Nat → Nat → Int32) (n : Nat) (km s nd : Int32) : Nat → Nat → Int32 := ud (ud (ud (ud (ud J 1 n (km / nI 10)) 2 n (km - km / nI 10 * nI 10)) 3 n s) 4 n nd) 0 1 (nI (n + 1))
theorem jx_xAdd {X : Nat → Nat → Int32} {b n : Nat} {km s nd : Int32} (h : n < 8) : jx (xAdd X b n km s nd) b = jAdd (jx X b) n km s nd := by
  unfold xAdd jAdd
  rw [jx_ud0 rfl, jx_ud4 h, jx_ud3 h, jx_ud2 h, jx_ud1 h]
set_option maxRecDepth 100000 in
set_option maxHeartbeats 4000000 in
theorem l_add (d : Nat) {b : Nat} (hb : jb b) (X Z : Nat → Nat → Int32) (n : Nat) (km s nd : Int32) (hn : X b 1 = nI n) (h8 : n < 8) : EC (d + 1) 32 [.ref b, .int km, .int s, .int nd] (Wd X Z) (RI (nI n) (xAdd X b n km s nd)) := by
  refine er_enter (L := [(0, _), (1, _), (2, _), (3, _)]) rfl rfl rfl ?_
  refine er_loc (pc' := 1) rfl rfl rfl ?_
  refine er_gf (pc' := 4) (_) rfl (blt_J hb 0 rfl) (cO_J0 hb _ _) rfl rfl ?_
  rw [hn]
  refine er_loc (pc' := 6) (L' := [(4, _), (0, _), (1, _), (2, _), (3, _)]) rfl rfl rfl ?_
  refine er_loc (pc' := 8) rfl rfl rfl ?_
  refine er_k (pc' := 10) (nI 8) rfl rfl rfl ?_
  refine er_cm_geF (pc' := 13) rfl (nI_lt h8 (by omega)) rfl ?_
  refine er_loc (pc' := 14) rfl rfl rfl ?_
  refine er_gf (pc' := 17) (_) rfl (blt_J hb 0 rfl) (cO_J0 hb _ _) rfl rfl ?_
  refine er_loc (pc' := 19) rfl rfl rfl ?_
  refine er_loc (pc' := 20) rfl rfl rfl ?_
  refine er_k (pc' := 22) (nI 10) rfl rfl rfl ?_
  refine er_idiv (pc' := 23) rfl rfl (by decide) ?_
  refine er_isX (pc' := 24) (n) rfl (blt_J hb 1 rfl) (fun f => cO_J1 hb f _) rfl (by omega) rfl rfl ?_
  refine er_loc (pc' := 25) rfl rfl rfl ?_
  refine er_gf (pc' := 28) (_) rfl (blt_J hb 0 rfl) (cO_J0 hb _ _) rfl rfl ?_
  refine er_loc (pc' := 30) rfl rfl rfl ?_
  refine er_loc (pc' := 31) rfl rfl rfl ?_
  refine er_k (pc' := 33) (nI 10) rfl rfl rfl ?_
  refine er_irem (pc' := 34) rfl rfl (by decide) ?_
  refine er_isX (pc' := 35) (n) rfl (blt_J hb 2 rfl) (fun f => cO_J2 hb f _) rfl (by omega) rfl rfl ?_
  refine er_loc (pc' := 36) rfl rfl rfl ?_
  refine er_gf (pc' := 39) (_) rfl (blt_J hb 0 rfl) (cO_J0 hb _ _) rfl rfl ?_
  refine er_loc (pc' := 41) rfl rfl rfl ?_
  refine er_loc (pc' := 42) rfl rfl rfl ?_
  refine er_isX (pc' := 43) (n) rfl (blt_J hb 3 rfl) (fun f => cO_J3 hb f _) rfl (by omega) rfl rfl ?_
  refine er_loc (pc' := 44) rfl rfl rfl ?_
  refine er_gf (pc' := 47) (_) rfl (blt_J hb 0 rfl) (cO_J0 hb _ _) rfl rfl ?_
  refine er_loc (pc' := 49) rfl rfl rfl ?_
  refine er_loc (pc' := 50) rfl rfl rfl ?_
  refine er_isX (pc' := 51) (n) rfl (blt_J hb 4 rfl) (fun f => cO_J4 hb f _) rfl (by omega) rfl rfl ?_
  refine er_loc (pc' := 52) rfl rfl rfl ?_
  refine er_pure (pc' := 53) rfl rfl rfl ?_
  refine er_gf (pc' := 56) (_) rfl (blt_J hb 0 rfl) (cO_J0 hb _ _) rfl rfl ?_
  refine er_k (pc' := 57) (nI 1) rfl rfl rfl ?_
  refine er_iadd (pc' := 58) rfl rfl ?_
  refine er_pfIX (pc' := 61) 1 rfl (blt_J hb 0 rfl) (cO_J0 hb _ _) rfl (cO_J0 hb _ _) rfl ?_
  refine er_loc (pc' := 63) rfl rfl rfl ?_
  refine er_iret rfl rfl ?_
  exact RI_of rfl (by simp [xAdd, ud_at, hn, nI_add])
end
section
/-! JOBS: one taken whole from another -/
def xHold (X : Nat → Nat → Int32) (t : Nat) (f : Nat → Int32) (l : Nat) : Nat → Nat → Int32 := ud (uc X (t + 1) (cpf f (X (t + 1)) 0 0 l)) t 2 (nI l)
def TK (X : Nat → Nat → Int32) (b p : Nat) : ab_R → Prop := fun r => ∃ X' Z', r = (none, Wd X' Z') ∧ jx X' b = jx X p ∧ ∀ c, (c < b ∨ b + 12 < c) → X' c = X c
set_option maxRecDepth 100000 in
set_option maxHeartbeats 4000000 in
theorem l_hold (d : Nat) {t : Nat} (ht : tx t) (X Z : Nat → Nat → Int32) (a : Nat) (f : Nat → Int32) (ha : Nat.blt a 79 = true) (he : cO a (X a) (Z a) = .inr (.inl (qa 50 f))) (l : Nat) (hl : l ≤ 50) : EC (d + 1) 59 [.ref t, .ref a, .int (nI l)] (Wd X Z) (RV (xHold X t f l)) := by
  refine er_enter (L := [(0, _), (1, _), (2, _)]) rfl rfl rfl ?_
  refine er_loc (pc' := 1) rfl rfl rfl ?_
  refine er_if_ltF (pc' := 4) rfl (nI_pos (by omega)) rfl ?_
  refine er_loc (pc' := 5) rfl rfl rfl ?_
  refine er_loc (pc' := 6) rfl rfl rfl ?_
  refine er_gf (pc' := 9) (_) rfl (blt_T ht 0 rfl) (cO_T0 ht _ _) rfl rfl ?_
  refine er_al (pc' := 10) rfl (blt_T ht 1 rfl) (cO_T1 ht _ _) rfl ?_
  refine er_cm_gtF (pc' := 13) rfl (nI_nlt (by omega) (by omega)) rfl ?_
  refine er_loc (pc' := 14) rfl rfl rfl ?_
  refine er_loc (pc' := 15) rfl rfl rfl ?_
  refine er_al (pc' := 16) rfl (ha) (he) rfl ?_
  refine er_cm_gtF (pc' := 19) rfl (nI_nlt (by omega) (by omega)) rfl ?_
  refine er_loc (pc' := 20) rfl rfl rfl ?_
  refine er_k (pc' := 21) (nI 0) rfl rfl rfl ?_
  refine er_loc (pc' := 22) rfl rfl rfl ?_
  refine er_gf (pc' := 25) (_) rfl (blt_T ht 0 rfl) (cO_T0 ht _ _) rfl rfl ?_
  refine er_k (pc' := 26) (nI 0) rfl rfl rfl ?_
  refine er_loc (pc' := 27) rfl rfl rfl ?_
  refine er_cpX (pc' := 30) (0) (0) (l) rfl rfl rfl (ha) (blt_T ht 1 rfl) (he) (fun f => cO_T1 ht f _) rfl rfl rfl (by omega) (by omega) rfl rfl ?_
  refine er_loc (pc' := 31) rfl rfl rfl ?_
  refine er_loc (pc' := 32) rfl rfl rfl ?_
  refine er_pfIX (pc' := 35) 2 rfl (blt_T ht 0 rfl) (cO_T0 ht _ _) rfl (cO_T0 ht _ _) rfl ?_
  refine er_vret rfl rfl ?_
  exact RV_of rfl
set_option maxRecDepth 100000 in
set_option maxHeartbeats 4000000 in
theorem jx_take {X X' : Nat → Nat → Int32} {b p : Nat} (h0 : ∀ k, okF k = true → X' b k = X p k) (h1 : ∀ k, k < 8 → X' (b + 1) k = X (p + 1) k) (h2 : ∀ k, k < 8 → X' (b + 2) k = X (p + 2) k) (h3 : ∀ k, k < 8 → X' (b + 3) k = X (p + 3) k) (h4 : ∀ k, k < 8 → X' (b + 4) k = X (p + 4) k) (h5 : X' (b + 5) 2 = X (p + 5) 2) (h6 : ∀ k, k < nN (X (p + 5) 2) → X' (b + 6) k = X (p + 6) k) (h8 : X' (b + 8) 2 = X (p + 8) 2) (h9 : ∀ k, k < nN (X (p + 8) 2) → X' (b + 9) k = X (p + 9) k) (h11 : ∀ k, k < 50 → X' (b + 11) k = X (p + 11) k) (h12 : ∀ k, k < 20 → X' (b + 12) k = X (p + 12) k) : jx X' b = jx X p := by
  funext i k
  match i with
  | 0 =>
    show (if okF k = true then X' (b) k else 0) = if okF k = true then X (p) k else 0
    by_cases h : okF k = true
    · rw [if_pos h, if_pos h]; exact h0 k h
    · rw [if_neg h, if_neg h]
  | 1 =>
    show (if k < 8 then X' (b + 1) k else 0) = if k < 8 then X (p + 1) k else 0
    by_cases h : k < 8
    · rw [if_pos h, if_pos h]; exact h1 k h
    · rw [if_neg h, if_neg h]
  | 2 =>
    show (if k < 8 then X' (b + 2) k else 0) = if k < 8 then X (p + 2) k else 0
    by_cases h : k < 8
    · rw [if_pos h, if_pos h]; exact h2 k h
    · rw [if_neg h, if_neg h]
  | 3 =>
    show (if k < 8 then X' (b + 3) k else 0) = if k < 8 then X (p + 3) k else 0
    by_cases h : k < 8
    · rw [if_pos h, if_pos h]; exact h3 k h
    · rw [if_neg h, if_neg h]
  | 4 =>
    show (if k < 8 then X' (b + 4) k else 0) = if k < 8 then X (p + 4) k else 0
    by_cases h : k < 8
    · rw [if_pos h, if_pos h]; exact h4 k h
    · rw [if_neg h, if_neg h]
  | 5 => exact ite_congr rfl (fun _ => h5) (fun _ => rfl)
  | 6 => exact ite_congr (by rw [h5]) (fun h => h6 k h) (fun _ => rfl)
  | 7 => exact ite_congr rfl (fun _ => h8) (fun _ => rfl)
  | 8 => exact ite_congr (by rw [h8]) (fun h => h9 k h) (fun _ => rfl)
  | 9 => exact ite_congr rfl (fun h => h11 k h) (fun _ => rfl)
  | 10 => exact ite_congr rfl (fun h => h12 k h) (fun _ => rfl)
  | i + 11 => simp [jx]
theorem okF_cases {k : Nat} (h : okF k = true) : k = 1 ∨ k = 6 ∨ k = 7 ∨ k = 8 ∨ k = 9 ∨ k = 10 ∨ k = 14 ∨ k = 16 ∨ k = 17 := by
  simpa [okF, or_assoc] using h
theorem cpf_all {f g : Nat → Int32} {n k : Nat} (h : k < n) : cpf f g 0 0 n k = f k := by
  unfold cpf
  rw [if_pos ⟨by omega, by omega⟩]
  rfl
set_option maxRecDepth 100000 in
set_option maxHeartbeats 4000000 in
theorem l_take_35_9 (d : Nat) (X Z : Nat → Nat → Int32) {T : Nat} (hI : IJ T (jx X 9)) : EC (d + 2) 48 [.ref 35, .ref 9] (Wd X Z) (TK X 35 9) := by
  refine er_enter (L := [(0, _), (1, _)]) rfl rfl rfl ?_
  obtain ⟨l1, h150, hl1⟩ := (isN_iff (by omega)).mp hI.tl.1
  obtain ⟨l2, h250, hl2⟩ := (isN_iff (by omega)).mp hI.te.1
  rw [jx5] at hl1
  rw [jx7] at hl2
  refine er_loc (pc' := 1) rfl rfl rfl ?_
  refine er_loc (pc' := 2) rfl rfl rfl ?_
  refine er_gf (pc' := 5) (.int (X 9 1)) rfl rfl rfl rfl rfl ?_
  refine er_pfIX (pc' := 8) 1 rfl rfl rfl rfl rfl rfl ?_
  refine er_loc (pc' := 9) rfl rfl rfl ?_
  refine er_gf (pc' := 12) (_) rfl rfl rfl rfl rfl ?_
  refine er_k (pc' := 13) (nI 0) rfl rfl rfl ?_
  refine er_loc (pc' := 14) rfl rfl rfl ?_
  refine er_gf (pc' := 17) (_) rfl rfl rfl rfl rfl ?_
  refine er_k (pc' := 18) (nI 0) rfl rfl rfl ?_
  refine er_k (pc' := 20) (nI 8) rfl rfl rfl ?_
  refine er_cpX (pc' := 23) (0) (0) (8) rfl rfl rfl rfl rfl rfl (fun _ => rfl) rfl rfl rfl (by omega) (by omega) rfl rfl ?_
  refine er_loc (pc' := 24) rfl rfl rfl ?_
  refine er_gf (pc' := 27) (_) rfl rfl rfl rfl rfl ?_
  refine er_k (pc' := 28) (nI 0) rfl rfl rfl ?_
  refine er_loc (pc' := 29) rfl rfl rfl ?_
  refine er_gf (pc' := 32) (_) rfl rfl rfl rfl rfl ?_
  refine er_k (pc' := 33) (nI 0) rfl rfl rfl ?_
  refine er_k (pc' := 35) (nI 8) rfl rfl rfl ?_
  refine er_cpX (pc' := 38) (0) (0) (8) rfl rfl rfl rfl rfl rfl (fun _ => rfl) rfl rfl rfl (by omega) (by omega) rfl rfl ?_
  refine er_loc (pc' := 39) rfl rfl rfl ?_
  refine er_gf (pc' := 42) (_) rfl rfl rfl rfl rfl ?_
  refine er_k (pc' := 43) (nI 0) rfl rfl rfl ?_
  refine er_loc (pc' := 44) rfl rfl rfl ?_
  refine er_gf (pc' := 47) (_) rfl rfl rfl rfl rfl ?_
  refine er_k (pc' := 48) (nI 0) rfl rfl rfl ?_
  refine er_k (pc' := 50) (nI 8) rfl rfl rfl ?_
  refine er_cpX (pc' := 53) (0) (0) (8) rfl rfl rfl rfl rfl rfl (fun _ => rfl) rfl rfl rfl (by omega) (by omega) rfl rfl ?_
  refine er_loc (pc' := 54) rfl rfl rfl ?_
  refine er_gf (pc' := 57) (_) rfl rfl rfl rfl rfl ?_
  refine er_k (pc' := 58) (nI 0) rfl rfl rfl ?_
  refine er_loc (pc' := 59) rfl rfl rfl ?_
  refine er_gf (pc' := 62) (_) rfl rfl rfl rfl rfl ?_
  refine er_k (pc' := 63) (nI 0) rfl rfl rfl ?_
  refine er_k (pc' := 65) (nI 8) rfl rfl rfl ?_
  refine er_cpX (pc' := 68) (0) (0) (8) rfl rfl rfl rfl rfl rfl (fun _ => rfl) rfl rfl rfl (by omega) (by omega) rfl rfl ?_
  refine er_loc (pc' := 69) rfl rfl rfl ?_
  refine er_loc (pc' := 70) rfl rfl rfl ?_
  refine er_gf (pc' := 73) (.int (X 9 6)) rfl rfl rfl rfl rfl ?_
  refine er_pfIX (pc' := 76) 6 rfl rfl rfl rfl rfl rfl ?_
  refine er_loc (pc' := 77) rfl rfl rfl ?_
  refine er_loc (pc' := 78) rfl rfl rfl ?_
  refine er_gf (pc' := 81) (.int (X 9 7)) rfl rfl rfl rfl rfl ?_
  refine er_pfIX (pc' := 84) 7 rfl rfl rfl rfl rfl rfl ?_
  refine er_loc (pc' := 85) rfl rfl rfl ?_
  refine er_loc (pc' := 86) rfl rfl rfl ?_
  refine er_gf (pc' := 89) (.int (X 9 8)) rfl rfl rfl rfl rfl ?_
  refine er_pfIX (pc' := 92) 8 rfl rfl rfl rfl rfl rfl ?_
  refine er_loc (pc' := 93) rfl rfl rfl ?_
  refine er_loc (pc' := 94) rfl rfl rfl ?_
  refine er_gf (pc' := 97) (.int (X 9 9)) rfl rfl rfl rfl rfl ?_
  refine er_pfIX (pc' := 100) 9 rfl rfl rfl rfl rfl rfl ?_
  refine er_loc (pc' := 101) rfl rfl rfl ?_
  refine er_loc (pc' := 102) rfl rfl rfl ?_
  refine er_gf (pc' := 105) (.int (X 9 10)) rfl rfl rfl rfl rfl ?_
  refine er_pfIX (pc' := 108) 10 rfl rfl rfl rfl rfl rfl ?_
  refine er_loc (pc' := 109) rfl rfl rfl ?_
  refine er_gf (pc' := 112) (_) rfl rfl rfl rfl rfl ?_
  refine er_loc (pc' := 113) rfl rfl rfl ?_
  refine er_gf (pc' := 116) (_) rfl rfl rfl rfl rfl ?_
  refine er_gf (pc' := 119) (_) rfl rfl rfl rfl rfl ?_
  refine er_loc (pc' := 120) rfl rfl rfl ?_
  refine er_gf (pc' := 123) (_) rfl rfl rfl rfl rfl ?_
  refine er_gf (pc' := 126) (.int (X 14 2)) rfl rfl rfl rfl rfl ?_
  rw [hl1]
  refine er_cIv (pc' := 129) (rest := []) 8 rfl rfl rfl rfl rfl rfl (l_hold _ (t := 40) (by simp [tx]) _ _ 15 (X 15) rfl (by rfl) l1 h150) ?_
  intro Z1
  refine er_loc (pc' := 130) rfl rfl rfl ?_
  refine er_gf (pc' := 133) (_) rfl rfl rfl rfl rfl ?_
  refine er_loc (pc' := 134) rfl rfl rfl ?_
  refine er_gf (pc' := 137) (_) rfl rfl rfl rfl rfl ?_
  refine er_gf (pc' := 140) (_) rfl rfl rfl rfl rfl ?_
  refine er_loc (pc' := 141) rfl rfl rfl ?_
  refine er_gf (pc' := 144) (_) rfl rfl rfl rfl rfl ?_
  refine er_gf (pc' := 147) (.int (X 17 2)) rfl rfl rfl rfl rfl ?_
  rw [hl2]
  refine er_cIv (pc' := 150) (rest := []) 8 rfl rfl rfl rfl rfl rfl (l_hold _ (t := 43) (by simp [tx]) _ _ 18 (X 18) rfl (by rfl) l2 h250) ?_
  intro Z2
  refine er_loc (pc' := 151) rfl rfl rfl ?_
  refine er_gf (pc' := 154) (_) rfl rfl rfl rfl rfl ?_
  refine er_k (pc' := 155) (nI 0) rfl rfl rfl ?_
  refine er_loc (pc' := 156) rfl rfl rfl ?_
  refine er_gf (pc' := 159) (_) rfl rfl rfl rfl rfl ?_
  refine er_k (pc' := 160) (nI 0) rfl rfl rfl ?_
  refine er_k (pc' := 162) (nI 50) rfl rfl rfl ?_
  refine er_cpX (pc' := 165) (0) (0) (50) rfl rfl rfl rfl rfl rfl (fun _ => rfl) rfl rfl rfl (by omega) (by omega) rfl rfl ?_
  refine er_loc (pc' := 166) rfl rfl rfl ?_
  refine er_loc (pc' := 167) rfl rfl rfl ?_
  refine er_gf (pc' := 170) (.int (X 9 14)) rfl rfl rfl rfl rfl ?_
  refine er_pfIX (pc' := 173) 14 rfl rfl rfl rfl rfl rfl ?_
  refine er_loc (pc' := 174) rfl rfl rfl ?_
  refine er_gf (pc' := 177) (_) rfl rfl rfl rfl rfl ?_
  refine er_k (pc' := 178) (nI 0) rfl rfl rfl ?_
  refine er_loc (pc' := 179) rfl rfl rfl ?_
  refine er_gf (pc' := 182) (_) rfl rfl rfl rfl rfl ?_
  refine er_k (pc' := 183) (nI 0) rfl rfl rfl ?_
  refine er_k (pc' := 185) (nI 20) rfl rfl rfl ?_
  refine er_cpX (pc' := 188) (0) (0) (20) rfl rfl rfl rfl rfl rfl (fun _ => rfl) rfl rfl rfl (by omega) (by omega) rfl rfl ?_
  refine er_loc (pc' := 189) rfl rfl rfl ?_
  refine er_loc (pc' := 190) rfl rfl rfl ?_
  refine er_gf (pc' := 193) (.int (X 9 16)) rfl rfl rfl rfl rfl ?_
  refine er_pfIX (pc' := 196) 16 rfl rfl rfl rfl rfl rfl ?_
  refine er_loc (pc' := 197) rfl rfl rfl ?_
  refine er_loc (pc' := 198) rfl rfl rfl ?_
  refine er_gf (pc' := 201) (.int (X 9 17)) rfl rfl rfl rfl rfl ?_
  refine er_pfIX (pc' := 204) 17 rfl rfl rfl rfl rfl rfl ?_
  refine er_vret rfl rfl ?_
  refine ⟨_, _, rfl, ?_, ?_⟩
  · refine jx_take (b := 35) (p := 9) ?_ ?_ ?_ ?_ ?_ ?_ ?_ ?_ ?_ ?_ ?_
    · intro k hk
      rcases okF_cases hk with rfl | rfl | rfl | rfl | rfl | rfl | rfl | rfl | rfl <;> rfl
    · intro k hk; exact cpf_all hk
    · intro k hk; exact cpf_all hk
    · intro k hk; exact cpf_all hk
    · intro k hk; exact cpf_all hk
    · exact hl1.symm
    · intro k hk
      rw [show nN (X (9 + 5) 2) = l1 from by rw [show X (9 + 5) 2 = nI l1 from hl1]; exact nN_nI (by omega)] at hk
      exact cpf_all hk
    · exact hl2.symm
    · intro k hk
      rw [show nN (X (9 + 8) 2) = l2 from by rw [show X (9 + 8) 2 = nI l2 from hl2]; exact nN_nI (by omega)] at hk
      exact cpf_all hk
    · intro k hk; exact cpf_all hk
    · intro k hk; exact cpf_all hk
  · intro c hc
    simp only [xHold, ud, uc]
    repeat rw [if_neg (by omega)]
set_option maxRecDepth 100000 in
set_option maxHeartbeats 4000000 in
theorem l_take_22_9 (d : Nat) (X Z : Nat → Nat → Int32) {T : Nat} (hI : IJ T (jx X 9)) : EC (d + 2) 48 [.ref 22, .ref 9] (Wd X Z) (TK X 22 9) := by
  refine er_enter (L := [(0, _), (1, _)]) rfl rfl rfl ?_
  obtain ⟨l1, h150, hl1⟩ := (isN_iff (by omega)).mp hI.tl.1
  obtain ⟨l2, h250, hl2⟩ := (isN_iff (by omega)).mp hI.te.1
  rw [jx5] at hl1
  rw [jx7] at hl2
  refine er_loc (pc' := 1) rfl rfl rfl ?_
  refine er_loc (pc' := 2) rfl rfl rfl ?_
  refine er_gf (pc' := 5) (.int (X 9 1)) rfl rfl rfl rfl rfl ?_
  refine er_pfIX (pc' := 8) 1 rfl rfl rfl rfl rfl rfl ?_
  refine er_loc (pc' := 9) rfl rfl rfl ?_
  refine er_gf (pc' := 12) (_) rfl rfl rfl rfl rfl ?_
  refine er_k (pc' := 13) (nI 0) rfl rfl rfl ?_
  refine er_loc (pc' := 14) rfl rfl rfl ?_
  refine er_gf (pc' := 17) (_) rfl rfl rfl rfl rfl ?_
  refine er_k (pc' := 18) (nI 0) rfl rfl rfl ?_
  refine er_k (pc' := 20) (nI 8) rfl rfl rfl ?_
  refine er_cpX (pc' := 23) (0) (0) (8) rfl rfl rfl rfl rfl rfl (fun _ => rfl) rfl rfl rfl (by omega) (by omega) rfl rfl ?_
  refine er_loc (pc' := 24) rfl rfl rfl ?_
  refine er_gf (pc' := 27) (_) rfl rfl rfl rfl rfl ?_
  refine er_k (pc' := 28) (nI 0) rfl rfl rfl ?_
  refine er_loc (pc' := 29) rfl rfl rfl ?_
  refine er_gf (pc' := 32) (_) rfl rfl rfl rfl rfl ?_
  refine er_k (pc' := 33) (nI 0) rfl rfl rfl ?_
  refine er_k (pc' := 35) (nI 8) rfl rfl rfl ?_
  refine er_cpX (pc' := 38) (0) (0) (8) rfl rfl rfl rfl rfl rfl (fun _ => rfl) rfl rfl rfl (by omega) (by omega) rfl rfl ?_
  refine er_loc (pc' := 39) rfl rfl rfl ?_
  refine er_gf (pc' := 42) (_) rfl rfl rfl rfl rfl ?_
  refine er_k (pc' := 43) (nI 0) rfl rfl rfl ?_
  refine er_loc (pc' := 44) rfl rfl rfl ?_
  refine er_gf (pc' := 47) (_) rfl rfl rfl rfl rfl ?_
  refine er_k (pc' := 48) (nI 0) rfl rfl rfl ?_
  refine er_k (pc' := 50) (nI 8) rfl rfl rfl ?_
  refine er_cpX (pc' := 53) (0) (0) (8) rfl rfl rfl rfl rfl rfl (fun _ => rfl) rfl rfl rfl (by omega) (by omega) rfl rfl ?_
  refine er_loc (pc' := 54) rfl rfl rfl ?_
  refine er_gf (pc' := 57) (_) rfl rfl rfl rfl rfl ?_
  refine er_k (pc' := 58) (nI 0) rfl rfl rfl ?_
  refine er_loc (pc' := 59) rfl rfl rfl ?_
  refine er_gf (pc' := 62) (_) rfl rfl rfl rfl rfl ?_
  refine er_k (pc' := 63) (nI 0) rfl rfl rfl ?_
  refine er_k (pc' := 65) (nI 8) rfl rfl rfl ?_
  refine er_cpX (pc' := 68) (0) (0) (8) rfl rfl rfl rfl rfl rfl (fun _ => rfl) rfl rfl rfl (by omega) (by omega) rfl rfl ?_
  refine er_loc (pc' := 69) rfl rfl rfl ?_
  refine er_loc (pc' := 70) rfl rfl rfl ?_
  refine er_gf (pc' := 73) (.int (X 9 6)) rfl rfl rfl rfl rfl ?_
  refine er_pfIX (pc' := 76) 6 rfl rfl rfl rfl rfl rfl ?_
  refine er_loc (pc' := 77) rfl rfl rfl ?_
  refine er_loc (pc' := 78) rfl rfl rfl ?_
  refine er_gf (pc' := 81) (.int (X 9 7)) rfl rfl rfl rfl rfl ?_
  refine er_pfIX (pc' := 84) 7 rfl rfl rfl rfl rfl rfl ?_
  refine er_loc (pc' := 85) rfl rfl rfl ?_
  refine er_loc (pc' := 86) rfl rfl rfl ?_
  refine er_gf (pc' := 89) (.int (X 9 8)) rfl rfl rfl rfl rfl ?_
  refine er_pfIX (pc' := 92) 8 rfl rfl rfl rfl rfl rfl ?_
  refine er_loc (pc' := 93) rfl rfl rfl ?_
  refine er_loc (pc' := 94) rfl rfl rfl ?_
  refine er_gf (pc' := 97) (.int (X 9 9)) rfl rfl rfl rfl rfl ?_
  refine er_pfIX (pc' := 100) 9 rfl rfl rfl rfl rfl rfl ?_
  refine er_loc (pc' := 101) rfl rfl rfl ?_
  refine er_loc (pc' := 102) rfl rfl rfl ?_
  refine er_gf (pc' := 105) (.int (X 9 10)) rfl rfl rfl rfl rfl ?_
  refine er_pfIX (pc' := 108) 10 rfl rfl rfl rfl rfl rfl ?_
  refine er_loc (pc' := 109) rfl rfl rfl ?_
  refine er_gf (pc' := 112) (_) rfl rfl rfl rfl rfl ?_
  refine er_loc (pc' := 113) rfl rfl rfl ?_
  refine er_gf (pc' := 116) (_) rfl rfl rfl rfl rfl ?_
  refine er_gf (pc' := 119) (_) rfl rfl rfl rfl rfl ?_
  refine er_loc (pc' := 120) rfl rfl rfl ?_
  refine er_gf (pc' := 123) (_) rfl rfl rfl rfl rfl ?_
  refine er_gf (pc' := 126) (.int (X 14 2)) rfl rfl rfl rfl rfl ?_
  rw [hl1]
  refine er_cIv (pc' := 129) (rest := []) 8 rfl rfl rfl rfl rfl rfl (l_hold _ (t := 27) (by simp [tx]) _ _ 15 (X 15) rfl (by rfl) l1 h150) ?_
  intro Z1
  refine er_loc (pc' := 130) rfl rfl rfl ?_
  refine er_gf (pc' := 133) (_) rfl rfl rfl rfl rfl ?_
  refine er_loc (pc' := 134) rfl rfl rfl ?_
  refine er_gf (pc' := 137) (_) rfl rfl rfl rfl rfl ?_
  refine er_gf (pc' := 140) (_) rfl rfl rfl rfl rfl ?_
  refine er_loc (pc' := 141) rfl rfl rfl ?_
  refine er_gf (pc' := 144) (_) rfl rfl rfl rfl rfl ?_
  refine er_gf (pc' := 147) (.int (X 17 2)) rfl rfl rfl rfl rfl ?_
  rw [hl2]
  refine er_cIv (pc' := 150) (rest := []) 8 rfl rfl rfl rfl rfl rfl (l_hold _ (t := 30) (by simp [tx]) _ _ 18 (X 18) rfl (by rfl) l2 h250) ?_
  intro Z2
  refine er_loc (pc' := 151) rfl rfl rfl ?_
  refine er_gf (pc' := 154) (_) rfl rfl rfl rfl rfl ?_
  refine er_k (pc' := 155) (nI 0) rfl rfl rfl ?_
  refine er_loc (pc' := 156) rfl rfl rfl ?_
  refine er_gf (pc' := 159) (_) rfl rfl rfl rfl rfl ?_
  refine er_k (pc' := 160) (nI 0) rfl rfl rfl ?_
  refine er_k (pc' := 162) (nI 50) rfl rfl rfl ?_
  refine er_cpX (pc' := 165) (0) (0) (50) rfl rfl rfl rfl rfl rfl (fun _ => rfl) rfl rfl rfl (by omega) (by omega) rfl rfl ?_
  refine er_loc (pc' := 166) rfl rfl rfl ?_
  refine er_loc (pc' := 167) rfl rfl rfl ?_
  refine er_gf (pc' := 170) (.int (X 9 14)) rfl rfl rfl rfl rfl ?_
  refine er_pfIX (pc' := 173) 14 rfl rfl rfl rfl rfl rfl ?_
  refine er_loc (pc' := 174) rfl rfl rfl ?_
  refine er_gf (pc' := 177) (_) rfl rfl rfl rfl rfl ?_
  refine er_k (pc' := 178) (nI 0) rfl rfl rfl ?_
  refine er_loc (pc' := 179) rfl rfl rfl ?_
  refine er_gf (pc' := 182) (_) rfl rfl rfl rfl rfl ?_
  refine er_k (pc' := 183) (nI 0) rfl rfl rfl ?_
  refine er_k (pc' := 185) (nI 20) rfl rfl rfl ?_
  refine er_cpX (pc' := 188) (0) (0) (20) rfl rfl rfl rfl rfl rfl (fun _ => rfl) rfl rfl rfl (by omega) (by omega) rfl rfl ?_
  refine er_loc (pc' := 189) rfl rfl rfl ?_
  refine er_loc (pc' := 190) rfl rfl rfl ?_
  refine er_gf (pc' := 193) (.int (X 9 16)) rfl rfl rfl rfl rfl ?_
  refine er_pfIX (pc' := 196) 16 rfl rfl rfl rfl rfl rfl ?_
  refine er_loc (pc' := 197) rfl rfl rfl ?_
  refine er_loc (pc' := 198) rfl rfl rfl ?_
  refine er_gf (pc' := 201) (.int (X 9 17)) rfl rfl rfl rfl rfl ?_
  refine er_pfIX (pc' := 204) 17 rfl rfl rfl rfl rfl rfl ?_
  refine er_vret rfl rfl ?_
  refine ⟨_, _, rfl, ?_, ?_⟩
  · refine jx_take (b := 22) (p := 9) ?_ ?_ ?_ ?_ ?_ ?_ ?_ ?_ ?_ ?_ ?_
    · intro k hk
      rcases okF_cases hk with rfl | rfl | rfl | rfl | rfl | rfl | rfl | rfl | rfl <;> rfl
    · intro k hk; exact cpf_all hk
    · intro k hk; exact cpf_all hk
    · intro k hk; exact cpf_all hk
    · intro k hk; exact cpf_all hk
    · exact hl1.symm
    · intro k hk
      rw [show nN (X (9 + 5) 2) = l1 from by rw [show X (9 + 5) 2 = nI l1 from hl1]; exact nN_nI (by omega)] at hk
      exact cpf_all hk
    · exact hl2.symm
    · intro k hk
      rw [show nN (X (9 + 8) 2) = l2 from by rw [show X (9 + 8) 2 = nI l2 from hl2]; exact nN_nI (by omega)] at hk
      exact cpf_all hk
    · intro k hk; exact cpf_all hk
    · intro k hk; exact cpf_all hk
  · intro c hc
    simp only [xHold, ud, uc]
    repeat rw [if_neg (by omega)]
set_option maxRecDepth 100000 in
set_option maxHeartbeats 4000000 in
theorem l_take_9_22 (d : Nat) (X Z : Nat → Nat → Int32) {T : Nat} (hI : IJ T (jx X 22)) : EC (d + 2) 48 [.ref 9, .ref 22] (Wd X Z) (TK X 9 22) := by
  refine er_enter (L := [(0, _), (1, _)]) rfl rfl rfl ?_
  obtain ⟨l1, h150, hl1⟩ := (isN_iff (by omega)).mp hI.tl.1
  obtain ⟨l2, h250, hl2⟩ := (isN_iff (by omega)).mp hI.te.1
  rw [jx5] at hl1
  rw [jx7] at hl2
  refine er_loc (pc' := 1) rfl rfl rfl ?_
  refine er_loc (pc' := 2) rfl rfl rfl ?_
  refine er_gf (pc' := 5) (.int (X 22 1)) rfl rfl rfl rfl rfl ?_
  refine er_pfIX (pc' := 8) 1 rfl rfl rfl rfl rfl rfl ?_
  refine er_loc (pc' := 9) rfl rfl rfl ?_
  refine er_gf (pc' := 12) (_) rfl rfl rfl rfl rfl ?_
  refine er_k (pc' := 13) (nI 0) rfl rfl rfl ?_
  refine er_loc (pc' := 14) rfl rfl rfl ?_
  refine er_gf (pc' := 17) (_) rfl rfl rfl rfl rfl ?_
  refine er_k (pc' := 18) (nI 0) rfl rfl rfl ?_
  refine er_k (pc' := 20) (nI 8) rfl rfl rfl ?_
  refine er_cpX (pc' := 23) (0) (0) (8) rfl rfl rfl rfl rfl rfl (fun _ => rfl) rfl rfl rfl (by omega) (by omega) rfl rfl ?_
  refine er_loc (pc' := 24) rfl rfl rfl ?_
  refine er_gf (pc' := 27) (_) rfl rfl rfl rfl rfl ?_
  refine er_k (pc' := 28) (nI 0) rfl rfl rfl ?_
  refine er_loc (pc' := 29) rfl rfl rfl ?_
  refine er_gf (pc' := 32) (_) rfl rfl rfl rfl rfl ?_
  refine er_k (pc' := 33) (nI 0) rfl rfl rfl ?_
  refine er_k (pc' := 35) (nI 8) rfl rfl rfl ?_
  refine er_cpX (pc' := 38) (0) (0) (8) rfl rfl rfl rfl rfl rfl (fun _ => rfl) rfl rfl rfl (by omega) (by omega) rfl rfl ?_
  refine er_loc (pc' := 39) rfl rfl rfl ?_
  refine er_gf (pc' := 42) (_) rfl rfl rfl rfl rfl ?_
  refine er_k (pc' := 43) (nI 0) rfl rfl rfl ?_
  refine er_loc (pc' := 44) rfl rfl rfl ?_
  refine er_gf (pc' := 47) (_) rfl rfl rfl rfl rfl ?_
  refine er_k (pc' := 48) (nI 0) rfl rfl rfl ?_
  refine er_k (pc' := 50) (nI 8) rfl rfl rfl ?_
  refine er_cpX (pc' := 53) (0) (0) (8) rfl rfl rfl rfl rfl rfl (fun _ => rfl) rfl rfl rfl (by omega) (by omega) rfl rfl ?_
  refine er_loc (pc' := 54) rfl rfl rfl ?_
  refine er_gf (pc' := 57) (_) rfl rfl rfl rfl rfl ?_
  refine er_k (pc' := 58) (nI 0) rfl rfl rfl ?_
  refine er_loc (pc' := 59) rfl rfl rfl ?_
  refine er_gf (pc' := 62) (_) rfl rfl rfl rfl rfl ?_
  refine er_k (pc' := 63) (nI 0) rfl rfl rfl ?_
  refine er_k (pc' := 65) (nI 8) rfl rfl rfl ?_
  refine er_cpX (pc' := 68) (0) (0) (8) rfl rfl rfl rfl rfl rfl (fun _ => rfl) rfl rfl rfl (by omega) (by omega) rfl rfl ?_
  refine er_loc (pc' := 69) rfl rfl rfl ?_
  refine er_loc (pc' := 70) rfl rfl rfl ?_
  refine er_gf (pc' := 73) (.int (X 22 6)) rfl rfl rfl rfl rfl ?_
  refine er_pfIX (pc' := 76) 6 rfl rfl rfl rfl rfl rfl ?_
  refine er_loc (pc' := 77) rfl rfl rfl ?_
  refine er_loc (pc' := 78) rfl rfl rfl ?_
  refine er_gf (pc' := 81) (.int (X 22 7)) rfl rfl rfl rfl rfl ?_
  refine er_pfIX (pc' := 84) 7 rfl rfl rfl rfl rfl rfl ?_
  refine er_loc (pc' := 85) rfl rfl rfl ?_
  refine er_loc (pc' := 86) rfl rfl rfl ?_
  refine er_gf (pc' := 89) (.int (X 22 8)) rfl rfl rfl rfl rfl ?_
  refine er_pfIX (pc' := 92) 8 rfl rfl rfl rfl rfl rfl ?_
  refine er_loc (pc' := 93) rfl rfl rfl ?_
  refine er_loc (pc' := 94) rfl rfl rfl ?_
  refine er_gf (pc' := 97) (.int (X 22 9)) rfl rfl rfl rfl rfl ?_
  refine er_pfIX (pc' := 100) 9 rfl rfl rfl rfl rfl rfl ?_
  refine er_loc (pc' := 101) rfl rfl rfl ?_
  refine er_loc (pc' := 102) rfl rfl rfl ?_
  refine er_gf (pc' := 105) (.int (X 22 10)) rfl rfl rfl rfl rfl ?_
  refine er_pfIX (pc' := 108) 10 rfl rfl rfl rfl rfl rfl ?_
  refine er_loc (pc' := 109) rfl rfl rfl ?_
  refine er_gf (pc' := 112) (_) rfl rfl rfl rfl rfl ?_
  refine er_loc (pc' := 113) rfl rfl rfl ?_
  refine er_gf (pc' := 116) (_) rfl rfl rfl rfl rfl ?_
  refine er_gf (pc' := 119) (_) rfl rfl rfl rfl rfl ?_
  refine er_loc (pc' := 120) rfl rfl rfl ?_
  refine er_gf (pc' := 123) (_) rfl rfl rfl rfl rfl ?_
  refine er_gf (pc' := 126) (.int (X 27 2)) rfl rfl rfl rfl rfl ?_
  rw [hl1]
  refine er_cIv (pc' := 129) (rest := []) 8 rfl rfl rfl rfl rfl rfl (l_hold _ (t := 14) (by simp [tx]) _ _ 28 (X 28) rfl (by rfl) l1 h150) ?_
  intro Z1
  refine er_loc (pc' := 130) rfl rfl rfl ?_
  refine er_gf (pc' := 133) (_) rfl rfl rfl rfl rfl ?_
  refine er_loc (pc' := 134) rfl rfl rfl ?_
  refine er_gf (pc' := 137) (_) rfl rfl rfl rfl rfl ?_
  refine er_gf (pc' := 140) (_) rfl rfl rfl rfl rfl ?_
  refine er_loc (pc' := 141) rfl rfl rfl ?_
  refine er_gf (pc' := 144) (_) rfl rfl rfl rfl rfl ?_
  refine er_gf (pc' := 147) (.int (X 30 2)) rfl rfl rfl rfl rfl ?_
  rw [hl2]
  refine er_cIv (pc' := 150) (rest := []) 8 rfl rfl rfl rfl rfl rfl (l_hold _ (t := 17) (by simp [tx]) _ _ 31 (X 31) rfl (by rfl) l2 h250) ?_
  intro Z2
  refine er_loc (pc' := 151) rfl rfl rfl ?_
  refine er_gf (pc' := 154) (_) rfl rfl rfl rfl rfl ?_
  refine er_k (pc' := 155) (nI 0) rfl rfl rfl ?_
  refine er_loc (pc' := 156) rfl rfl rfl ?_
  refine er_gf (pc' := 159) (_) rfl rfl rfl rfl rfl ?_
  refine er_k (pc' := 160) (nI 0) rfl rfl rfl ?_
  refine er_k (pc' := 162) (nI 50) rfl rfl rfl ?_
  refine er_cpX (pc' := 165) (0) (0) (50) rfl rfl rfl rfl rfl rfl (fun _ => rfl) rfl rfl rfl (by omega) (by omega) rfl rfl ?_
  refine er_loc (pc' := 166) rfl rfl rfl ?_
  refine er_loc (pc' := 167) rfl rfl rfl ?_
  refine er_gf (pc' := 170) (.int (X 22 14)) rfl rfl rfl rfl rfl ?_
  refine er_pfIX (pc' := 173) 14 rfl rfl rfl rfl rfl rfl ?_
  refine er_loc (pc' := 174) rfl rfl rfl ?_
  refine er_gf (pc' := 177) (_) rfl rfl rfl rfl rfl ?_
  refine er_k (pc' := 178) (nI 0) rfl rfl rfl ?_
  refine er_loc (pc' := 179) rfl rfl rfl ?_
  refine er_gf (pc' := 182) (_) rfl rfl rfl rfl rfl ?_
  refine er_k (pc' := 183) (nI 0) rfl rfl rfl ?_
  refine er_k (pc' := 185) (nI 20) rfl rfl rfl ?_
  refine er_cpX (pc' := 188) (0) (0) (20) rfl rfl rfl rfl rfl rfl (fun _ => rfl) rfl rfl rfl (by omega) (by omega) rfl rfl ?_
  refine er_loc (pc' := 189) rfl rfl rfl ?_
  refine er_loc (pc' := 190) rfl rfl rfl ?_
  refine er_gf (pc' := 193) (.int (X 22 16)) rfl rfl rfl rfl rfl ?_
  refine er_pfIX (pc' := 196) 16 rfl rfl rfl rfl rfl rfl ?_
  refine er_loc (pc' := 197) rfl rfl rfl ?_
  refine er_loc (pc' := 198) rfl rfl rfl ?_
  refine er_gf (pc' := 201) (.int (X 22 17)) rfl rfl rfl rfl rfl ?_
  refine er_pfIX (pc' := 204) 17 rfl rfl rfl rfl rfl rfl ?_
  refine er_vret rfl rfl ?_
  refine ⟨_, _, rfl, ?_, ?_⟩
  · refine jx_take (b := 9) (p := 22) ?_ ?_ ?_ ?_ ?_ ?_ ?_ ?_ ?_ ?_ ?_
    · intro k hk
      rcases okF_cases hk with rfl | rfl | rfl | rfl | rfl | rfl | rfl | rfl | rfl <;> rfl
    · intro k hk; exact cpf_all hk
    · intro k hk; exact cpf_all hk
    · intro k hk; exact cpf_all hk
    · intro k hk; exact cpf_all hk
    · exact hl1.symm
    · intro k hk
      rw [show nN (X (22 + 5) 2) = l1 from by rw [show X (22 + 5) 2 = nI l1 from hl1]; exact nN_nI (by omega)] at hk
      exact cpf_all hk
    · exact hl2.symm
    · intro k hk
      rw [show nN (X (22 + 8) 2) = l2 from by rw [show X (22 + 8) 2 = nI l2 from hl2]; exact nN_nI (by omega)] at hk
      exact cpf_all hk
    · intro k hk; exact cpf_all hk
    · intro k hk; exact cpf_all hk
  · intro c hc
    simp only [xHold, ud, uc]
    repeat rw [if_neg (by omega)]
end
