/-! THE WORLD AS A FUNCTION: numbers by cell and place; x what stays from call to call, z what is written before it is read -/
def qa (n : Nat) (f : Nat → Int32) : List Int32 := (List.range n).map f
def cO0 (c : Nat) (x z : Nat → Int32) : ab_C := match c with
  | 0 => .inl (11, [.ref 1, .ref 9, .ref 22, .ref 35, .int (x 4), .ref 48, .ref 51, .ref 53, .ref 54, .ref 59, .ref 60, .ref 61, .ref 62])
  | 1 => .inr (.inr (0, (List.range 7).map (fun k => some (2 + k))))
  | 2 => .inl (0, [])
  | 3 => .inl (1, [])
  | 4 => .inl (2, [])
  | 5 => .inl (3, [])
  | 6 => .inl (4, [])
  | 7 => .inl (5, [])
  | 8 => .inl (6, [])
  | _ => .inl (7, [.ref 1, .int (x 1), .ref 10, .ref 11, .ref 12, .ref 13, .int (x 6), .int (x 7), .int (x 8), .int (x 9), .int (x 10), .ref 14, .ref 17, .ref 20, .int (x 14), .ref 21, .int (x 16), .int (x 17)])
def cO1 (c : Nat) (x z : Nat → Int32) : ab_C := match c with
  | 0 => .inr (.inl (qa 8 x))
  | 1 => .inr (.inl (qa 8 x))
  | 2 => .inr (.inl (qa 8 x))
  | 3 => .inr (.inl (qa 8 x))
  | 4 => .inl (8, [.ref 15, .ref 16, .int (x 2)])
  | 5 => .inr (.inl (qa 50 x))
  | 6 => .inr (.inl (qa 50 z))
  | 7 => .inl (8, [.ref 18, .ref 19, .int (x 2)])
  | 8 => .inr (.inl (qa 50 x))
  | _ => .inr (.inl (qa 50 z))
def cO2 (c : Nat) (x z : Nat → Int32) : ab_C := match c with
  | 0 => .inr (.inl (qa 50 x))
  | 1 => .inr (.inl (qa 20 x))
  | 2 => .inl (7, [.ref 1, .int (x 1), .ref 23, .ref 24, .ref 25, .ref 26, .int (x 6), .int (x 7), .int (x 8), .int (x 9), .int (x 10), .ref 27, .ref 30, .ref 33, .int (x 14), .ref 34, .int (x 16), .int (x 17)])
  | 3 => .inr (.inl (qa 8 x))
  | 4 => .inr (.inl (qa 8 x))
  | 5 => .inr (.inl (qa 8 x))
  | 6 => .inr (.inl (qa 8 x))
  | 7 => .inl (8, [.ref 28, .ref 29, .int (x 2)])
  | 8 => .inr (.inl (qa 50 x))
  | _ => .inr (.inl (qa 50 z))
def cO3 (c : Nat) (x z : Nat → Int32) : ab_C := match c with
  | 0 => .inl (8, [.ref 31, .ref 32, .int (x 2)])
  | 1 => .inr (.inl (qa 50 x))
  | 2 => .inr (.inl (qa 50 z))
  | 3 => .inr (.inl (qa 50 x))
  | 4 => .inr (.inl (qa 20 x))
  | 5 => .inl (7, [.ref 1, .int (x 1), .ref 36, .ref 37, .ref 38, .ref 39, .int (x 6), .int (x 7), .int (x 8), .int (x 9), .int (x 10), .ref 40, .ref 43, .ref 46, .int (x 14), .ref 47, .int (x 16), .int (x 17)])
  | 6 => .inr (.inl (qa 8 x))
  | 7 => .inr (.inl (qa 8 x))
  | 8 => .inr (.inl (qa 8 x))
  | _ => .inr (.inl (qa 8 x))
def cO4 (c : Nat) (x z : Nat → Int32) : ab_C := match c with
  | 0 => .inl (8, [.ref 41, .ref 42, .int (x 2)])
  | 1 => .inr (.inl (qa 50 x))
  | 2 => .inr (.inl (qa 50 z))
  | 3 => .inl (8, [.ref 44, .ref 45, .int (x 2)])
  | 4 => .inr (.inl (qa 50 x))
  | 5 => .inr (.inl (qa 50 z))
  | 6 => .inr (.inl (qa 50 x))
  | 7 => .inr (.inl (qa 20 x))
  | 8 => .inl (9, [.ref (z 0).toNatClampNeg, .int (z 1), .ref (z 2).toNatClampNeg, .int (z 3), .int (z 4), .ref 50, .int (z 6)])
  | _ => .inr (.inl (qa 0 z))
def cO5 (c : Nat) (x z : Nat → Int32) : ab_C := match c with
  | 0 => .inr (.inl (qa 50 z))
  | 1 => .inl (10, [.ref 52, .int (x 1), .int (x 2), .int (x 3)])
  | 2 => .inr (.inl (qa 40 x))
  | 3 => .inr (.inl (qa 6 x))
  | 4 => .inr (.inr (1, (List.range 4).map (fun k => some (55 + k))))
  | 5 => .inr (.inl (qa 40 x))
  | 6 => .inr (.inl (qa 40 x))
  | 7 => .inr (.inl (qa 40 x))
  | 8 => .inr (.inl (qa 40 x))
  | _ => .inr (.inl (qa 4 x))
def cO6 (c : Nat) (x z : Nat → Int32) : ab_C := match c with
  | 0 => .inr (.inl (qa 4 x))
  | 1 => .inr (.inl (qa 5 x))
  | 2 => .inr (.inl (qa 5 x))
  | 3 => .inl (12, [.ref 64, .ref 65, .ref 66, .int (x 3), .ref 67, .ref 68, .ref 69, .ref 70, .ref 71, .int (z 9), .int (z 10), .int (z 11), .int (z 12), .int (z 13), .ref 72, .ref 73, .int (x 16), .ref 74, .int (x 18), .int (x 19), .ref 75, .int (x 21), .ref 76, .ref 77, .ref 78])
  | 4 => .inr (.inl (qa 327 x))
  | 5 => .inr (.inl (qa 327 x))
  | 6 => .inr (.inl (qa 327 x))
  | 7 => .inr (.inl (qa 6 x))
  | 8 => .inr (.inl (qa 50 z))
  | _ => .inr (.inl (qa 50 z))
def cO7 (c : Nat) (x z : Nat → Int32) : ab_C := match c with
  | 0 => .inr (.inl (qa 3 z))
  | 1 => .inr (.inl (qa 50 z))
  | 2 => .inr (.inl (qa 5 x))
  | 3 => .inr (.inl (qa 5 x))
  | 4 => .inr (.inl (qa 625 x))
  | 5 => .inr (.inl (qa 40 x))
  | 6 => .inr (.inl (qa 4 x))
  | 7 => .inr (.inl (qa 4 x))
  | 8 => .inr (.inl (qa 160 x))
  | _ => .inr (.inl [])
def cO (c : Nat) (x z : Nat → Int32) : ab_C := match c / 10 with
  | 0 => cO0 (c % 10) x z
  | 1 => cO1 (c % 10) x z
  | 2 => cO2 (c % 10) x z
  | 3 => cO3 (c % 10) x z
  | 4 => cO4 (c % 10) x z
  | 5 => cO5 (c % 10) x z
  | 6 => cO6 (c % 10) x z
  | _ => cO7 (c % 10) x z
def Wd (X Z : Nat → Nat → Int32) : ab_W := (List.range 79).map (fun c => cO c (X c) (Z c))
def u1 (f : Nat → Int32) (k : Nat) (v : Int32) : Nat → Int32 := fun i => if i = k then v else f i
def uc (X : Nat → Nat → Int32) (c : Nat) (f : Nat → Int32) : Nat → Nat → Int32 := fun i => if i = c then f else X i
def ud (X : Nat → Nat → Int32) (c k : Nat) (v : Int32) : Nat → Nat → Int32 := uc X c (u1 (X c) k v)
def bI (b : Bool) : Int32 := cond b (nI 1) (nI 0)
def SP : List (List Int32) := [[0, 0, 0, 0, 1, 2, 3]]
def EC (d j : Nat) (As : List Value) (w : ab_W) (P : ab_R → Prop) : Prop := ∃ r, ev_Call tb SP d j As w r ∧ P r
def ER (d : Nat) (M : ab_M) (pc : Nat) (L : ab_Lo) (st : List Value) (w : ab_W) (P : ab_R → Prop) : Prop := ∃ r, ev_Run tb SP SP d M (pc, L, st, w, 0, 0) r ∧ P r
theorem u1_same (f : Nat → Int32) (k : Nat) (v : Int32) : u1 f k v k = v := if_pos rfl
theorem u1_ne {f : Nat → Int32} {k i : Nat} {v : Int32} (h : i ≠ k) : u1 f k v i = f i := if_neg h
theorem u1_at (f : Nat → Int32) (k : Nat) (v : Int32) (i : Nat) : u1 f k v i = if i = k then v else f i := rfl
theorem uc_same (X : Nat → Nat → Int32) (c : Nat) (f : Nat → Int32) : uc X c f c = f := if_pos rfl
theorem uc_ne {X : Nat → Nat → Int32} {c i : Nat} {f : Nat → Int32} (h : i ≠ c) : uc X c f i = X i := if_neg h
theorem u1_id (f : Nat → Int32) (k : Nat) : u1 f k (f k) = f := by
  funext i
  unfold u1
  split
  · rename_i h; rw [h]
  · rfl
theorem uc_id (X : Nat → Nat → Int32) (c : Nat) : uc X c (X c) = X := by
  funext i
  unfold uc
  split
  · rename_i h; rw [h]
  · rfl
theorem uc_uc (X : Nat → Nat → Int32) (c : Nat) (f g : Nat → Int32) : uc (uc X c f) c g = uc X c g := by
  funext i
  unfold uc
  split <;> rfl
theorem ud_same (X : Nat → Nat → Int32) (c k : Nat) (v : Int32) : ud X c k v c = u1 (X c) k v := if_pos rfl
theorem ud_ne {X : Nat → Nat → Int32} {c i k : Nat} {v : Int32} (h : i ≠ c) : ud X c k v i = X i := if_neg h
theorem qa_len (n : Nat) (f : Nat → Int32) : (qa n f).length = n := by simp [qa]
theorem qa_at (n : Nat) (f : Nat → Int32) (k : Nat) (h : k < n) : (qa n f)[k]? = some (f k) := by
  unfold qa
  rw [List.getElem?_map, List.getElem?_range h]
  rfl
theorem qa_set (n : Nat) (f : Nat → Int32) (k : Nat) (v : Int32) : (qa n f).set k v = qa n (u1 f k v) := by
  apply List.ext_getElem?
  intro i
  rw [List.getElem?_set, qa_len]
  by_cases hi : i < n
  · rw [qa_at n f i hi, qa_at n (u1 f k v) i hi]
    unfold u1
    by_cases hk : k = i
    · subst hk; simp [hi]
    · rw [if_neg hk, if_neg (Ne.symm hk)]
  · rw [List.getElem?_eq_none (by rw [qa_len]; omega)]
    by_cases hk : k = i
    · subst hk; simp [hi, qa_len]
    · rw [if_neg hk, List.getElem?_eq_none (by rw [qa_len]; omega)]
theorem qa_cong {n : Nat} {f g : Nat → Int32} (h : ∀ i, i < n → f i = g i) : qa n f = qa n g := by
  unfold qa
  exact List.map_congr_left (fun i hi => h i (List.mem_range.mp hi))
theorem qa_ix {n : Nat} {f : Nat → Int32} {k : Nat} (h : k < n) (hn : n < 2 ^ 31) : ab_ix (qa n f) (nI k) = some (f k) := by
  unfold ab_ix
  rw [decide_eq_false (nI_pos (by omega)), nI_clamp (by omega), ab_nth_eq, qa_at n f k h]
  rfl
theorem Wd_cell {X Z : Nat → Nat → Int32} {c : Nat} (h : Nat.blt c 79 = true) : ab_cell (Wd X Z) c = some (cO c (X c) (Z c)) := by
  have h1 : c < 79 := Nat.le_of_ble_eq_true h
  unfold ab_cell Wd
  rw [show Nat.ble ab_B c = false from by
    cases hb : Nat.ble ab_B c with
    | false => rfl
    | true => have := Nat.le_of_ble_eq_true hb; simp only [ab_B] at this; omega]
  rw [ab_nth_eq, List.getElem?_map, List.getElem?_range h1]
  rfl
theorem Wd_set {X Z X' Z' : Nat → Nat → Int32} {c : Nat} {e : ab_C} (h : Nat.blt c 79 = true) (he : e = cO c (X' c) (Z' c)) (hX : ∀ i, i ≠ c → X' i = X i) (hZ : ∀ i, i ≠ c → Z' i = Z i) : (Wd X Z).set c e = Wd X' Z' := by
  have h1 : c < 79 := Nat.le_of_ble_eq_true h
  apply List.ext_getElem?
  intro i
  rw [List.getElem?_set]
  unfold Wd
  by_cases hi : c = i
  · subst hi
    rw [if_pos rfl, if_pos (by simp; exact h1), List.getElem?_map, List.getElem?_range h1, he]
    rfl
  · rw [if_neg hi, List.getElem?_map, List.getElem?_map]
    by_cases h2 : i < 79
    · rw [List.getElem?_range h2]
      simp only [Option.map_some]
      rw [hX i (Ne.symm hi), hZ i (Ne.symm hi)]
    · rw [List.getElem?_eq_none (by simp; omega)]
      rfl
theorem Wd_setX {X Z : Nat → Nat → Int32} {c : Nat} {e : ab_C} {g : Nat → Int32} (h : Nat.blt c 79 = true) (he : e = cO c g (Z c)) : (Wd X Z).set c e = Wd (uc X c g) Z :=
  Wd_set h (by rw [uc_same]; exact he) (fun _ hi => uc_ne hi) (fun _ _ => rfl)
theorem Wd_setZ {X Z : Nat → Nat → Int32} {c : Nat} {e : ab_C} {g : Nat → Int32} (h : Nat.blt c 79 = true) (he : e = cO c (X c) g) : (Wd X Z).set c e = Wd X (uc Z c g) :=
  Wd_set h (by rw [uc_same]; exact he) (fun _ _ => rfl) (fun _ hi => uc_ne hi)
theorem EC.mono {d j : Nat} {As : List Value} {w : ab_W} {P Q : ab_R → Prop} (h : EC d j As w P) (hpq : ∀ r, P r → Q r) : EC d j As w Q := by
  obtain ⟨r, h1, h2⟩ := h
  exact ⟨r, h1, hpq r h2⟩
theorem EC.up {d d' j : Nat} {As : List Value} {w : ab_W} {P : ab_R → Prop} (h : EC d j As w P) (hd : d ≤ d') : EC d' j As w P := by
  obtain ⟨r, h1, h2⟩ := h
  exact ⟨r, ev_up hd h1, h2⟩
theorem ER.mono {d pc : Nat} {M : ab_M} {L : ab_Lo} {st : List Value} {w : ab_W} {P Q : ab_R → Prop} (h : ER d M pc L st w P) (hpq : ∀ r, P r → Q r) : ER d M pc L st w Q := by
  obtain ⟨r, h1, h2⟩ := h
  exact ⟨r, h1, hpq r h2⟩
section ERS
variable {d pc pc' lk : Nat} {M : ab_M} {L L' : ab_Lo} {st : List Value} {w : ab_W} {P : ab_R → Prop} {X Z : Nat → Nat → Int32}
theorem er_of {st' : List Value} {w' : ab_W} {r0 : ab_R → Prop} (h : ∀ r, ev_Run tb SP SP d M (pc', L', st', w', 0, 0) r → ev_Run tb SP SP d M (pc, L, st, w, 0, 0) r) (k : ER d M pc' L' st' w' P) : ER d M pc L st w P := by
  obtain ⟨r, h1, h2⟩ := k
  exact ⟨r, h r h1, h2⟩
theorem er_enter {j : Nat} {As : List Value} (hM : ab_nth tb.2.2.2.2.1 j = some M) (hs : Nat.ble ((As.map fun v => v.category).sum) M.2.2.1 = true) (hL : lv_args 0 As = L) (k : ER d M 0 L [] w P) : EC (d + 1) j As w P := by
  obtain ⟨r, h1, h2⟩ := k
  subst hL
  exact ⟨r, ev_enter hM hs h1, h2⟩
theorem er_pure {st st' : List Value} {ins : Instr} (hf : ab_fetch M.2.2.2.2.2.2.2 pc = some (ins, lk)) (h : ab_pure ins st = some st') (hp : pc + ab_len ins = pc') (k : ER d M pc' L st' w P) : ER d M pc L st w P := by
  obtain ⟨r, h1, h2⟩ := k
  subst hp
  exact ⟨r, ev_pure hf h h1, h2⟩
theorem er_loc {st st' : List Value} {ins : Instr} (hf : ab_fetch M.2.2.2.2.2.2.2 pc = some (ins, lk)) (h : ab_loc M.2.2.1 ins L st = some (L', st')) (hp : pc + ab_len ins = pc') (k : ER d M pc' L' st' w P) : ER d M pc L st w P := by
  obtain ⟨r, h1, h2⟩ := k
  subst hp
  exact ⟨r, ev_loc hf h h1, h2⟩
theorem er_goto {off : Int} (hf : ab_fetch M.2.2.2.2.2.2.2 pc = some (.goto off, lk)) (k : ER d M lk L st w P) : ER d M pc L st w P := by
  obtain ⟨r, h1, h2⟩ := k
  exact ⟨r, ev_goto hf h1, h2⟩
theorem er_br {st st' : List Value} {ins : Instr} (hf : ab_fetch M.2.2.2.2.2.2.2 pc = some (ins, lk)) (h : ab_br ins pc lk st = some (pc', st')) (k : ER d M pc' L st' w P) : ER d M pc L st w P := by
  obtain ⟨r, h1, h2⟩ := k
  exact ⟨r, ev_br hf h h1, h2⟩
theorem er_iadd {x y : Int32} (hf : ab_fetch M.2.2.2.2.2.2.2 pc = some (.iadd, lk)) (hp : pc + 1 = pc') (k : ER d M pc' L (.int (x + y) :: st) w P) : ER d M pc L (.int y :: .int x :: st) w P := er_pure hf (by rfl) hp k
theorem er_isub {x y : Int32} (hf : ab_fetch M.2.2.2.2.2.2.2 pc = some (.isub, lk)) (hp : pc + 1 = pc') (k : ER d M pc' L (.int (x - y) :: st) w P) : ER d M pc L (.int y :: .int x :: st) w P := er_pure hf (by rfl) hp k
theorem er_imul {x y : Int32} (hf : ab_fetch M.2.2.2.2.2.2.2 pc = some (.imul, lk)) (hp : pc + 1 = pc') (k : ER d M pc' L (.int (x * y) :: st) w P) : ER d M pc L (.int y :: .int x :: st) w P := er_pure hf (by rfl) hp k
theorem er_iand {x y : Int32} (hf : ab_fetch M.2.2.2.2.2.2.2 pc = some (.iand, lk)) (hp : pc + 1 = pc') (k : ER d M pc' L (.int (x &&& y) :: st) w P) : ER d M pc L (.int y :: .int x :: st) w P := er_pure hf (by rfl) hp k
theorem er_ior {x y : Int32} (hf : ab_fetch M.2.2.2.2.2.2.2 pc = some (.ior, lk)) (hp : pc + 1 = pc') (k : ER d M pc' L (.int (x ||| y) :: st) w P) : ER d M pc L (.int y :: .int x :: st) w P := er_pure hf (by rfl) hp k
theorem er_ixor {x y : Int32} (hf : ab_fetch M.2.2.2.2.2.2.2 pc = some (.ixor, lk)) (hp : pc + 1 = pc') (k : ER d M pc' L (.int (x ^^^ y) :: st) w P) : ER d M pc L (.int y :: .int x :: st) w P := er_pure hf (by rfl) hp k
theorem er_ishl {x y : Int32} (hf : ab_fetch M.2.2.2.2.2.2.2 pc = some (.ishl, lk)) (hp : pc + 1 = pc') (k : ER d M pc' L (.int (x <<< (y &&& 31)) :: st) w P) : ER d M pc L (.int y :: .int x :: st) w P := er_pure hf (by rfl) hp k
theorem er_ishr {x y : Int32} (hf : ab_fetch M.2.2.2.2.2.2.2 pc = some (.ishr, lk)) (hp : pc + 1 = pc') (k : ER d M pc' L (.int (x >>> (y &&& 31)) :: st) w P) : ER d M pc L (.int y :: .int x :: st) w P := er_pure hf (by rfl) hp k
theorem er_iushr {x y : Int32} (hf : ab_fetch M.2.2.2.2.2.2.2 pc = some (.iushr, lk)) (hp : pc + 1 = pc') (k : ER d M pc' L (.int ((x.toUInt32 >>> (y.toUInt32 &&& Int32.toUInt32 31)).toInt32) :: st) w P) : ER d M pc L (.int y :: .int x :: st) w P := er_pure hf (by rfl) hp k
theorem er_ineg {x : Int32} (hf : ab_fetch M.2.2.2.2.2.2.2 pc = some (.ineg, lk)) (hp : pc + 1 = pc') (k : ER d M pc' L (.int (-x) :: st) w P) : ER d M pc L (.int x :: st) w P := er_pure hf (by rfl) hp k
theorem er_i2b {x : Int32} (hf : ab_fetch M.2.2.2.2.2.2.2 pc = some (.i2b, lk)) (hp : pc + 1 = pc') (k : ER d M pc' L (.int x.toInt8.toInt32 :: st) w P) : ER d M pc L (.int x :: st) w P := er_pure hf (by rfl) hp k
theorem er_i2s {x : Int32} (hf : ab_fetch M.2.2.2.2.2.2.2 pc = some (.i2s, lk)) (hp : pc + 1 = pc') (k : ER d M pc' L (.int x.toInt16.toInt32 :: st) w P) : ER d M pc L (.int x :: st) w P := er_pure hf (by rfl) hp k
theorem er_i2c {x : Int32} (hf : ab_fetch M.2.2.2.2.2.2.2 pc = some (.i2c, lk)) (hp : pc + 1 = pc') (k : ER d M pc' L (.int ((x.toUInt32 % 65536).toInt32) :: st) w P) : ER d M pc L (.int x :: st) w P := er_pure hf (by rfl) hp k
theorem er_idiv {x y : Int32} (hf : ab_fetch M.2.2.2.2.2.2.2 pc = some (.idiv, lk)) (hp : pc + 1 = pc') (h0 : ¬ y = 0) (k : ER d M pc' L (.int (x / y) :: st) w P) : ER d M pc L (.int y :: .int x :: st) w P := er_pure hf (by simp only [ab_pure, ab_d2, decide_eq_false h0, cond_false]) hp k
theorem er_irem {x y : Int32} (hf : ab_fetch M.2.2.2.2.2.2.2 pc = some (.irem, lk)) (hp : pc + 1 = pc') (h0 : ¬ y = 0) (k : ER d M pc' L (.int (x - x / y * y) :: st) w P) : ER d M pc L (.int y :: .int x :: st) w P := er_pure hf (by simp only [ab_pure, ab_d2, decide_eq_false h0, cond_false]) hp k
def kv (ins : Instr) : Option Int32 := match ins with
  | .iconst n => some (Int32.ofInt n)
  | .bipush n => some (Int8.ofInt n).toInt32
  | .sipush n => some (Int16.ofInt n).toInt32
  | _ => none
theorem er_k (v : Int32) {ins : Instr} (hf : ab_fetch M.2.2.2.2.2.2.2 pc = some (ins, lk)) (hv : kv ins = some v) (hp : pc + ab_len ins = pc') (k : ER d M pc' L (.int v :: st) w P) : ER d M pc L st w P := by
  refine er_pure hf ?_ hp k
  cases ins <;> cases hv <;> rfl
theorem er_ldc (v : Int32) {ins : Instr} {q : ab_K} (hf : ab_fetch M.2.2.2.2.2.2.2 pc = some (ins, lk)) (hq : ab_nth tb.2.2.1 lk = some q) (hv : q.2.2.1 = .int v) (hi : (match ins with
    | .ldc _ => true
    | .ldc_w _ => true
    | _ => false) = true) (hp : pc + ab_len ins = pc') (k : ER d M pc' L (.int v :: st) w P) : ER d M pc L st w P := by
  obtain ⟨r, h1, h2⟩ := k
  subst hp
  refine ⟨r, ev_heap hf ?_ h1, h2⟩
  rw [← hv]
  cases ins <;> first | (simp only [ab_heap, hq]; done) | (cases hi; done)
theorem er_ret (v : Option Value) {ins : Instr} (hf : ab_fetch M.2.2.2.2.2.2.2 pc = some (ins, lk)) (h : ab_ret M.2.2.2.1 ins st = some v) (hP : P (v, w)) : ER d M pc L st w P := ⟨_, ev_ret hf h, hP⟩
theorem er_iret {v : Int32} (hf : ab_fetch M.2.2.2.2.2.2.2 pc = some (.ireturn, lk)) (ht : M.2.2.2.1 = some .int) (hP : P (some (.int v), w)) : ER d M pc L [.int v] w P := er_ret _ hf (by rw [ht]; rfl) hP
theorem er_zret {b : Bool} (hf : ab_fetch M.2.2.2.2.2.2.2 pc = some (.ireturn, lk)) (ht : M.2.2.2.1 = some .boolean) (hP : P (some (.int (bI b)), w)) : ER d M pc L [.int (bI b)] w P := er_ret _ hf (by rw [ht]; cases b <;> rfl) hP
theorem er_vret (hf : ab_fetch M.2.2.2.2.2.2.2 pc = some (.return_, lk)) (ht : M.2.2.2.1 = none) (hP : P (none, w)) : ER d M pc L [] w P := er_ret _ hf (by rw [ht]; rfl) hP
theorem er_cm_eqT {x y : Int32} {off : Int} (hf : ab_fetch M.2.2.2.2.2.2.2 pc = some (.if_icmp .eq off, lk)) (h : x = y) (k : ER d M lk L st w P) : ER d M pc L (.int y :: .int x :: st) w P := by
  have e : ab_c2 .eq x y = true := by simp only [ab_c1, ab_c2]; simp [h, ← Int32.not_lt]
  refine er_br hf ?_ k
  show some (cond (ab_c2 .eq x y) lk (pc + 3), st) = _
  rw [e]; rfl
theorem er_cm_eqF {x y : Int32} {off : Int} (hf : ab_fetch M.2.2.2.2.2.2.2 pc = some (.if_icmp .eq off, lk)) (h : ¬ x = y) (hp : pc + 3 = pc') (k : ER d M pc' L st w P) : ER d M pc L (.int y :: .int x :: st) w P := by
  have e : ab_c2 .eq x y = false := by simp only [ab_c1, ab_c2]; simp [h, ← Int32.not_lt]
  subst hp
  refine er_br hf ?_ k
  show some (cond (ab_c2 .eq x y) lk (pc + 3), st) = _
  rw [e]; rfl
theorem er_cm_eq {x y : Int32} {off : Int} (hf : ab_fetch M.2.2.2.2.2.2.2 pc = some (.if_icmp .eq off, lk)) (hp : pc + 3 = pc') (k1 : x = y → ER d M lk L st w P) (k2 : ¬ x = y → ER d M pc' L st w P) : ER d M pc L (.int y :: .int x :: st) w P := by
  by_cases h : x = y
  · exact er_cm_eqT hf h (k1 h)
  · exact er_cm_eqF hf h hp (k2 h)
theorem er_if_eqT {x : Int32} {off : Int} (hf : ab_fetch M.2.2.2.2.2.2.2 pc = some (.ifCond .eq off, lk)) (h : x = 0) (k : ER d M lk L st w P) : ER d M pc L (.int x :: st) w P := by
  have e : ab_c1 .eq x = true := by simp only [ab_c1, ab_c2]; simp [h, ← Int32.not_lt]
  refine er_br hf ?_ k
  show some (cond (ab_c1 .eq x) lk (pc + 3), st) = _
  rw [e]; rfl
theorem er_if_eqF {x : Int32} {off : Int} (hf : ab_fetch M.2.2.2.2.2.2.2 pc = some (.ifCond .eq off, lk)) (h : ¬ x = 0) (hp : pc + 3 = pc') (k : ER d M pc' L st w P) : ER d M pc L (.int x :: st) w P := by
  have e : ab_c1 .eq x = false := by simp only [ab_c1, ab_c2]; simp [h, ← Int32.not_lt]
  subst hp
  refine er_br hf ?_ k
  show some (cond (ab_c1 .eq x) lk (pc + 3), st) = _
  rw [e]; rfl
theorem er_if_eq {x : Int32} {off : Int} (hf : ab_fetch M.2.2.2.2.2.2.2 pc = some (.ifCond .eq off, lk)) (hp : pc + 3 = pc') (k1 : x = 0 → ER d M lk L st w P) (k2 : ¬ x = 0 → ER d M pc' L st w P) : ER d M pc L (.int x :: st) w P := by
  by_cases h : x = 0
  · exact er_if_eqT hf h (k1 h)
  · exact er_if_eqF hf h hp (k2 h)
theorem er_cm_neT {x y : Int32} {off : Int} (hf : ab_fetch M.2.2.2.2.2.2.2 pc = some (.if_icmp .ne off, lk)) (h : ¬ x = y) (k : ER d M lk L st w P) : ER d M pc L (.int y :: .int x :: st) w P := by
  have e : ab_c2 .ne x y = true := by simp only [ab_c1, ab_c2]; simp [h, ← Int32.not_lt]
  refine er_br hf ?_ k
  show some (cond (ab_c2 .ne x y) lk (pc + 3), st) = _
  rw [e]; rfl
theorem er_cm_neF {x y : Int32} {off : Int} (hf : ab_fetch M.2.2.2.2.2.2.2 pc = some (.if_icmp .ne off, lk)) (h : x = y) (hp : pc + 3 = pc') (k : ER d M pc' L st w P) : ER d M pc L (.int y :: .int x :: st) w P := by
  have e : ab_c2 .ne x y = false := by simp only [ab_c1, ab_c2]; simp [h, ← Int32.not_lt]
  subst hp
  refine er_br hf ?_ k
  show some (cond (ab_c2 .ne x y) lk (pc + 3), st) = _
  rw [e]; rfl
theorem er_cm_ne {x y : Int32} {off : Int} (hf : ab_fetch M.2.2.2.2.2.2.2 pc = some (.if_icmp .ne off, lk)) (hp : pc + 3 = pc') (k1 : ¬ x = y → ER d M lk L st w P) (k2 : x = y → ER d M pc' L st w P) : ER d M pc L (.int y :: .int x :: st) w P := by
  by_cases h : x = y
  · exact er_cm_neF hf h hp (k2 h)
  · exact er_cm_neT hf h (k1 h)
theorem er_if_neT {x : Int32} {off : Int} (hf : ab_fetch M.2.2.2.2.2.2.2 pc = some (.ifCond .ne off, lk)) (h : ¬ x = 0) (k : ER d M lk L st w P) : ER d M pc L (.int x :: st) w P := by
  have e : ab_c1 .ne x = true := by simp only [ab_c1, ab_c2]; simp [h, ← Int32.not_lt]
  refine er_br hf ?_ k
  show some (cond (ab_c1 .ne x) lk (pc + 3), st) = _
  rw [e]; rfl
theorem er_if_neF {x : Int32} {off : Int} (hf : ab_fetch M.2.2.2.2.2.2.2 pc = some (.ifCond .ne off, lk)) (h : x = 0) (hp : pc + 3 = pc') (k : ER d M pc' L st w P) : ER d M pc L (.int x :: st) w P := by
  have e : ab_c1 .ne x = false := by simp only [ab_c1, ab_c2]; simp [h, ← Int32.not_lt]
  subst hp
  refine er_br hf ?_ k
  show some (cond (ab_c1 .ne x) lk (pc + 3), st) = _
  rw [e]; rfl
theorem er_if_ne {x : Int32} {off : Int} (hf : ab_fetch M.2.2.2.2.2.2.2 pc = some (.ifCond .ne off, lk)) (hp : pc + 3 = pc') (k1 : ¬ x = 0 → ER d M lk L st w P) (k2 : x = 0 → ER d M pc' L st w P) : ER d M pc L (.int x :: st) w P := by
  by_cases h : x = 0
  · exact er_if_neF hf h hp (k2 h)
  · exact er_if_neT hf h (k1 h)
theorem er_cm_ltT {x y : Int32} {off : Int} (hf : ab_fetch M.2.2.2.2.2.2.2 pc = some (.if_icmp .lt off, lk)) (h : x < y) (k : ER d M lk L st w P) : ER d M pc L (.int y :: .int x :: st) w P := by
  have e : ab_c2 .lt x y = true := by simp only [ab_c1, ab_c2]; simp [h, ← Int32.not_lt]
  refine er_br hf ?_ k
  show some (cond (ab_c2 .lt x y) lk (pc + 3), st) = _
  rw [e]; rfl
theorem er_cm_ltF {x y : Int32} {off : Int} (hf : ab_fetch M.2.2.2.2.2.2.2 pc = some (.if_icmp .lt off, lk)) (h : ¬ x < y) (hp : pc + 3 = pc') (k : ER d M pc' L st w P) : ER d M pc L (.int y :: .int x :: st) w P := by
  have e : ab_c2 .lt x y = false := by simp only [ab_c1, ab_c2]; simp [h, ← Int32.not_lt]
  subst hp
  refine er_br hf ?_ k
  show some (cond (ab_c2 .lt x y) lk (pc + 3), st) = _
  rw [e]; rfl
theorem er_cm_lt {x y : Int32} {off : Int} (hf : ab_fetch M.2.2.2.2.2.2.2 pc = some (.if_icmp .lt off, lk)) (hp : pc + 3 = pc') (k1 : x < y → ER d M lk L st w P) (k2 : ¬ x < y → ER d M pc' L st w P) : ER d M pc L (.int y :: .int x :: st) w P := by
  by_cases h : x < y
  · exact er_cm_ltT hf h (k1 h)
  · exact er_cm_ltF hf h hp (k2 h)
theorem er_if_ltT {x : Int32} {off : Int} (hf : ab_fetch M.2.2.2.2.2.2.2 pc = some (.ifCond .lt off, lk)) (h : x < 0) (k : ER d M lk L st w P) : ER d M pc L (.int x :: st) w P := by
  have e : ab_c1 .lt x = true := by simp only [ab_c1, ab_c2]; simp [h, ← Int32.not_lt]
  refine er_br hf ?_ k
  show some (cond (ab_c1 .lt x) lk (pc + 3), st) = _
  rw [e]; rfl
theorem er_if_ltF {x : Int32} {off : Int} (hf : ab_fetch M.2.2.2.2.2.2.2 pc = some (.ifCond .lt off, lk)) (h : ¬ x < 0) (hp : pc + 3 = pc') (k : ER d M pc' L st w P) : ER d M pc L (.int x :: st) w P := by
  have e : ab_c1 .lt x = false := by simp only [ab_c1, ab_c2]; simp [h, ← Int32.not_lt]
  subst hp
  refine er_br hf ?_ k
  show some (cond (ab_c1 .lt x) lk (pc + 3), st) = _
  rw [e]; rfl
theorem er_if_lt {x : Int32} {off : Int} (hf : ab_fetch M.2.2.2.2.2.2.2 pc = some (.ifCond .lt off, lk)) (hp : pc + 3 = pc') (k1 : x < 0 → ER d M lk L st w P) (k2 : ¬ x < 0 → ER d M pc' L st w P) : ER d M pc L (.int x :: st) w P := by
  by_cases h : x < 0
  · exact er_if_ltT hf h (k1 h)
  · exact er_if_ltF hf h hp (k2 h)
theorem er_cm_geT {x y : Int32} {off : Int} (hf : ab_fetch M.2.2.2.2.2.2.2 pc = some (.if_icmp .ge off, lk)) (h : ¬ x < y) (k : ER d M lk L st w P) : ER d M pc L (.int y :: .int x :: st) w P := by
  have e : ab_c2 .ge x y = true := by simp only [ab_c1, ab_c2]; simp [h, ← Int32.not_lt]
  refine er_br hf ?_ k
  show some (cond (ab_c2 .ge x y) lk (pc + 3), st) = _
  rw [e]; rfl
theorem er_cm_geF {x y : Int32} {off : Int} (hf : ab_fetch M.2.2.2.2.2.2.2 pc = some (.if_icmp .ge off, lk)) (h : x < y) (hp : pc + 3 = pc') (k : ER d M pc' L st w P) : ER d M pc L (.int y :: .int x :: st) w P := by
  have e : ab_c2 .ge x y = false := by simp only [ab_c1, ab_c2]; simp [h, ← Int32.not_lt]
  subst hp
  refine er_br hf ?_ k
  show some (cond (ab_c2 .ge x y) lk (pc + 3), st) = _
  rw [e]; rfl
theorem er_cm_ge {x y : Int32} {off : Int} (hf : ab_fetch M.2.2.2.2.2.2.2 pc = some (.if_icmp .ge off, lk)) (hp : pc + 3 = pc') (k1 : ¬ x < y → ER d M lk L st w P) (k2 : x < y → ER d M pc' L st w P) : ER d M pc L (.int y :: .int x :: st) w P := by
  by_cases h : x < y
  · exact er_cm_geF hf h hp (k2 h)
  · exact er_cm_geT hf h (k1 h)
theorem er_if_geT {x : Int32} {off : Int} (hf : ab_fetch M.2.2.2.2.2.2.2 pc = some (.ifCond .ge off, lk)) (h : ¬ x < 0) (k : ER d M lk L st w P) : ER d M pc L (.int x :: st) w P := by
  have e : ab_c1 .ge x = true := by simp only [ab_c1, ab_c2]; simp [h, ← Int32.not_lt]
  refine er_br hf ?_ k
  show some (cond (ab_c1 .ge x) lk (pc + 3), st) = _
  rw [e]; rfl
theorem er_if_geF {x : Int32} {off : Int} (hf : ab_fetch M.2.2.2.2.2.2.2 pc = some (.ifCond .ge off, lk)) (h : x < 0) (hp : pc + 3 = pc') (k : ER d M pc' L st w P) : ER d M pc L (.int x :: st) w P := by
  have e : ab_c1 .ge x = false := by simp only [ab_c1, ab_c2]; simp [h, ← Int32.not_lt]
  subst hp
  refine er_br hf ?_ k
  show some (cond (ab_c1 .ge x) lk (pc + 3), st) = _
  rw [e]; rfl
theorem er_if_ge {x : Int32} {off : Int} (hf : ab_fetch M.2.2.2.2.2.2.2 pc = some (.ifCond .ge off, lk)) (hp : pc + 3 = pc') (k1 : ¬ x < 0 → ER d M lk L st w P) (k2 : x < 0 → ER d M pc' L st w P) : ER d M pc L (.int x :: st) w P := by
  by_cases h : x < 0
  · exact er_if_geF hf h hp (k2 h)
  · exact er_if_geT hf h (k1 h)
theorem er_cm_gtT {x y : Int32} {off : Int} (hf : ab_fetch M.2.2.2.2.2.2.2 pc = some (.if_icmp .gt off, lk)) (h : y < x) (k : ER d M lk L st w P) : ER d M pc L (.int y :: .int x :: st) w P := by
  have e : ab_c2 .gt x y = true := by simp only [ab_c1, ab_c2]; simp [h, ← Int32.not_lt]
  refine er_br hf ?_ k
  show some (cond (ab_c2 .gt x y) lk (pc + 3), st) = _
  rw [e]; rfl
theorem er_cm_gtF {x y : Int32} {off : Int} (hf : ab_fetch M.2.2.2.2.2.2.2 pc = some (.if_icmp .gt off, lk)) (h : ¬ y < x) (hp : pc + 3 = pc') (k : ER d M pc' L st w P) : ER d M pc L (.int y :: .int x :: st) w P := by
  have e : ab_c2 .gt x y = false := by simp only [ab_c1, ab_c2]; simp [h, ← Int32.not_lt]
  subst hp
  refine er_br hf ?_ k
  show some (cond (ab_c2 .gt x y) lk (pc + 3), st) = _
  rw [e]; rfl
theorem er_cm_gt {x y : Int32} {off : Int} (hf : ab_fetch M.2.2.2.2.2.2.2 pc = some (.if_icmp .gt off, lk)) (hp : pc + 3 = pc') (k1 : y < x → ER d M lk L st w P) (k2 : ¬ y < x → ER d M pc' L st w P) : ER d M pc L (.int y :: .int x :: st) w P := by
  by_cases h : y < x
  · exact er_cm_gtT hf h (k1 h)
  · exact er_cm_gtF hf h hp (k2 h)
theorem er_if_gtT {x : Int32} {off : Int} (hf : ab_fetch M.2.2.2.2.2.2.2 pc = some (.ifCond .gt off, lk)) (h : 0 < x) (k : ER d M lk L st w P) : ER d M pc L (.int x :: st) w P := by
  have e : ab_c1 .gt x = true := by simp only [ab_c1, ab_c2]; simp [h, ← Int32.not_lt]
  refine er_br hf ?_ k
  show some (cond (ab_c1 .gt x) lk (pc + 3), st) = _
  rw [e]; rfl
theorem er_if_gtF {x : Int32} {off : Int} (hf : ab_fetch M.2.2.2.2.2.2.2 pc = some (.ifCond .gt off, lk)) (h : ¬ 0 < x) (hp : pc + 3 = pc') (k : ER d M pc' L st w P) : ER d M pc L (.int x :: st) w P := by
  have e : ab_c1 .gt x = false := by simp only [ab_c1, ab_c2]; simp [h, ← Int32.not_lt]
  subst hp
  refine er_br hf ?_ k
  show some (cond (ab_c1 .gt x) lk (pc + 3), st) = _
  rw [e]; rfl
theorem er_if_gt {x : Int32} {off : Int} (hf : ab_fetch M.2.2.2.2.2.2.2 pc = some (.ifCond .gt off, lk)) (hp : pc + 3 = pc') (k1 : 0 < x → ER d M lk L st w P) (k2 : ¬ 0 < x → ER d M pc' L st w P) : ER d M pc L (.int x :: st) w P := by
  by_cases h : 0 < x
  · exact er_if_gtT hf h (k1 h)
  · exact er_if_gtF hf h hp (k2 h)
theorem er_cm_leT {x y : Int32} {off : Int} (hf : ab_fetch M.2.2.2.2.2.2.2 pc = some (.if_icmp .le off, lk)) (h : ¬ y < x) (k : ER d M lk L st w P) : ER d M pc L (.int y :: .int x :: st) w P := by
  have e : ab_c2 .le x y = true := by simp only [ab_c1, ab_c2]; simp [h, ← Int32.not_lt]
  refine er_br hf ?_ k
  show some (cond (ab_c2 .le x y) lk (pc + 3), st) = _
  rw [e]; rfl
theorem er_cm_leF {x y : Int32} {off : Int} (hf : ab_fetch M.2.2.2.2.2.2.2 pc = some (.if_icmp .le off, lk)) (h : y < x) (hp : pc + 3 = pc') (k : ER d M pc' L st w P) : ER d M pc L (.int y :: .int x :: st) w P := by
  have e : ab_c2 .le x y = false := by simp only [ab_c1, ab_c2]; simp [h, ← Int32.not_lt]
  subst hp
  refine er_br hf ?_ k
  show some (cond (ab_c2 .le x y) lk (pc + 3), st) = _
  rw [e]; rfl
theorem er_cm_le {x y : Int32} {off : Int} (hf : ab_fetch M.2.2.2.2.2.2.2 pc = some (.if_icmp .le off, lk)) (hp : pc + 3 = pc') (k1 : ¬ y < x → ER d M lk L st w P) (k2 : y < x → ER d M pc' L st w P) : ER d M pc L (.int y :: .int x :: st) w P := by
  by_cases h : y < x
  · exact er_cm_leF hf h hp (k2 h)
  · exact er_cm_leT hf h (k1 h)
theorem er_if_leT {x : Int32} {off : Int} (hf : ab_fetch M.2.2.2.2.2.2.2 pc = some (.ifCond .le off, lk)) (h : ¬ 0 < x) (k : ER d M lk L st w P) : ER d M pc L (.int x :: st) w P := by
  have e : ab_c1 .le x = true := by simp only [ab_c1, ab_c2]; simp [h, ← Int32.not_lt]
  refine er_br hf ?_ k
  show some (cond (ab_c1 .le x) lk (pc + 3), st) = _
  rw [e]; rfl
theorem er_if_leF {x : Int32} {off : Int} (hf : ab_fetch M.2.2.2.2.2.2.2 pc = some (.ifCond .le off, lk)) (h : 0 < x) (hp : pc + 3 = pc') (k : ER d M pc' L st w P) : ER d M pc L (.int x :: st) w P := by
  have e : ab_c1 .le x = false := by simp only [ab_c1, ab_c2]; simp [h, ← Int32.not_lt]
  subst hp
  refine er_br hf ?_ k
  show some (cond (ab_c1 .le x) lk (pc + 3), st) = _
  rw [e]; rfl
theorem er_if_le {x : Int32} {off : Int} (hf : ab_fetch M.2.2.2.2.2.2.2 pc = some (.ifCond .le off, lk)) (hp : pc + 3 = pc') (k1 : ¬ 0 < x → ER d M lk L st w P) (k2 : 0 < x → ER d M pc' L st w P) : ER d M pc L (.int x :: st) w P := by
  by_cases h : 0 < x
  · exact er_if_leF hf h hp (k2 h)
  · exact er_if_leT hf h (k1 h)
theorem er_if_eqb {b : Bool} {off : Int} (hf : ab_fetch M.2.2.2.2.2.2.2 pc = some (.ifCond .eq off, lk)) (hp : pc + 3 = pc') (k1 : b = false → ER d M lk L st w P) (k2 : b = true → ER d M pc' L st w P) : ER d M pc L (.int (bI b) :: st) w P := by
  cases hb : b with
  | false => exact er_if_eqT hf (by decide +kernel) (k1 hb)
  | true => exact er_if_eqF hf (by show ¬ nI 1 = 0; decide +kernel) hp (k2 hb)
theorem er_if_neb {b : Bool} {off : Int} (hf : ab_fetch M.2.2.2.2.2.2.2 pc = some (.ifCond .ne off, lk)) (hp : pc + 3 = pc') (k1 : b = true → ER d M lk L st w P) (k2 : b = false → ER d M pc' L st w P) : ER d M pc L (.int (bI b) :: st) w P := by
  cases hb : b with
  | true => exact er_if_neT hf (by show ¬ nI 1 = 0; decide +kernel) (k1 hb)
  | false => exact er_if_neF hf (by decide +kernel) hp (k2 hb)
def gfO (lk : Nat) (e : ab_C) : Option Value := match ab_nth tb.1 lk with
  | some f => match e with
    | .inl o => cond (Nat.beq o.1 f.2.2.1) (ab_nth o.2 f.2.2.2.1) none
    | _ => none
  | none => none
theorem er_gf (v : Value) {c : Nat} {i : Nat} {e : ab_C} (hf : ab_fetch M.2.2.2.2.2.2.2 pc = some (.getfield i, lk)) (hc : Nat.blt c 79 = true) (he : cO c (X c) (Z c) = e) (hv : gfO lk e = some v) (hp : pc + 3 = pc') (k : ER d M pc' L (v :: st) (Wd X Z) P) : ER d M pc L (.ref c :: st) (Wd X Z) P := by
  obtain ⟨r, h1, h2⟩ := k
  subst hp
  refine ⟨r, ev_heap hf ?_ h1, h2⟩
  subst he
  unfold gfO at hv
  simp only [ab_heap]
  split at hv
  · rename_i f hq
    rw [hq, Wd_cell hc]
    dsimp only
    split at hv
    · rename_i o ho
      rw [ho]
      dsimp only
      cases hb : Nat.beq o.1 f.2.2.1 with
      | false => rw [hb] at hv; cases hv
      | true =>
        rw [hb] at hv
        simp only [cond_true] at hv ⊢
        rw [hv]
    · cases hv
  · cases hv
def pfO (lk : Nat) (v : Value) (e : ab_C) : Option ab_C := match ab_nth tb.1 lk with
  | some f => match e with
    | .inl o => cond (Nat.beq o.1 f.2.2.1 && ab_fit f.2.2.2.2.2.1 v && Nat.blt f.2.2.2.1 o.2.length) (some (.inl (o.1, o.2.set f.2.2.2.1 v))) none
    | _ => none
  | none => none
theorem er_pf {v : Value} {c i : Nat} {e e' : ab_C} {X' Z' : Nat → Nat → Int32} (hf : ab_fetch M.2.2.2.2.2.2.2 pc = some (.putfield i, lk)) (hc : Nat.blt c 79 = true) (he : cO c (X c) (Z c) = e) (hv : pfO lk v e = some e') (hw : (Wd X Z).set c e' = Wd X' Z') (hp : pc + 3 = pc') (k : ER d M pc' L st (Wd X' Z') P) : ER d M pc L (v :: .ref c :: st) (Wd X Z) P := by
  obtain ⟨r, h1, h2⟩ := k
  subst hp
  refine ⟨r, ev_heap hf ?_ h1, h2⟩
  subst he
  unfold pfO at hv
  simp only [ab_heap]
  split at hv
  · rename_i f hq
    rw [hq, Wd_cell hc]
    dsimp only
    split at hv
    · rename_i o ho
      rw [ho]
      dsimp only
      cases hb : (Nat.beq o.1 f.2.2.1 && ab_fit f.2.2.2.2.2.1 v && Nat.blt f.2.2.2.1 o.2.length) with
      | false => rw [hb] at hv; cases hv
      | true =>
        rw [hb] at hv
        simp only [cond_true, Option.some.injEq] at hv
        rw [Bool.and_eq_true] at hb
        rw [hb.1]
        have hlt : f.2.2.2.1 < o.2.length := Nat.le_of_ble_eq_true hb.2
        simp only [cond_true]
        rw [ab_nth_eq, List.getElem?_eq_getElem hlt]
        dsimp only
        rw [hv, hw]
    · cases hv
  · cases hv
theorem er_pfX {v : Value} {c i : Nat} {e e' : ab_C} (g : Nat → Int32) (hf : ab_fetch M.2.2.2.2.2.2.2 pc = some (.putfield i, lk)) (hc : Nat.blt c 79 = true) (he : cO c (X c) (Z c) = e) (hv : pfO lk v e = some e') (hg : e' = cO c g (Z c)) (hp : pc + 3 = pc') (k : ER d M pc' L st (Wd (uc X c g) Z) P) : ER d M pc L (v :: .ref c :: st) (Wd X Z) P :=
  er_pf hf hc he hv (Wd_setX hc hg) hp k
theorem er_pfZ {v : Value} {c i : Nat} {e e' : ab_C} (g : Nat → Int32) (hf : ab_fetch M.2.2.2.2.2.2.2 pc = some (.putfield i, lk)) (hc : Nat.blt c 79 = true) (he : cO c (X c) (Z c) = e) (hv : pfO lk v e = some e') (hg : e' = cO c (X c) g) (hp : pc + 3 = pc') (k : ER d M pc' L st (Wd X (uc Z c g)) P) : ER d M pc L (v :: .ref c :: st) (Wd X Z) P :=
  er_pf hf hc he hv (Wd_setZ hc hg) hp k
theorem ab_arr_cell {sp : List (List Int32)} {w : ab_W} {c : Nat} {xs : List Int32} (h : ab_cell w c = some (.inr (.inl xs))) : ab_arr sp w c = some xs := by
  have h1 := h
  unfold ab_cell at h
  cases hb : Nat.ble ab_B c with
  | true => rw [hb] at h; cases h
  | false =>
    rw [hb] at h
    simp only [cond_false] at h
    unfold ab_arr
    rw [hb, h]
    rfl
theorem er_ia (k : Nat) {c n : Nat} {i : Int32} {f : Nat → Int32} (hf : ab_fetch M.2.2.2.2.2.2.2 pc = some (.iaload, lk)) (hc : Nat.blt c 79 = true) (he : cO c (X c) (Z c) = .inr (.inl (qa n f))) (hi : i = nI k) (hk : k < n) (hn : Nat.ble n 1000 = true) (hp : pc + 1 = pc') (kk : ER d M pc' L (.int (f k) :: st) (Wd X Z) P) : ER d M pc L (.int i :: .ref c :: st) (Wd X Z) P := by
  obtain ⟨r, h1, h2⟩ := kk
  subst hp
  subst hi
  refine ⟨r, ev_heap hf ?_ h1, h2⟩
  have hn' := Nat.le_of_ble_eq_true hn
  simp only [ab_heap]
  rw [ab_arr_cell ((Wd_cell hc).trans (congrArg some he))]
  dsimp only
  rw [qa_ix hk (by omega)]
theorem er_is (k : Nat) {c n : Nat} {i v : Int32} {f : Nat → Int32} {X' Z' : Nat → Nat → Int32} (hf : ab_fetch M.2.2.2.2.2.2.2 pc = some (.iastore, lk)) (hc : Nat.blt c 79 = true) (he : cO c (X c) (Z c) = .inr (.inl (qa n f))) (hi : i = nI k) (hk : k < n) (hn : Nat.ble n 1000 = true) (hw : (Wd X Z).set c (.inr (.inl (qa n (u1 f k v)))) = Wd X' Z') (hp : pc + 1 = pc') (kk : ER d M pc' L st (Wd X' Z') P) : ER d M pc L (.int v :: .int i :: .ref c :: st) (Wd X Z) P := by
  obtain ⟨r, h1, h2⟩ := kk
  subst hp
  subst hi
  refine ⟨r, ev_heap hf ?_ h1, h2⟩
  have hn' := Nat.le_of_ble_eq_true hn
  simp only [ab_heap]
  rw [Wd_cell hc, he]
  dsimp only
  rw [qa_ix hk (by omega)]
  dsimp only
  rw [nI_clamp (by omega), qa_set, hw]
theorem er_isX (k : Nat) {c n : Nat} {i v : Int32} (hf : ab_fetch M.2.2.2.2.2.2.2 pc = some (.iastore, lk)) (hc : Nat.blt c 79 = true) (he : ∀ f, cO c f (Z c) = .inr (.inl (qa n f))) (hi : i = nI k) (hk : k < n) (hn : Nat.ble n 1000 = true) (hp : pc + 1 = pc') (kk : ER d M pc' L st (Wd (ud X c k v) Z) P) : ER d M pc L (.int v :: .int i :: .ref c :: st) (Wd X Z) P :=
  er_is k hf hc (he _) hi hk hn (Wd_setX hc (he _).symm) hp kk
theorem er_isZ (k : Nat) {c n : Nat} {i v : Int32} (hf : ab_fetch M.2.2.2.2.2.2.2 pc = some (.iastore, lk)) (hc : Nat.blt c 79 = true) (he : ∀ f, cO c (X c) f = .inr (.inl (qa n f))) (hi : i = nI k) (hk : k < n) (hn : Nat.ble n 1000 = true) (hp : pc + 1 = pc') (kk : ER d M pc' L st (Wd X (ud Z c k v)) P) : ER d M pc L (.int v :: .int i :: .ref c :: st) (Wd X Z) P :=
  er_is k hf hc (he _) hi hk hn (Wd_setZ hc (he _).symm) hp kk
theorem er_al {c n : Nat} {f : Nat → Int32} (hf : ab_fetch M.2.2.2.2.2.2.2 pc = some (.arraylength, lk)) (hc : Nat.blt c 79 = true) (he : cO c (X c) (Z c) = .inr (.inl (qa n f))) (hp : pc + 1 = pc') (kk : ER d M pc' L (.int (nI n) :: st) (Wd X Z) P) : ER d M pc L (.ref c :: st) (Wd X Z) P := by
  obtain ⟨r, h1, h2⟩ := kk
  subst hp
  refine ⟨r, ev_heap hf ?_ h1, h2⟩
  have hcell := (Wd_cell (X := X) (Z := Z) hc).trans (congrArg some he)
  have hcell0 := hcell
  unfold ab_cell at hcell
  simp only [ab_heap]
  cases hb : Nat.ble ab_B c with
  | true => rw [hb] at hcell; cases hcell
  | false =>
    rw [hb] at hcell
    simp only [cond_false] at hcell ⊢
    rw [hcell]
    dsimp only
    rw [qa_len]
    rfl
theorem er_aa (k : Nat) {c t n : Nat} {i : Int32} {g : Nat → Option Nat} (hf : ab_fetch M.2.2.2.2.2.2.2 pc = some (.aaload, lk)) (hc : Nat.blt c 79 = true) (he : cO c (X c) (Z c) = .inr (.inr (t, (List.range n).map g))) (ht : Nat.blt t 2 = true) (hi : i = nI k) (hk : k < n) (hn : Nat.ble n 1000 = true) (hp : pc + 1 = pc') (kk : ER d M pc' L (va_rf (g k) :: st) (Wd X Z) P) : ER d M pc L (.int i :: .ref c :: st) (Wd X Z) P := by
  obtain ⟨r, h1, h2⟩ := kk
  subst hp
  subst hi
  refine ⟨r, ev_heap hf ?_ h1, h2⟩
  have hn' := Nat.le_of_ble_eq_true hn
  simp only [ab_heap]
  rw [Wd_cell hc, he]
  dsimp only
  rw [ht]
  simp only [cond_true]
  have e : ab_ix ((List.range n).map g) (nI k) = some (g k) := by
    unfold ab_ix
    rw [decide_eq_false (nI_pos (by omega)), nI_clamp (by omega), ab_nth_eq, List.getElem?_map, List.getElem?_range hk]
    rfl
  rw [e]
def isCI (ins : Instr) : Bool := match ins with
  | .invokevirtual _ => true
  | .invokespecial _ => true
  | _ => false
def qOK (j : Nat) : Bool := match ab_nth tb.2.2.2.2.1 j with
  | some Mj => Nat.beq Mj.2.2.2.2.1 0 && Nat.beq Mj.2.2.2.2.2.1 0
  | none => false
def qS (lk : Nat) (st : List Value) : Option (Nat × List Value × List Value) := match ab_nth tb.2.1 lk with
  | none => none
  | some g => cond (Nat.beq g.2.2.1 2 || Nat.beq g.2.2.1 3) (match g.2.2.2.2.2.2 with
    | q :: _ => cond (Nat.beq (st.take g.2.2.2.2.1).length g.2.2.2.2.1 && (ab_room (st.drop g.2.2.2.2.1) && qOK q.2.1)) (some (q.2.1, (st.take g.2.2.2.2.1).reverse, st.drop g.2.2.2.2.1)) none
    | [] => none) none
def qI (lk cls : Nat) (st : List Value) : Option (Nat × Nat × List Value × List Value) := match ab_nth tb.2.1 lk with
  | none => none
  | some g => cond (Nat.beq g.2.2.1 0 || (Nat.beq g.2.2.1 1 || (Nat.beq g.2.2.1 10 || (Nat.beq g.2.2.1 11 || Nat.beq g.2.2.1 13)))) (match st.drop g.2.2.2.2.1 with
    | .ref r :: rest => match ab_look g.2.2.2.2.2.2 cls with
      | some q => cond (Nat.beq (st.take g.2.2.2.2.1).length g.2.2.2.2.1 && (ab_room rest && qOK q.2.1)) (some (r, q.2.1, .ref r :: (st.take g.2.2.2.2.1).reverse, rest)) none
      | none => none
    | _ => none) none
theorem ask_inv_q {j : Nat} {As rest : List Value} (h1 : ab_room rest = true) (h2 : qOK j = true) : ask_inv tb M j As L rest w 0 0 = some (j, As, rest, 0, 0) := by
  unfold qOK at h2
  unfold ask_inv
  split at h2
  · rename_i Mj hj
    rw [hj]
    dsimp only
    rw [Bool.and_eq_true] at h2
    have e1 := Nat.eq_of_beq_eq_true h2.1
    have e2 := Nat.eq_of_beq_eq_true h2.2
    have hz : ∀ n, Nat.ble 0 n = true := fun n => by cases n <;> rfl
    rw [e1, e2, h1]
    simp [hz]
  · cases h2
theorem ask_qS {j : Nat} {As rest : List Value} {i : Nat} (h : qS lk st = some (j, As, rest)) : ask tb M (.invokestatic i) lk L st w 0 0 = some (j, As, rest, 0, 0) := by
  unfold qS at h
  show ask_go tb M lk L st w 0 0 = _
  unfold ask_go
  split at h
  · cases h
  · rename_i g hg
    rw [hg]
    dsimp only
    have key : ask_stat tb M g L st w 0 0 = some (j, As, rest, 0, 0) := by
      unfold ask_stat
      cases hk : (Nat.beq g.2.2.1 2 || Nat.beq g.2.2.1 3) with
      | false => rw [hk] at h; cases h
      | true =>
        rw [hk] at h
        simp only [cond_true] at h
        split at h
        · rename_i q l hq
          rw [hq]
          dsimp only
          cases hb : (Nat.beq (st.take g.2.2.2.2.1).length g.2.2.2.2.1 && (ab_room (st.drop g.2.2.2.2.1) && qOK q.2.1)) with
          | false => rw [hb] at h; cases h
          | true =>
            rw [hb] at h
            cases h
            simp only [Bool.and_eq_true] at hb
            rw [hb.1]
            exact ask_inv_q hb.2.1 hb.2.2
        · cases h
    cases hk : (Nat.beq g.2.2.1 2 || Nat.beq g.2.2.1 3) with
    | false => rw [hk] at h; cases h
    | true =>
      rw [Bool.or_eq_true] at hk
      rcases hk with hk | hk
      · rw [Nat.eq_of_beq_eq_true hk]; exact key
      · rw [Nat.eq_of_beq_eq_true hk]; exact key
theorem ask_qI {c cls j : Nat} {fs As rest : List Value} {ins : Instr} (hi : isCI ins = true) (h : qI lk cls st = some (c, j, As, rest)) (hcell : ab_cell w c = some (.inl (cls, fs))) : ask tb M ins lk L st w 0 0 = some (j, As, rest, 0, 0) := by
  have hgo : ask tb M ins lk L st w 0 0 = ask_go tb M lk L st w 0 0 := by cases ins <;> first | rfl | (cases hi; done)
  rw [hgo]
  unfold qI at h
  unfold ask_go
  split at h
  · cases h
  · rename_i g hg
    rw [hg]
    dsimp only
    cases hk : (Nat.beq g.2.2.1 0 || (Nat.beq g.2.2.1 1 || (Nat.beq g.2.2.1 10 || (Nat.beq g.2.2.1 11 || Nat.beq g.2.2.1 13)))) with
    | false => rw [hk] at h; cases h
    | true =>
      rw [hk] at h
      simp only [cond_true] at h
      have key : ask_inst tb M g L st w 0 0 = some (j, As, rest, 0, 0) := by
        unfold ask_inst
        split at h
        · rename_i r rest0 hst
          rw [hst]
          dsimp only
          split at h
          · rename_i q hq
            cases hb : (Nat.beq (st.take g.2.2.2.2.1).length g.2.2.2.2.1 && (ab_room rest0 && qOK q.2.1)) with
            | false => rw [hb] at h; cases h
            | true =>
              rw [hb] at h
              cases h
              rw [hcell]
              dsimp only
              rw [hq]
              dsimp only
              simp only [Bool.and_eq_true] at hb
              rw [hb.1]
              exact ask_inv_q hb.2.1 hb.2.2
          · cases h
        · cases h
      simp only [Bool.or_eq_true] at hk
      rcases hk with hk | hk | hk | hk | hk <;> (rw [Nat.eq_of_beq_eq_true hk]; exact key)
theorem er_cS {j i : Nat} {As rest : List Value} {Q : ab_R → Prop} (hf : ab_fetch M.2.2.2.2.2.2.2 pc = some (.invokestatic i, lk)) (hq : qS lk st = some (j, As, rest)) (hp : pc + 3 = pc') (h : EC d j As w Q) (k : ∀ r, Q r → ER d M pc' L (r.1.toList ++ rest) r.2 P) : ER d M pc L st w P := by
  obtain ⟨r1, h1, h2⟩ := h
  obtain ⟨r, h3, h4⟩ := k r1 h2
  subst hp
  exact ⟨r, ev_ask hf (ask_qS hq) h1 h3, h4⟩
theorem er_cI (cls : Nat) {c j : Nat} {ins : Instr} {fs As rest : List Value} {Q : ab_R → Prop} (hf : ab_fetch M.2.2.2.2.2.2.2 pc = some (ins, lk)) (hi : isCI ins = true) (hq : qI lk cls st = some (c, j, As, rest)) (hc : Nat.blt c 79 = true) (ho : cO c (X c) (Z c) = .inl (cls, fs)) (hp : pc + 3 = pc') (h : EC d j As (Wd X Z) Q) (k : ∀ r, Q r → ER d M pc' L (r.1.toList ++ rest) r.2 P) : ER d M pc L st (Wd X Z) P := by
  obtain ⟨r1, h1, h2⟩ := h
  obtain ⟨r, h3, h4⟩ := k r1 h2
  subst hp
  exact ⟨r, ev_ask hf (ask_qI hi hq ((Wd_cell hc).trans (congrArg some ho))) h1 h3, h4⟩
theorem er_max {x y : Int32} {i : Nat} (hf : ab_fetch M.2.2.2.2.2.2.2 pc = some (.invokestatic i, lk)) (hg : (ab_nth tb.2.1 lk).map (fun g => g.2.2.1) = some 7) (hr : ab_room st = true) (hp : pc + 3 = pc') (k : ER d M pc' L (.int (if x < y then y else x) :: st) w P) : ER d M pc L (.int y :: .int x :: st) w P := by
  obtain ⟨r, h1, h2⟩ := k
  subst hp
  refine ⟨r, ev_bi (q := (.int (if x < y then y else x) :: st, w, 0, 0)) hf (fun cf => ?_) h1, h2⟩
  show ab_go tb cf M lk L (.int y :: .int x :: st) w 0 0 = _
  unfold ab_go
  cases hq : ab_nth tb.2.1 lk with
  | none => rw [hq] at hg; cases hg
  | some g =>
    rw [hq] at hg
    have e : g.2.2.1 = 7 := Option.some.inj hg
    have hz : ∀ n, Nat.ble 0 n = true := fun n => by cases n <;> rfl
    simp only [e, hr, hz]
    rfl
theorem er_min {x y : Int32} {i : Nat} (hf : ab_fetch M.2.2.2.2.2.2.2 pc = some (.invokestatic i, lk)) (hg : (ab_nth tb.2.1 lk).map (fun g => g.2.2.1) = some 8) (hr : ab_room st = true) (hp : pc + 3 = pc') (k : ER d M pc' L (.int (if y < x then y else x) :: st) w P) : ER d M pc L (.int y :: .int x :: st) w P := by
  obtain ⟨r, h1, h2⟩ := k
  subst hp
  refine ⟨r, ev_bi (q := (.int (if y < x then y else x) :: st, w, 0, 0)) hf (fun cf => ?_) h1, h2⟩
  show ab_go tb cf M lk L (.int y :: .int x :: st) w 0 0 = _
  unfold ab_go
  cases hq : ab_nth tb.2.1 lk with
  | none => rw [hq] at hg; cases hg
  | some g =>
    rw [hq] at hg
    have e : g.2.2.1 = 8 := Option.some.inj hg
    have hz : ∀ n, Nat.ble 0 n = true := fun n => by cases n <;> rfl
    simp only [e, hr, hz]
    rfl
end ERS
def PI (v : Int32) (w : ab_W) : ab_R → Prop := fun r => r = (some (.int v), w)
def PR (c : Nat) (w : ab_W) : ab_R → Prop := fun r => r = (some (.ref c), w)
def RI (v : Int32) (X : Nat → Nat → Int32) : ab_R → Prop := fun r => ∃ Z, r = (some (.int v), Wd X Z)
def RV (X : Nat → Nat → Int32) : ab_R → Prop := fun r => ∃ Z, r = (none, Wd X Z)
theorem PI_of {v x : Int32} {w : ab_W} (h : x = v) : PI v w (some (.int x), w) := by rw [h]; rfl
theorem RI_of {v x : Int32} {X X' Z : Nat → Nat → Int32} (h : x = v) (hX : X' = X) : RI v X (some (.int x), Wd X' Z) := ⟨Z, by rw [h, hX]⟩
theorem RV_of {X X' Z : Nat → Nat → Int32} (hX : X' = X) : RV X (none, Wd X' Z) := ⟨Z, by rw [hX]⟩
section ERT
variable {d pc pc' lk : Nat} {M : ab_M} {L L' : ab_Lo} {st : List Value} {w : ab_W} {P : ab_R → Prop} {X Z : Nat → Nat → Int32}
theorem er_cSi {j i : Nat} {v : Int32} {As rest : List Value} (hf : ab_fetch M.2.2.2.2.2.2.2 pc = some (.invokestatic i, lk)) (hq : qS lk st = some (j, As, rest)) (hp : pc + 3 = pc') (h : EC d j As w (PI v w)) (k : ER d M pc' L (.int v :: rest) w P) : ER d M pc L st w P :=
  er_cS hf hq hp h (fun r hr => by cases hr; exact k)
theorem er_cIi (cls : Nat) {c j : Nat} {v : Int32} {ins : Instr} {fs As rest : List Value} (hf : ab_fetch M.2.2.2.2.2.2.2 pc = some (ins, lk)) (hi : isCI ins = true) (hq : qI lk cls st = some (c, j, As, rest)) (hc : Nat.blt c 79 = true) (ho : cO c (X c) (Z c) = .inl (cls, fs)) (hp : pc + 3 = pc') (h : EC d j As (Wd X Z) (PI v (Wd X Z))) (k : ER d M pc' L (.int v :: rest) (Wd X Z) P) : ER d M pc L st (Wd X Z) P :=
  er_cI cls hf hi hq hc ho hp h (fun r hr => by cases hr; exact k)
theorem er_cIr (cls : Nat) {c j q : Nat} {ins : Instr} {fs As rest : List Value} (hf : ab_fetch M.2.2.2.2.2.2.2 pc = some (ins, lk)) (hi : isCI ins = true) (hq : qI lk cls st = some (c, j, As, rest)) (hc : Nat.blt c 79 = true) (ho : cO c (X c) (Z c) = .inl (cls, fs)) (hp : pc + 3 = pc') (h : EC d j As (Wd X Z) (PR q (Wd X Z))) (k : ER d M pc' L (.ref q :: rest) (Wd X Z) P) : ER d M pc L st (Wd X Z) P :=
  er_cI cls hf hi hq hc ho hp h (fun r hr => by cases hr; exact k)
theorem er_cIz (cls : Nat) {c j : Nat} {v : Int32} {X' : Nat → Nat → Int32} {ins : Instr} {fs As rest : List Value} (hf : ab_fetch M.2.2.2.2.2.2.2 pc = some (ins, lk)) (hi : isCI ins = true) (hq : qI lk cls st = some (c, j, As, rest)) (hc : Nat.blt c 79 = true) (ho : cO c (X c) (Z c) = .inl (cls, fs)) (hp : pc + 3 = pc') (h : EC d j As (Wd X Z) (RI v X')) (k : ∀ Z', ER d M pc' L (.int v :: rest) (Wd X' Z') P) : ER d M pc L st (Wd X Z) P :=
  er_cI cls hf hi hq hc ho hp h (fun r hr => by obtain ⟨Z', rfl⟩ := hr; exact k Z')
theorem er_cSz {j i : Nat} {v : Int32} {X' : Nat → Nat → Int32} {As rest : List Value} (hf : ab_fetch M.2.2.2.2.2.2.2 pc = some (.invokestatic i, lk)) (hq : qS lk st = some (j, As, rest)) (hp : pc + 3 = pc') (h : EC d j As (Wd X Z) (RI v X')) (k : ∀ Z', ER d M pc' L (.int v :: rest) (Wd X' Z') P) : ER d M pc L st (Wd X Z) P :=
  er_cS hf hq hp h (fun r hr => by obtain ⟨Z', rfl⟩ := hr; exact k Z')
theorem er_cIv (cls : Nat) {c j : Nat} {X' : Nat → Nat → Int32} {ins : Instr} {fs As rest : List Value} (hf : ab_fetch M.2.2.2.2.2.2.2 pc = some (ins, lk)) (hi : isCI ins = true) (hq : qI lk cls st = some (c, j, As, rest)) (hc : Nat.blt c 79 = true) (ho : cO c (X c) (Z c) = .inl (cls, fs)) (hp : pc + 3 = pc') (h : EC d j As (Wd X Z) (RV X')) (k : ∀ Z', ER d M pc' L rest (Wd X' Z') P) : ER d M pc L st (Wd X Z) P :=
  er_cI cls hf hi hq hc ho hp h (fun r hr => by obtain ⟨Z', rfl⟩ := hr; exact k Z')
theorem er_pfIX (q : Nat) {v : Int32} {c i : Nat} {e e' : ab_C} (hf : ab_fetch M.2.2.2.2.2.2.2 pc = some (.putfield i, lk)) (hc : Nat.blt c 79 = true) (he : cO c (X c) (Z c) = e) (hv : pfO lk (.int v) e = some e') (hg : cO c (u1 (X c) q v) (Z c) = e') (hp : pc + 3 = pc') (k : ER d M pc' L st (Wd (ud X c q v) Z) P) : ER d M pc L (.int v :: .ref c :: st) (Wd X Z) P := er_pfX _ hf hc he hv hg.symm hp k
theorem er_pfIZ (q : Nat) {v : Int32} {c i : Nat} {e e' : ab_C} (hf : ab_fetch M.2.2.2.2.2.2.2 pc = some (.putfield i, lk)) (hc : Nat.blt c 79 = true) (he : cO c (X c) (Z c) = e) (hv : pfO lk (.int v) e = some e') (hg : cO c (X c) (u1 (Z c) q v) = e') (hp : pc + 3 = pc') (k : ER d M pc' L st (Wd X (ud Z c q v)) P) : ER d M pc L (.int v :: .ref c :: st) (Wd X Z) P := er_pfZ _ hf hc he hv hg.symm hp k
end ERT
theorem nI_mul (a b : Nat) : nI a * nI b = nI (a * b) := (Int32.ofNat_mul a b).symm
theorem bI_eq1 {b : Bool} (h : b = true) : nI 1 = bI b := by rw [h]; rfl
theorem bI_eq0 {b : Bool} (h : b = false) : nI 0 = bI b := by rw [h]; rfl
def jb (b : Nat) : Prop := b = 9 ∨ b = 22 ∨ b = 35
def tx (t : Nat) : Prop := t = 14 ∨ t = 17 ∨ t = 27 ∨ t = 30 ∨ t = 40 ∨ t = 43
theorem cO_J0 {b : Nat} (hb : jb b) (x z : Nat → Int32) : cO b x z = .inl (7, [.ref 1, .int (x 1), .ref (b + 1), .ref (b + 2), .ref (b + 3), .ref (b + 4), .int (x 6), .int (x 7), .int (x 8), .int (x 9), .int (x 10), .ref (b + 5), .ref (b + 8), .ref (b + 11), .int (x 14), .ref (b + 12), .int (x 16), .int (x 17)]) := by
  rcases hb with rfl | rfl | rfl <;> rfl
theorem cO_J1 {b : Nat} (hb : jb b) (x z : Nat → Int32) : cO (b + 1) x z = .inr (.inl (qa 8 x)) := by
  rcases hb with rfl | rfl | rfl <;> rfl
theorem cO_J2 {b : Nat} (hb : jb b) (x z : Nat → Int32) : cO (b + 2) x z = .inr (.inl (qa 8 x)) := by
  rcases hb with rfl | rfl | rfl <;> rfl
theorem cO_J3 {b : Nat} (hb : jb b) (x z : Nat → Int32) : cO (b + 3) x z = .inr (.inl (qa 8 x)) := by
  rcases hb with rfl | rfl | rfl <;> rfl
theorem cO_J4 {b : Nat} (hb : jb b) (x z : Nat → Int32) : cO (b + 4) x z = .inr (.inl (qa 8 x)) := by
  rcases hb with rfl | rfl | rfl <;> rfl
theorem cO_J6 {b : Nat} (hb : jb b) (x z : Nat → Int32) : cO (b + 6) x z = .inr (.inl (qa 50 x)) := by
  rcases hb with rfl | rfl | rfl <;> rfl
theorem cO_J9 {b : Nat} (hb : jb b) (x z : Nat → Int32) : cO (b + 9) x z = .inr (.inl (qa 50 x)) := by
  rcases hb with rfl | rfl | rfl <;> rfl
theorem cO_J11 {b : Nat} (hb : jb b) (x z : Nat → Int32) : cO (b + 11) x z = .inr (.inl (qa 50 x)) := by
  rcases hb with rfl | rfl | rfl <;> rfl
theorem cO_J7 {b : Nat} (hb : jb b) (x z : Nat → Int32) : cO (b + 7) x z = .inr (.inl (qa 50 z)) := by
  rcases hb with rfl | rfl | rfl <;> rfl
theorem cO_J10 {b : Nat} (hb : jb b) (x z : Nat → Int32) : cO (b + 10) x z = .inr (.inl (qa 50 z)) := by
  rcases hb with rfl | rfl | rfl <;> rfl
theorem cO_J12 {b : Nat} (hb : jb b) (x z : Nat → Int32) : cO (b + 12) x z = .inr (.inl (qa 20 x)) := by
  rcases hb with rfl | rfl | rfl <;> rfl
theorem cO_J5 {b : Nat} (hb : jb b) (x z : Nat → Int32) : cO (b + 5) x z = .inl (8, [.ref (b + 6), .ref (b + 7), .int (x 2)]) := by
  rcases hb with rfl | rfl | rfl <;> rfl
theorem cO_J8 {b : Nat} (hb : jb b) (x z : Nat → Int32) : cO (b + 8) x z = .inl (8, [.ref (b + 9), .ref (b + 10), .int (x 2)]) := by
  rcases hb with rfl | rfl | rfl <;> rfl
theorem cO_T0 {t : Nat} (ht : tx t) (x z : Nat → Int32) : cO t x z = .inl (8, [.ref (t + 1), .ref (t + 2), .int (x 2)]) := by
  rcases ht with rfl | rfl | rfl | rfl | rfl | rfl <;> rfl
theorem cO_T1 {t : Nat} (ht : tx t) (x z : Nat → Int32) : cO (t + 1) x z = .inr (.inl (qa 50 x)) := by
  rcases ht with rfl | rfl | rfl | rfl | rfl | rfl <;> rfl
theorem cO_T2 {t : Nat} (ht : tx t) (x z : Nat → Int32) : cO (t + 2) x z = .inr (.inl (qa 50 z)) := by
  rcases ht with rfl | rfl | rfl | rfl | rfl | rfl <;> rfl
theorem blt_J {b : Nat} (hb : jb b) (i : Nat) (hi : Nat.ble i 12 = true) : Nat.blt (b + i) 79 = true := by
  have := Nat.le_of_ble_eq_true hi
  exact Nat.ble_eq_true_of_le (by rcases hb with rfl | rfl | rfl <;> omega)
theorem blt_T {t : Nat} (ht : tx t) (i : Nat) (hi : Nat.ble i 2 = true) : Nat.blt (t + i) 79 = true := by
  have := Nat.le_of_ble_eq_true hi
  exact Nat.ble_eq_true_of_le (by rcases ht with rfl | rfl | rfl | rfl | rfl | rfl <;> omega)
