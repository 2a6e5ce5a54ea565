/-! WHAT THE TABLES MUST SAY OF THE PRINTED WORDS, as a program; and what follows from its yes -/
def ab_has (ts : List (List Cond)) (i : Nat) (w : Cond) : Bool := match ab_nth ts (i / 1000) with
  | some l => match ab_nth l (i % 1000) with
    | some v => decide (v = w)
    | none => false
  | none => false
theorem ab_has_mem {ts : List (List Cond)} {i : Nat} {w : Cond} (h : ab_has ts i w = true) : w ∈ ts.flatten := by
  unfold ab_has at h
  split at h
  · rename_i l hl
    split at h
    · rename_i v hv
      rw [ab_nth_eq] at hv hl
      rw [← of_decide_eq_true h]
      exact List.mem_flatten.mpr ⟨l, List.mem_of_getElem? hl, List.mem_of_getElem? hv⟩
    · cases h
  · cases h
/-- a class of the world -/
def ab_clOK (ts : List Cond) (q : vw_C) : Prop := (∀ w ∈ u_ws q.1 q.2.1 q.2.2, w ∈ ts) ∧ (∀ a, a < q.2.2 → ∀ b, b < q.2.2 → a ≠ b → (q.2.1 a).2.1 ≠ (q.2.1 b).2.1) ∧ (∀ k, k < q.2.2 → (parseFieldDescriptor (q.2.1 k).2.2.1).isSome = true) ∧ Cond.instantiable q.1 q.2.2 ∈ ts ∧ Cond.initialized q.1 ∈ ts
def ab_ty (q : vw_C) (k : Nat) : FieldType := (parseFieldDescriptor (q.2.1 k).2.2.1).getD .int
def ab_tcOK (tc : Nat) (t : Option FieldType) : Bool := match tc, t with
  | 0, some .int => true
  | 1, some .boolean => true
  | 2, some (.object _) => true
  | 2, some (.array _) => true
  | _, _ => false
def ab_flOK (tb : ab_TB) (ts : List (List Cond)) (f : ab_F) : Bool := match ab_nth tb.2.2.2.2.2.1 f.2.2.1 with
  | none => false
  | some q => Nat.blt f.2.2.2.1 q.2.2 && cond (Nat.beq f.2.2.2.2.1 1) (ab_has ts f.2.2.2.2.2.2 (.fieldLinkNest f.1 f.2.1 (q.2.1 f.2.2.2.1).1 (q.2.1 f.2.2.2.1).2.1 (q.2.1 f.2.2.2.1).2.2.1 "ScrewLeft")) (ab_has ts f.2.2.2.2.2.2 (.fieldLink f.1 f.2.1 (q.2.1 f.2.2.2.1).1 (q.2.1 f.2.2.2.1).2.1 (q.2.1 f.2.2.2.1).2.2.1)) && ab_tcOK f.2.2.2.2.2.1 (parseFieldDescriptor (q.2.1 f.2.2.2.1).2.2.1)
def ab_nest (k : Nat) : Bool := Nat.beq k 1 || Nat.beq k 3 || Nat.beq k 5
def ab_plain (s : String) : Bool := decide (s ≠ "java/lang/invoke/MethodHandle") && decide (s ≠ "java/lang/invoke/VarHandle")
def ab_tgOK (tb : ab_TB) (ts : List (List Cond)) (g : ab_G) (q : Nat × Nat × Nat) : Bool := match ab_nth tb.2.2.2.2.1 q.2.1 with
  | none => false
  | some M => match g.2.2.1 with
    | 0 => decide (M.1 = g.2.2.2.1) && (match ab_nth tb.2.2.2.2.2.1 q.1 with
      | some c => decide (c.1 = g.2.2.2.1.cls)
      | none => false) && ab_has ts q.2.2 (.selects g.2.2.2.1.cls g.2.2.2.1 g.2.2.2.1) && ab_has ts M.2.2.2.2.2.2.1.2.1 (.instanceMethod M.1)
    | 1 => decide (M.1 = g.2.2.2.1) && (match ab_nth tb.2.2.2.2.2.1 q.1 with
      | some c => decide (c.1 = g.2.2.2.1.cls)
      | none => false) && ab_has ts q.2.2 (.selects g.2.2.2.1.cls g.2.2.2.1 g.2.2.2.1) && ab_has ts M.2.2.2.2.2.2.1.2.1 (.instanceMethod M.1)
    | 2 => decide (M.1 = g.2.2.2.1) && ab_has ts M.2.2.2.2.2.2.1.2.1 (.static M.1)
    | 3 => decide (M.1 = g.2.2.2.1) && ab_has ts M.2.2.2.2.2.2.1.2.1 (.static M.1)
    | 4 => decide (M.1 = g.2.2.2.1) && ab_has ts M.2.2.2.2.2.2.1.2.1 (.instanceMethod M.1) && decide (M.1.name = "<init>") && decide (M.2.2.2.1 = none)
    | 5 => decide (M.1 = g.2.2.2.1) && ab_has ts M.2.2.2.2.2.2.1.2.1 (.instanceMethod M.1) && decide (M.1.name = "<init>") && decide (M.2.2.2.1 = none)
    | 10 => (match ab_nth tb.2.2.2.2.1 g.2.2.2.2.2.1.2.2 with
      | none => false
      | some Mo => decide (Mo.1 = ⟨Mo.1.cls, g.2.2.2.1.name, g.2.2.2.1.desc⟩) && ab_has ts g.2.2.2.2.2.1.2.1 (.sameMethod g.2.2.2.1.cls Mo.1.cls g.2.2.2.1.name g.2.2.2.1.desc) && ab_has ts Mo.2.2.2.2.2.2.1.2.1 (.instanceMethod Mo.1) && ab_plain Mo.1.cls) && (match ab_nth tb.2.2.2.2.2.1 q.1 with
      | some c => ab_has ts q.2.2 (.selects c.1 g.2.2.2.1 M.1)
      | none => false) && ab_has ts M.2.2.2.2.2.2.1.2.1 (.instanceMethod M.1)
    | 12 => decide (M.1 = g.2.2.2.1) && decide (M.1.cls = "java/lang/String") && ab_has ts q.2.2 (.selects M.1.cls M.1 M.1) && ab_has ts M.2.2.2.2.2.2.1.2.1 (.instanceMethod M.1)
    | 13 => decide (M.1.name = g.2.2.2.1.name) && decide (M.1.desc = g.2.2.2.1.desc) && ab_has ts M.2.2.2.2.2.2.1.2.1 (.instanceMethod M.1) && decide (M.1.name ≠ "<init>") && ab_has ts g.2.2.2.2.2.1.2.1 (.sameMethod g.2.2.2.1.cls M.1.cls M.1.name M.1.desc) && ab_has ts g.2.2.2.2.2.1.2.2 (.superclass g.1 g.2.2.2.1.cls) && ab_has ts q.2.2 (.superclass g.2.2.2.1.cls M.1.cls)
    | 11 => decide (M.1 = g.2.2.2.1) && ab_has ts M.2.2.2.2.2.2.1.2.1 (.instanceMethod M.1) && decide (M.1.name ≠ "<init>") && ab_has ts g.2.2.2.2.2.1.2.1 (.sameMethod M.1.cls M.1.cls M.1.name M.1.desc) && ab_has ts g.2.2.2.2.2.1.2.2 (.superclass g.1 M.1.cls)
    | _ => false
def ab_glOK (tb : ab_TB) (ts : List (List Cond)) (g : ab_G) : Bool :=
  cond (ab_nest g.2.2.1) (ab_has ts g.2.2.2.2.2.1.1 (.methodLinkNest g.1 g.2.1 g.2.2.2.1 "ScrewLeft")) (ab_has ts g.2.2.2.2.2.1.1 (.methodLink g.1 g.2.1 g.2.2.2.1))
  && decide ((parseMethodDescriptor g.2.2.2.1.desc).map (fun d => d.parameters.length) = some g.2.2.2.2.1)
  && g.2.2.2.2.2.2.all (ab_tgOK tb ts g)
  && (match g.2.2.1 with
    | 6 => decide (g.2.2.2.1 = arraycopyName)
    | 7 => decide (g.2.2.2.1 = Lib.Math.max.name)
    | 8 => decide (g.2.2.2.1 = Lib.Math.min.name)
    | 9 => decide (g.2.2.2.1 = Lib.objectInit)
    | _ => true)
def ab_str (i : Nat) : String × Nat × String := match i with
  | 0 => ("ScrewLeft$Reader", 15, "")
  | 1 => ("ScrewLeft", 154, "smt")
  | _ => ("ScrewLeft", 156, "mtk")
def ab_klOK (ts : List (List Cond)) (k : ab_K) : Bool := match k.2.2.1 with
  | .int v => ab_has ts k.2.2.2 (.constant k.1 k.2.1 v)
  | .long v => ab_has ts k.2.2.2 (.constantLong k.1 k.2.1 v)
  | .ref r => Nat.ble (ab_B + 100) r && Nat.ble r (ab_B + 102) && decide ((ab_str (r - (ab_B + 100))).1 = k.1) && Nat.beq (ab_str (r - (ab_B + 100))).2.1 k.2.1
  | _ => false
def ab_nlOK (tb : ab_TB) (ts : List (List Cond)) (q : ab_N) : Bool := match ab_nth tb.2.2.2.2.2.1 q.2.2.1, ab_nth tb.2.2.2.2.2.2 q.2.2.1 with
  | some c, some fs => ab_has ts q.2.2.2.1 (.classLink q.1 q.2.1 c.1) && Nat.beq fs.length c.2.2 && (List.range c.2.2).all (fun j => decide (defaultValue (ab_ty c j) = vp_V fs j))
  | _, _ => false
def ab_mOK (ts : List (List Cond)) (M : ab_M) : Bool := ab_has ts M.2.2.2.2.2.2.1.1 (.code M.1 M.2.1 M.2.2.1 M.2.2.2.1) && ab_has ts M.2.2.2.2.2.2.1.2.2 (.initialized M.1.cls) && Nat.ble M.2.2.1 45 && ab_plain M.1.cls && plainName M.1.cls
def ab_sw (ins : Instr) : Bool := match ins with
  | .tableswitch _ _ _ _ => true
  | .lookupswitch _ _ => true
  | _ => false
def ab_kind (tb : ab_TB) (M : ab_M) (i lk : Nat) (ks : List Nat) : Bool := match ab_nth tb.2.1 lk with
  | some g => decide (g.1 = M.1.cls) && Nat.beq g.2.1 i && ks.any (fun k => Nat.beq g.2.2.1 k)
  | none => false
def ab_lk (tb : ab_TB) (ts : List (List Cond)) (M : ab_M) (pc : Nat) (ins : Instr) (lk : Nat) : Bool := match ins with
  | .goto off => decide ((pc : Int) + off = (lk : Int))
  | .ifCond _ off => decide ((pc : Int) + off = (lk : Int))
  | .if_icmp _ off => decide ((pc : Int) + off = (lk : Int))
  | .getfield i => match ab_nth tb.1 lk with
    | some f => decide (f.1 = M.1.cls) && Nat.beq f.2.1 i
    | none => decide (M.1.cls = "java/lang/String") && ab_has ts ((lk - ab_B) / 2) (.fieldLink "java/lang/String" i "java/lang/String" (cond (Nat.beq (lk % 2) 0) "coder" "value") (cond (Nat.beq (lk % 2) 0) "B" "[B"))
  | .putfield i => match ab_nth tb.1 lk with
    | some f => decide (f.1 = M.1.cls) && Nat.beq f.2.1 i && (match ab_nth tb.2.2.2.2.2.1 f.2.2.1 with
      | some q => !(q.2.1 f.2.2.2.1).2.2.2 || (Nat.beq f.2.2.2.2.1 0 && decide (M.1.name = "<init>") && decide ((q.2.1 f.2.2.2.1).1 = f.1))
      | none => false)
    | none => false
  | .getstatic i => cond (Nat.ble ab_B lk) (decide (M.1.cls = "java/lang/String") && ab_has ts (lk - ab_B) (.fieldLink "java/lang/String" i "java/lang/String" "COMPACT_STRINGS" "Z")) (decide (M.1.cls = "ScrewLeft") && ab_has ts lk (.fieldLink "ScrewLeft" i "ScrewLeft" "ABOVE" "[I"))
  | .ldc i => match ab_nth tb.2.2.1 lk with
    | some k => decide (k.1 = M.1.cls) && Nat.beq k.2.1 i && (match k.2.2.1 with
      | .int _ => true
      | .ref _ => true
      | _ => false)
    | none => false
  | .ldc_w i => match ab_nth tb.2.2.1 lk with
    | some k => decide (k.1 = M.1.cls) && Nat.beq k.2.1 i && (match k.2.2.1 with
      | .int _ => true
      | _ => false)
    | none => false
  | .ldc2_w i => match ab_nth tb.2.2.1 lk with
    | some k => decide (k.1 = M.1.cls) && Nat.beq k.2.1 i && (match k.2.2.1 with
      | .long _ => true
      | _ => false)
    | none => false
  | .invokevirtual i => ab_kind tb M i lk [0, 1, 10, 12]
  | .invokespecial i => ab_kind tb M i lk [4, 5, 9, 11, 13]
  | .invokestatic i => ab_kind tb M i lk [2, 3, 6, 7, 8, 99]
  | .new i => match ab_nth tb.2.2.2.1 lk with
    | some q => decide (q.1 = M.1.cls) && Nat.beq q.2.1 i && ab_nlOK tb ts q
    | none => false
  | .anewarray i => match ab_nth tb.2.2.2.1 lk with
    | some q => ab_has ts q.2.2.2.1 (.classLink M.1.cls i "ScrewLeft$Step")
    | none => false
  | .multianewarray i _ => match ab_nth tb.2.2.2.1 lk with
    | some q => ab_has ts q.2.2.2.1 (.classLink M.1.cls i "[[I")
    | none => false
  | _ => true
def ab_eOK (tb : ab_TB) (ts : List (List Cond)) (M : ab_M) (pc : Nat) (x : ab_I) : Bool :=
  (match decode M.2.1 pc with
    | .ok q => decide (q.1 = x.1) && (ab_sw x.1 || Nat.beq q.2 (ab_len x.1))
    | _ => false) && ab_lk tb ts M pc x.1 x.2
def ab_all2 (f : Nat → ab_I → Bool) : List (Option ab_I) → Nat → Bool
  | [], _ => true
  | none :: l, pc => ab_all2 f l (pc + 1)
  | some x :: l, pc => f pc x && ab_all2 f l (pc + 1)
def ab_all1 (f : Nat → ab_I → Bool) : ab_T → Nat → Bool
  | [], _ => true
  | c :: t, pc => ab_all2 f c pc && ab_all1 f t (pc + 16)
theorem ab_all2_of {f : Nat → ab_I → Bool} : ∀ {l : List (Option ab_I)} {pc k : Nat} {x : ab_I}, ab_all2 f l pc = true → ab_nth l k = some (some x) → f (pc + k) x = true
  | none :: l, pc, 0, x, h, hk => by cases hk
  | some y :: l, pc, 0, x, h, hk => by
    cases hk
    simp only [ab_all2, Bool.and_eq_true] at h
    exact h.1
  | none :: l, pc, k + 1, x, h, hk => by
    have := ab_all2_of (l := l) (pc := pc + 1) (k := k) (x := x) h hk
    rwa [Nat.add_right_comm] at this
  | some y :: l, pc, k + 1, x, h, hk => by
    simp only [ab_all2, Bool.and_eq_true] at h
    have := ab_all2_of (l := l) (pc := pc + 1) (k := k) (x := x) h.2 hk
    rwa [Nat.add_right_comm] at this
theorem ab_all1_of {f : Nat → ab_I → Bool} : ∀ {t : ab_T} {pc k : Nat} {c : List (Option ab_I)}, ab_all1 f t pc = true → ab_nth t k = some c → ab_all2 f c (pc + 16 * k) = true
  | d :: t, pc, 0, c, h, hk => by
    cases hk
    simp only [ab_all1, Bool.and_eq_true] at h
    exact h.1
  | d :: t, pc, k + 1, c, h, hk => by
    simp only [ab_all1, Bool.and_eq_true] at h
    have := ab_all1_of (t := t) (pc := pc + 16) (k := k) (c := c) h.2 hk
    rwa [show pc + 16 + 16 * k = pc + 16 * (k + 1) by omega] at this
theorem ab_fetch_ok {f : Nat → ab_I → Bool} {t : ab_T} {pc : Nat} {x : ab_I} (h : ab_all1 f t 0 = true) (hx : ab_fetch t pc = some x) : f pc x = true := by
  unfold ab_fetch at hx
  split at hx
  · cases hx
  · rename_i c hc
    split at hx
    · cases hx
    · rename_i y hy
      subst hx
      have h1 := ab_all2_of (ab_all1_of h hc) hy
      rwa [show 0 + 16 * (pc / 16) + pc % 16 = pc by omega] at h1
/-- all that is asked of the tables -/
def ab_V (tb : ab_TB) (ts : List (List Cond)) : Prop := (∀ q ∈ tb.2.2.2.2.2.1, ab_clOK ts.flatten q) ∧ tb.1.all (ab_flOK tb ts) = true ∧ tb.2.1.all (ab_glOK tb ts) = true ∧ tb.2.2.1.all (ab_klOK ts) = true ∧ tb.2.2.2.2.1.all (ab_mOK ts) = true ∧ (∀ M ∈ tb.2.2.2.2.1, ab_all1 (ab_eOK tb ts M) M.2.2.2.2.2.2.2 0 = true)
  ∧ Cond.native arraycopyName ∈ ts.flatten ∧ Cond.static arraycopyName ∈ ts.flatten ∧ Cond.initialized "java/lang/System" ∈ ts.flatten ∧ Cond.static Lib.Math.max.name ∈ ts.flatten ∧ Cond.static Lib.Math.min.name ∈ ts.flatten ∧ Cond.initialized "java/lang/Math" ∈ ts.flatten ∧ Cond.code Lib.Math.max.name Lib.Math.max.code 2 (some .int) ∈ ts.flatten ∧ Cond.code Lib.Math.min.name Lib.Math.min.code 2 (some .int) ∈ ts.flatten
  ∧ Cond.instanceMethod Lib.objectInit ∈ ts.flatten ∧ Cond.code Lib.objectInit ⟨#[0xb1]⟩ 1 none ∈ ts.flatten ∧ Cond.arrayClass .int ∈ ts.flatten ∧ tb.2.2.2.2.2.1.length = 13 ∧ (∀ i, i ≤ 6 → ∃ q, tb.2.2.2.2.2.1[i]? = some q ∧ (q.1 = "ScrewLeft$Step" ∨ Cond.castable q.1 "ScrewLeft$Step" ∈ ts.flatten))
theorem ab_V.cast {tb : ab_TB} {ts : List (List Cond)} (h : ab_V tb ts) : ∀ i, i ≤ 6 → ∃ q, tb.2.2.2.2.2.1[i]? = some q ∧ (q.1 = "ScrewLeft$Step" ∨ Cond.castable q.1 "ScrewLeft$Step" ∈ ts.flatten) := by
  obtain ⟨-, -, -, -, -, -, -, -, -, -, -, -, -, -, -, -, -, -, h⟩ := h
  exact h
