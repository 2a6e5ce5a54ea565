/-! THE ABSTRACT MACHINE: a state is (pc, locals, stack, world, cells made, slots made); references are places in the world, or special ones from ab_B on; a call is one step -/
abbrev ab_C : Type := (Nat × List Value) ⊕ (List Int32 ⊕ (Nat × List (Option Nat)))
abbrev ab_W : Type := List ab_C
abbrev ab_Lo : Type := List (Nat × Value)
abbrev ab_I : Type := Instr × Nat
abbrev ab_T : Type := List (List (Option ab_I))
/-- name, code, locals, answer, cells made, slots made, places of its words, instructions -/
abbrev ab_M : Type := MethodName × ByteArray × Nat × Option FieldType × Nat × Nat × (Nat × Nat × Nat) × ab_T
/-- a field: own class, index, class, place, mode (0 own, 1 nest mate), type (0 int, 1 boolean, 2 reference), place of its word -/
abbrev ab_F : Type := String × Nat × Nat × Nat × Nat × Nat × Nat
/-- a call: own class, index, kind, name, arguments, places (its word, 'sameMethod', the declarer's method), targets (class, method, place of 'selects') -/
abbrev ab_G : Type := String × Nat × Nat × MethodName × Nat × (Nat × Nat × Nat) × List (Nat × Nat × Nat)
/-- a constant: own class, index, value, place of its word -/
abbrev ab_K : Type := String × Nat × Value × Nat
/-- a class named: own class, index, class (or type of array), place of its word, place of 'instantiable' -/
abbrev ab_N : Type := String × Nat × Nat × Nat × Nat
abbrev ab_TB : Type := List ab_F × List ab_G × List ab_K × List ab_N × List ab_M × List vw_C × List (List Value)
abbrev ab_St : Type := Nat × ab_Lo × List Value × ab_W × Nat × Nat
abbrev ab_R : Type := Option Value × ab_W
abbrev ab_Cf : Type := Nat → List Value → ab_W → Option ab_R
def ab_B : Nat := 1000000
def ab_nth {α : Type} : List α → Nat → Option α
  | [], _ => none
  | a :: _, 0 => some a
  | _ :: l, n + 1 => ab_nth l n
theorem ab_nth_eq {α : Type} (l : List α) (n : Nat) : ab_nth l n = l[n]? := by
  induction l generalizing n with
  | nil => simp [ab_nth]
  | cons a l ih =>
    cases n with
    | zero => simp [ab_nth]
    | succ n => simp [ab_nth, ih]
def ab_fetch (t : ab_T) (pc : Nat) : Option ab_I := match ab_nth t (pc / 16) with
  | none => none
  | some c => match ab_nth c (pc % 16) with
    | none => none
    | some x => x
def ab_len (ins : Instr) : Nat := match ins with
  | .bipush _ => 2
  | .sipush _ => 3
  | .ldc _ => 2
  | .ldc_w _ => 3
  | .ldc2_w _ => 3
  | .iload _ => 2
  | .aload _ => 2
  | .istore _ => 2
  | .astore _ => 2
  | .iinc _ _ => 3
  | .ifCond _ _ => 3
  | .if_icmp _ _ => 3
  | .goto _ => 3
  | .getfield _ => 3
  | .putfield _ => 3
  | .getstatic _ => 3
  | .invokevirtual _ => 3
  | .invokespecial _ => 3
  | .invokestatic _ => 3
  | .new _ => 3
  | .newarray _ => 2
  | .anewarray _ => 3
  | .multianewarray _ _ => 4
  | _ => 1
-- what needs the stack alone
def ab_i1 (f : Int32 → Value) (st : List Value) : Option (List Value) := match st with
  | .int x :: r => some (f x :: r)
  | _ => none
def ab_i2 (f : Int32 → Int32 → Value) (st : List Value) : Option (List Value) := match st with
  | .int y :: .int x :: r => some (f x y :: r)
  | _ => none
def ab_d2 (f : Int32 → Int32 → Value) (st : List Value) : Option (List Value) := match st with
  | .int y :: .int x :: r => cond (decide (y = 0)) none (some (f x y :: r))
  | _ => none
def ab_l2 (f : Int64 → Int64 → Value) (st : List Value) : Option (List Value) := match st with
  | .long y :: .long x :: r => some (f x y :: r)
  | _ => none
def ab_ls (f : Int64 → Int32 → Value) (st : List Value) : Option (List Value) := match st with
  | .int y :: .long x :: r => some (f x y :: r)
  | _ => none
def ab_l1 (f : Int64 → Value) (st : List Value) : Option (List Value) := match st with
  | .long x :: r => some (f x :: r)
  | _ => none
def ab_one (v : Value) : Bool := match v with
  | .long _ => false
  | .double _ => false
  | _ => true
def ab_pure (ins : Instr) (st : List Value) : Option (List Value) := match ins with
  | .iconst n => some (.int (Int32.ofInt n) :: st)
  | .bipush n => some (.int (Int8.ofInt n).toInt32 :: st)
  | .sipush n => some (.int (Int16.ofInt n).toInt32 :: st)
  | .dup => match st with
    | v :: r => cond (ab_one v) (some (v :: v :: r)) none
    | _ => none
  | .pop => match st with
    | v :: r => cond (ab_one v) (some r) none
    | _ => none
  | .dup2 => match st with
    | v :: u :: r => cond (ab_one v && ab_one u) (some (v :: u :: v :: u :: r)) none
    | _ => none
  | .iadd => ab_i2 (fun x y => .int (x + y)) st
  | .isub => ab_i2 (fun x y => .int (x - y)) st
  | .imul => ab_i2 (fun x y => .int (x * y)) st
  | .idiv => ab_d2 (fun x y => .int (x / y)) st
  | .irem => ab_d2 (fun x y => .int (x - x / y * y)) st
  | .ineg => ab_i1 (fun x => .int (-x)) st
  | .iand => ab_i2 (fun x y => .int (x &&& y)) st
  | .ior => ab_i2 (fun x y => .int (x ||| y)) st
  | .ixor => ab_i2 (fun x y => .int (x ^^^ y)) st
  | .ishl => ab_i2 (fun x y => .int (x <<< (y &&& 31))) st
  | .ishr => ab_i2 (fun x y => .int (x >>> (y &&& 31))) st
  | .iushr => ab_i2 (fun x y => .int ((x.toUInt32 >>> (y.toUInt32 &&& Int32.toUInt32 31)).toInt32)) st
  | .i2l => ab_i1 (fun x => .long x.toInt64) st
  | .l2i => ab_l1 (fun x => .int x.toInt32) st
  | .i2b => ab_i1 (fun x => .int x.toInt8.toInt32) st
  | .i2s => ab_i1 (fun x => .int x.toInt16.toInt32) st
  | .i2c => ab_i1 (fun x => .int ((x.toUInt32 % 65536).toInt32)) st
  | .land => ab_l2 (fun x y => .long (x &&& y)) st
  | .lor => ab_l2 (fun x y => .long (x ||| y)) st
  | .lshl => ab_ls (fun x y => .long (x <<< (y.toInt64 &&& 63))) st
  | .lshr => ab_ls (fun x y => .long (x >>> (y.toInt64 &&& 63))) st
  | .lushr => ab_ls (fun x y => .long ((x.toUInt64 >>> (y.toInt64.toUInt64 &&& Int64.toUInt64 63)).toInt64)) st
  | _ => none
-- locals
def ab_get (L : ab_Lo) (i : Nat) : Option Value := match L with
  | [] => none
  | q :: L' => cond (Nat.beq q.1 i) (some q.2) (ab_get L' i)
def ab_up (L : ab_Lo) (i : Nat) (v : Value) : ab_Lo := (i, v) :: L.filter (fun q => !(q.1 == i) && !(q.1 + 1 == i && q.2.category == 2))
def ab_ldi (L : ab_Lo) (i : Nat) (st : List Value) : Option (ab_Lo × List Value) := match ab_get L i with
  | some (.int x) => some (L, .int x :: st)
  | _ => none
def ab_lda (L : ab_Lo) (i : Nat) (st : List Value) : Option (ab_Lo × List Value) := match ab_get L i with
  | some (.ref x) => some (L, .ref x :: st)
  | _ => none
def ab_ldl (L : ab_Lo) (i : Nat) (st : List Value) : Option (ab_Lo × List Value) := match ab_get L i with
  | some (.long x) => some (L, .long x :: st)
  | _ => none
def ab_sti (n : Nat) (L : ab_Lo) (i : Nat) (st : List Value) : Option (ab_Lo × List Value) := match st with
  | .int x :: r => cond (Nat.blt i n) (some (ab_up L i (.int x), r)) none
  | _ => none
def ab_sta (n : Nat) (L : ab_Lo) (i : Nat) (st : List Value) : Option (ab_Lo × List Value) := match st with
  | .ref x :: r => cond (Nat.blt i n) (some (ab_up L i (.ref x), r)) none
  | _ => none
def ab_loc (n : Nat) (ins : Instr) (L : ab_Lo) (st : List Value) : Option (ab_Lo × List Value) := match ins with
  | .iload i => ab_ldi L i st
  | .iload_n i => ab_ldi L i st
  | .aload i => ab_lda L i st
  | .aload_n i => ab_lda L i st
  | .lload_n i => ab_ldl L i st
  | .istore i => ab_sti n L i st
  | .istore_n i => ab_sti n L i st
  | .astore i => ab_sta n L i st
  | .astore_n i => ab_sta n L i st
  | .iinc i k => match ab_get L i with
    | some (.int x) => cond (Nat.blt i n) (some (ab_up L i (.int (x + Int32.ofInt k)), st)) none
    | _ => none
  | _ => none
-- branches
def ab_c1 (c : ClassFile.Cond) (x : Int32) : Bool := match c with
  | .eq => decide (x = 0)
  | .ne => !decide (x = 0)
  | .lt => decide (x < 0)
  | .ge => decide (0 ≤ x)
  | .gt => decide (0 < x)
  | .le => decide (x ≤ 0)
def ab_c2 (c : ClassFile.Cond) (x y : Int32) : Bool := match c with
  | .eq => decide (x = y)
  | .ne => !decide (x = y)
  | .lt => decide (x < y)
  | .ge => decide (y ≤ x)
  | .gt => decide (y < x)
  | .le => decide (x ≤ y)
def ab_tgt (pc : Nat) (off : Int) (r : List Value) : Option (Nat × List Value) :=
  cond (decide ((pc : Int) + off = (((pc : Int) + off).toNat : Int))) (some (((pc : Int) + off).toNat, r)) none
def ab_br (ins : Instr) (pc lk : Nat) (st : List Value) : Option (Nat × List Value) := match ins with
  | .goto _ => some (lk, st)
  | .ifCond c _ => match st with
    | .int x :: r => some (cond (ab_c1 c x) lk (pc + 3), r)
    | _ => none
  | .if_icmp c _ => match st with
    | .int y :: .int x :: r => some (cond (ab_c2 c x y) lk (pc + 3), r)
    | _ => none
  | .tableswitch d lo hi offs => match st with
    | .int x :: r => cond (decide (x.toInt < lo) || decide (hi < x.toInt)) (ab_tgt pc d r) (match offs[(x.toInt - lo).toNat]? with
      | some off => ab_tgt pc off r
      | none => none)
    | _ => none
  | .lookupswitch d ps => match st with
    | .int x :: r => cond ((ps.toList.zip (ps.toList.drop 1)).all (fun (a, next) => a.1 < next.1)) (ab_tgt pc (Op.lookupswitch.offset ps.toList d x.toInt) r) none
    | _ => none
  | _ => none
-- the world
def ab_cell (w : ab_W) (r : Nat) : Option ab_C := cond (Nat.ble ab_B r) none (ab_nth w r)
def ab_arr (sp : List (List Int32)) (w : ab_W) (r : Nat) : Option (List Int32) := cond (Nat.ble ab_B r) (ab_nth sp (r - ab_B)) (match ab_nth w r with
  | some (.inr (.inl xs)) => some xs
  | _ => none)
def ab_ix {α : Type} (xs : List α) (i : Int32) : Option α := cond (decide (i < 0)) none (ab_nth xs i.toNatClampNeg)
def ab_fit (tc : Nat) (v : Value) : Bool := match tc, v with
  | 0, .int _ => true
  | 1, .int x => decide (x = 0) || decide (x = 1)
  | 2, .ref _ => true
  | 2, .null => true
  | _, _ => false
/-- the bytes of the texts that are named -/
def ab_sb (i : Nat) : List Int32 := match i with
  | 0 => []
  | 1 => [115, 109, 116]
  | _ => [109, 116, 107]
def ab_isS (r : Nat) : Bool := Nat.ble (ab_B + 100) r && Nat.ble r (ab_B + 102)
def ab_isV (r : Nat) : Bool := Nat.ble (ab_B + 200) r && Nat.ble r (ab_B + 202)
def ab_heap (tb : ab_TB) (sp : List (List Int32)) (ins : Instr) (lk : Nat) (st : List Value) (w : ab_W) : Option (List Value × ab_W) := match ins with
  | .getfield _ => match st with
    | .ref r :: rest => match ab_nth tb.1 lk with
      | some f => match ab_cell w r with
        | some (.inl o) => cond (Nat.beq o.1 f.2.2.1) (match ab_nth o.2 f.2.2.2.1 with
          | some v => some (v :: rest, w)
          | none => none) none
        | _ => none
      | none => cond (ab_isS r) (some (cond (Nat.beq (lk % 2) 0) (.int 0) (.ref (r + 100)) :: rest, w)) none
    | _ => none
  | .putfield _ => match st with
    | v :: .ref r :: rest => match ab_nth tb.1 lk with
      | some f => match ab_cell w r with
        | some (.inl o) => cond (Nat.beq o.1 f.2.2.1 && ab_fit f.2.2.2.2.2.1 v) (match ab_nth o.2 f.2.2.2.1 with
          | some _ => some (rest, w.set r (.inl (o.1, o.2.set f.2.2.2.1 v)))
          | none => none) none
        | _ => none
      | none => none
    | _ => none
  | .iaload => match st with
    | .int i :: .ref r :: rest => match ab_arr sp w r with
      | some xs => match ab_ix xs i with
        | some v => some (.int v :: rest, w)
        | none => none
      | none => none
    | _ => none
  | .baload => match st with
    | .int i :: .ref r :: rest => cond (ab_isV r) (match ab_ix (ab_sb (r - (ab_B + 200))) i with
      | some v => some (.int v :: rest, w)
      | none => none) none
    | _ => none
  | .iastore => match st with
    | .int x :: .int i :: .ref r :: rest => match ab_cell w r with
      | some (.inr (.inl xs)) => match ab_ix xs i with
        | some _ => some (rest, w.set r (.inr (.inl (xs.set i.toNatClampNeg x))))
        | none => none
      | _ => none
    | _ => none
  | .aaload => match st with
    | .int i :: .ref r :: rest => match ab_cell w r with
      | some (.inr (.inr t)) => cond (Nat.blt t.1 2) (match ab_ix t.2 i with
        | some v => some (va_rf v :: rest, w)
        | none => none) none
      | _ => none
    | _ => none
  | .aastore => match st with
    | .ref v :: .int i :: .ref r :: rest => match ab_cell w r with
      | some (.inr (.inr t)) => match ab_cell w v with
        | some (.inl o) => cond (Nat.beq t.1 0 && Nat.ble o.1 6) (match ab_ix t.2 i with
          | some _ => some (rest, w.set r (.inr (.inr (t.1, t.2.set i.toNatClampNeg (some v)))))
          | none => none) none
        | _ => none
      | _ => none
    | _ => none
  | .arraylength => match st with
    | .ref r :: rest => cond (Nat.ble ab_B r) (match ab_nth sp (r - ab_B) with
      | some xs => some (.int (Int32.ofNat xs.length) :: rest, w)
      | none => cond (ab_isV r) (some (.int (Int32.ofNat (ab_sb (r - (ab_B + 200))).length) :: rest, w)) none) (match ab_nth w r with
      | some (.inr (.inl xs)) => some (.int (Int32.ofNat xs.length) :: rest, w)
      | some (.inr (.inr t)) => cond (Nat.blt t.1 2) (some (.int (Int32.ofNat t.2.length) :: rest, w)) none
      | _ => none)
    | _ => none
  | .getstatic _ => some (cond (Nat.ble ab_B lk) (.int 1) (.ref ab_B) :: st, w)
  | .ldc _ => match ab_nth tb.2.2.1 lk with
    | some k => some (k.2.2.1 :: st, w)
    | none => none
  | .ldc_w _ => match ab_nth tb.2.2.1 lk with
    | some k => some (k.2.2.1 :: st, w)
    | none => none
  | .ldc2_w _ => match ab_nth tb.2.2.1 lk with
    | some k => some (k.2.2.1 :: st, w)
    | none => none
  | _ => none
-- calls
def ab_room (st : List Value) : Bool := Nat.ble ((st.map fun v => v.category).sum) 8
def ab_okv (n : Nat) (v : Value) : Bool := match v with
  | .ref k => Nat.blt k n || Nat.ble ab_B k
  | _ => true
def ab_okc (n : Nat) (c : ab_C) : Bool := match c with
  | .inl o => o.2.all (ab_okv n)
  | .inr (.inl _) => true
  | .inr (.inr t) => t.2.all (fun o => match o with
    | some k => Nat.blt k n
    | none => true)
def ab_okL (n : Nat) (L : ab_Lo) : Bool := L.all (fun q => ab_okv n q.2)
def ab_inv (tb : ab_TB) (cf : ab_Cf) (M : ab_M) (j : Nat) (As : List Value) (L : ab_Lo) (rest : List Value) (w : ab_W) (cn sn : Nat) : Option (List Value × ab_W × Nat × Nat) := match ab_nth tb.2.2.2.2.1 j with
  | none => none
  | some Mj => cond (ab_room rest && Nat.ble (cn + Mj.2.2.2.2.1) M.2.2.2.2.1 && Nat.ble (sn + Mj.2.2.2.2.2.1) M.2.2.2.2.2.1 && (Nat.beq Mj.2.2.2.2.1 0 || (ab_okL w.length L && rest.all (ab_okv w.length)))) (match cf j As w with
    | some r => some (r.1.toList ++ rest, r.2, cn + Mj.2.2.2.2.1, sn + Mj.2.2.2.2.2.1)
    | none => none) none
def ab_look (l : List (Nat × Nat × Nat)) (c : Nat) : Option (Nat × Nat × Nat) := match l with
  | [] => none
  | q :: l' => cond (Nat.beq q.1 c) (some q) (ab_look l' c)
def ab_cpy (f g : List Int32) (sp dp n : Nat) : List Int32 := g.take dp ++ ((f.drop sp).take n ++ g.drop (dp + n))
def ab_stat (tb : ab_TB) (cf : ab_Cf) (M : ab_M) (g : ab_G) (L : ab_Lo) (st : List Value) (w : ab_W) (cn sn : Nat) : Option (List Value × ab_W × Nat × Nat) := match g.2.2.2.2.2.2 with
  | q :: _ => cond (Nat.beq (st.take g.2.2.2.2.1).length g.2.2.2.2.1) (ab_inv tb cf M q.2.1 (st.take g.2.2.2.2.1).reverse L (st.drop g.2.2.2.2.1) w cn sn) none
  | [] => none
def ab_inst (tb : ab_TB) (cf : ab_Cf) (M : ab_M) (g : ab_G) (L : ab_Lo) (st : List Value) (w : ab_W) (cn sn : Nat) : Option (List Value × ab_W × Nat × Nat) := match st.drop g.2.2.2.2.1 with
  | .ref r :: rest => match ab_cell w r with
    | some (.inl o) => match ab_look g.2.2.2.2.2.2 o.1 with
      | some q => cond (Nat.beq (st.take g.2.2.2.2.1).length g.2.2.2.2.1) (ab_inv tb cf M q.2.1 (.ref r :: (st.take g.2.2.2.2.1).reverse) L rest w cn sn) none
      | none => none
    | _ => none
  | _ => none
def ab_sinst (tb : ab_TB) (cf : ab_Cf) (M : ab_M) (g : ab_G) (L : ab_Lo) (st : List Value) (w : ab_W) (cn sn : Nat) : Option (List Value × ab_W × Nat × Nat) := match st.drop g.2.2.2.2.1 with
  | .ref r :: rest => match g.2.2.2.2.2.2 with
    | q :: _ => cond (ab_isS r && Nat.beq (st.take g.2.2.2.2.1).length g.2.2.2.2.1) (ab_inv tb cf M q.2.1 (.ref r :: (st.take g.2.2.2.2.1).reverse) L rest w cn sn) none
    | [] => none
  | _ => none
def ab_go (tb : ab_TB) (cf : ab_Cf) (M : ab_M) (lk : Nat) (L : ab_Lo) (st : List Value) (w : ab_W) (cn sn : Nat) : Option (List Value × ab_W × Nat × Nat) := match ab_nth tb.2.1 lk with
  | none => none
  | some g => match g.2.2.1 with
    | 2 => ab_stat tb cf M g L st w cn sn
    | 3 => ab_stat tb cf M g L st w cn sn
    | 6 => match st with
      | .int n :: .int dp :: .ref a :: .int sp :: .ref b :: rest => match ab_cell w a with
        | some (.inr (.inl ys)) => match ab_cell w b with
          | some (.inr (.inl xs)) => cond (ab_room rest && !decide (sp < 0) && !decide (dp < 0) && !decide (n < 0) && Nat.ble (sp.toNatClampNeg + n.toNatClampNeg) xs.length && Nat.ble (dp.toNatClampNeg + n.toNatClampNeg) ys.length)
              (some (rest, w.set a (.inr (.inl (ab_cpy xs ys sp.toNatClampNeg dp.toNatClampNeg n.toNatClampNeg))), cn, sn)) none
          | _ => none
        | _ => none
      | _ => none
    | 7 => match st with
      | .int y :: .int x :: rest => cond (ab_room rest && Nat.ble cn M.2.2.2.2.1 && Nat.ble sn M.2.2.2.2.2.1) (some (.int (if x < y then y else x) :: rest, w, cn, sn)) none
      | _ => none
    | 8 => match st with
      | .int y :: .int x :: rest => cond (ab_room rest && Nat.ble cn M.2.2.2.2.1 && Nat.ble sn M.2.2.2.2.2.1) (some (.int (if y < x then y else x) :: rest, w, cn, sn)) none
      | _ => none
    | 9 => match st with
      | .ref _ :: rest => cond (ab_room rest) (some (rest, w, cn, sn)) none
      | _ => none
    | 12 => ab_sinst tb cf M g L st w cn sn
    | 99 => none
    | _ => ab_inst tb cf M g L st w cn sn
def ab_call1 (tb : ab_TB) (cf : ab_Cf) (M : ab_M) (ins : Instr) (lk : Nat) (L : ab_Lo) (st : List Value) (w : ab_W) (cn sn : Nat) : Option (List Value × ab_W × Nat × Nat) := match ins with
  | .invokevirtual _ => ab_go tb cf M lk L st w cn sn
  | .invokespecial _ => ab_go tb cf M lk L st w cn sn
  | .invokestatic _ => ab_go tb cf M lk L st w cn sn
  | _ => none
-- making
def ab_wf (L : ab_Lo) (st : List Value) (w : ab_W) : Bool := Nat.blt (w.length + 8) ab_B && ab_okL w.length L && st.all (ab_okv w.length) && w.all (ab_okc w.length)
def ab_new (tb : ab_TB) (M : ab_M) (ins : Instr) (lk : Nat) (L : ab_Lo) (st : List Value) (w : ab_W) (cn sn : Nat) : Option (List Value × ab_W × Nat × Nat) := match ins with
  | .new _ => match ab_nth tb.2.2.2.1 lk with
    | some q => match ab_nth tb.2.2.2.2.2.2 q.2.2.1 with
      | some fs => cond (ab_wf L st w && Nat.ble (cn + 1) M.2.2.2.2.1 && Nat.ble (sn + fs.length) M.2.2.2.2.2.1) (some (.ref w.length :: st, w ++ [.inl (q.2.2.1, fs)], cn + 1, sn + fs.length)) none
      | none => none
    | none => none
  | .newarray .int => match st with
    | .int n :: r => cond (!decide (n < 0) && Nat.ble n.toNatClampNeg 100000 && ab_wf L r w && Nat.ble (cn + 1) M.2.2.2.2.1 && Nat.ble (sn + n.toNatClampNeg) M.2.2.2.2.2.1) (some (.ref w.length :: r, w ++ [.inr (.inl (List.replicate n.toNatClampNeg 0))], cn + 1, sn + n.toNatClampNeg)) none
    | _ => none
  | .anewarray _ => match st with
    | .int n :: r => cond (!decide (n < 0) && Nat.ble n.toNatClampNeg 100000 && ab_wf L r w && Nat.ble (cn + 1) M.2.2.2.2.1 && Nat.ble (sn + n.toNatClampNeg) M.2.2.2.2.2.1) (some (.ref w.length :: r, w ++ [.inr (.inr (0, List.replicate n.toNatClampNeg none))], cn + 1, sn + n.toNatClampNeg)) none
    | _ => none
  | .multianewarray _ d => match st with
    | .int k :: .int n :: r => cond (decide (k = 40) && decide (n = 4) && Nat.beq d 2 && ab_wf L r w && Nat.ble (cn + 5) M.2.2.2.2.1 && Nat.ble (sn + 164) M.2.2.2.2.2.1)
        (some (.ref w.length :: r, w ++ [.inr (.inr (1, [some (w.length + 1), some (w.length + 2), some (w.length + 3), some (w.length + 4)])), .inr (.inl (List.replicate 40 0)), .inr (.inl (List.replicate 40 0)), .inr (.inl (List.replicate 40 0)), .inr (.inl (List.replicate 40 0))], cn + 5, sn + 164)) none
    | _ => none
  | _ => none
-- the end
def ab_ret (ret : Option FieldType) (ins : Instr) (st : List Value) : Option (Option Value) := match ins with
  | .ireturn => match st with
    | [.int v] => match ret with
      | some .int => some (some (.int v))
      | some .boolean => cond (decide (v = 0) || decide (v = 1)) (some (some (.int v))) none
      | some .byte => cond (decide (v = 0)) (some (some (.int v))) none
      | _ => none
    | _ => none
  | .return_ => match st with
    | [] => match ret with
      | none => some none
      | _ => none
    | _ => none
  | .areturn => match st with
    | [.ref v] => match ret with
      | some (.object _) => some (some (.ref v))
      | some (.array _) => some (some (.ref v))
      | _ => none
    | _ => none
  | _ => none
def ab_exec (tb : ab_TB) (cf : ab_Cf) (sp : List (List Int32)) (M : ab_M) (ins : Instr) (lk pc : Nat) (L : ab_Lo) (st : List Value) (w : ab_W) (cn sn : Nat) : Option (ab_St ⊕ ab_R) :=
  match ab_pure ins st with
  | some st' => some (.inl (pc + ab_len ins, L, st', w, cn, sn))
  | none => match ab_loc M.2.2.1 ins L st with
    | some q => some (.inl (pc + ab_len ins, q.1, q.2, w, cn, sn))
    | none => match ab_br ins pc lk st with
      | some q => some (.inl (q.1, L, q.2, w, cn, sn))
      | none => match ab_heap tb sp ins lk st w with
        | some q => some (.inl (pc + ab_len ins, L, q.1, q.2, cn, sn))
        | none => match ab_call1 tb cf M ins lk L st w cn sn with
          | some q => some (.inl (pc + 3, L, q.1, q.2.1, q.2.2.1, q.2.2.2))
          | none => match ab_ret M.2.2.2.1 ins st with
            | some v => some (.inr (v, w))
            | none => match ab_new tb M ins lk L st w cn sn with
              | some q => some (.inl (pc + ab_len ins, L, q.1, q.2.1, q.2.2.1, q.2.2.2))
              | none => none
def ab_step (tb : ab_TB) (cf : ab_Cf) (sp : List (List Int32)) (M : ab_M) (σ : ab_St) : Option (ab_St ⊕ ab_R) :=
  match ab_fetch M.2.2.2.2.2.2.2 σ.1 with
  | none => none
  | some x => ab_exec tb cf sp M x.1 x.2 σ.1 σ.2.1 σ.2.2.1 σ.2.2.2.1 σ.2.2.2.2.1 σ.2.2.2.2.2
def ab_run (tb : ab_TB) (cf : ab_Cf) (sp : List (List Int32)) (M : ab_M) : Nat → ab_St → Option ab_R
  | 0, _ => none
  | n + 1, σ => match ab_step tb cf sp M σ with
    | none => none
    | some (.inl σ') => ab_run tb cf sp M n σ'
    | some (.inr r) => some r
def ab_call (tb : ab_TB) (sp : List (List Int32)) (n : Nat) : Nat → Nat → List Value → ab_W → Option ab_R
  | 0, _, _, _ => none
  | d + 1, j, As, w => match ab_nth tb.2.2.2.2.1 j with
    | none => none
    | some M => cond (Nat.ble ((As.map fun v => v.category).sum) M.2.2.1) (ab_run tb (ab_call tb sp n d) sp M n (0, lv_args 0 As, [], w, 0, 0)) none
