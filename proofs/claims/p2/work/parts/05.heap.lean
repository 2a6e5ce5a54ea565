/-! THE ABSTRACT MACHINE IS SOUND: branches, the world -/
def ab_e (ad sd : Nat → Nat) (cT : Nat → ClassId) (c : ab_C) : va_E := match c with
  | .inl o => .inr (o.1, o.2.map (ab_v ad sd))
  | .inr (.inl xs) => .inl (cT 0, xs.length, .inl (fun j => xs.getD j 0))
  | .inr (.inr t) => .inl (cT (t.1 + 1), t.2.length, .inr (.inr (.inr (.inr (fun j => (t.2.getD j none).map (ab_r ad sd))))))
def ab_w (ad sd : Nat → Nat) (cT : Nat → ClassId) (w : ab_W) : va_W := w.mapIdx (fun k c => (ad k, ab_e ad sd cT c))
def ab_tys (cT : Nat → ClassId) : List (ClassId × FieldType) := [(cT 0, .int), (cT 1, .object "ScrewLeft$Step"), (cT 2, .array .int)]
theorem ab_w_get {ad sd : Nat → Nat} {cT : Nat → ClassId} {w : ab_W} {k : Nat} {c : ab_C} (h : w[k]? = some c) : (ab_w ad sd cT w)[k]? = some (ad k, ab_e ad sd cT c) := by
  unfold ab_w
  rw [List.getElem?_mapIdx, h]
  rfl
theorem ab_w_set {ad sd : Nat → Nat} {cT : Nat → ClassId} (w : ab_W) (k : Nat) (c : ab_C) : ab_w ad sd cT (w.set k c) = (ab_w ad sd cT w).set k (ad k, ab_e ad sd cT c) := by
  unfold ab_w
  apply List.ext_getElem?
  intro i
  rw [List.getElem?_mapIdx, List.getElem?_set, List.getElem?_set, List.getElem?_mapIdx, List.length_mapIdx]
  by_cases hi : k = i
  · subst hi
    by_cases hk : k < w.length <;> simp [hk]
  · simp [hi]
theorem ab_w_len {ad sd : Nat → Nat} {cT : Nat → ClassId} (w : ab_W) : (ab_w ad sd cT w).length = w.length := by simp [ab_w]
theorem ab_cell_of {w : ab_W} {r : Nat} {c : ab_C} (h : ab_cell w r = some c) : w[r]? = some c ∧ Nat.ble ab_B r = false := by
  unfold ab_cell at h
  cases hb : Nat.ble ab_B r with
  | true => rw [hb] at h; cases h
  | false => rw [hb] at h; rw [← ab_nth_eq]; exact ⟨h, rfl⟩
theorem ab_ix_of {α : Type} {xs : List α} {i : Int32} {v : α} (h : ab_ix xs i = some v) : xs[i.toNatClampNeg]? = some v ∧ vp_in i xs.length := by
  unfold ab_ix at h
  by_cases hi : i < 0
  · simp [hi] at h
  · simp only [hi, decide_false, cond_false, ab_nth_eq] at h
    refine ⟨h, ?_⟩
    rintro (q | q)
    · exact hi q
    · have := (List.getElem?_eq_some_iff.mp h).1
      omega
def ab_nw (w : Cond) : Bool := match w with
  | .fieldLinkNest .. => true
  | .methodLinkNest .. => true
  | .castable .. => true
  | _ => false
def ab_len3 : List Nat := [0, 3, 3]
def ab_byt3 : List (List Int32) := [ab_sb 0, ab_sb 1, ab_sb 2]
theorem ab_len3_at : ∀ i, i < 3 → ab_len3.getD i 0 = (ab_sb i).length := by decide +kernel
theorem ab_byt3_at {i : Nat} (h : i < 3) : ab_byt3.getD i [] = ab_sb i := by
  rcases (show i = 0 ∨ i = 1 ∨ i = 2 by omega) with rfl | rfl | rfl <;> rfl
/-- what stands outside the world: the static row, other rows that are only read, the texts -/
def ab_Sx (sd : Nat → Nat) (sp : List (List Int32)) (A : Nat → Prop) (U : State) (H : Heap) : Prop :=
  va_Z "ScrewLeft" "ABOVE" "[I" (.ref (sd ab_B)) A U H ∧ (∀ (j : Nat) (xs : List Int32), sp[j]? = some xs → va_T .int (sd (ab_B + j)) xs.length (fun i => .int (xs.getD i 0)) A U H) ∧ (∀ i : Nat, i < 3 → vk_R (ab_str i).1 (ab_str i).2.1 (ab_str i).2.2 (sd (ab_B + 100 + i)) U) ∧ vk_S 3 ab_len3 ab_byt3 (fun i => sd (ab_B + 100 + i)) (fun i => sd (ab_B + 200 + i)) A U H ∧ va_Z "java/lang/String" "COMPACT_STRINGS" "Z" (.int 1) A U H
def ab_AOA (U : State) : Prop := (Cond.arrayOver (.array .int)).before #[] U = true
/-- what holds all along a method -/
def ab_Cx (tb : ab_TB) (ts : List (List Cond)) (p : Program) (s : State) (m : MethodId) (args : Array Value) (meth : Method) (c : Code) (M : ab_M) (D : va_G) (cT : Nat → ClassId) (A : Nat → Prop) (sd : Nat → Nat) (sp : List (List Int32)) : Prop :=
  p.tables.exec = Jvm.exec ∧ c.code = M.2.1 ∧ c.maxLocals = M.2.2.1 ∧ s.vm.findClass M.1.cls = some m.cls ∧ (M.1.name = "<init>" → meth.name = "<init>") ∧ meth.sig.returnType = M.2.2.2.1 ∧ meth.locks = false ∧ (∀ w ∈ ts.flatten.filter goodWord, w.before args s = true) ∧ (∀ w ∈ ts.flatten.filter ab_nw, va_Nw w s) ∧ va_K D tb.2.2.2.2.2.1 (ab_tys cT) s ∧ (∀ q, s.heap.size ≤ q → A q) ∧ ab_Sx sd sp A s s.heap ∧ va_AO "ScrewLeft$Step" s ∧ ab_AOA s
/-- the heap holds the world -/
def ab_P (tb : ab_TB) (s : State) (D : va_G) (cT : Nat → ClassId) (A : Nat → Prop) (ad sd : Nat → Nat) (w : ab_W) (H : Heap) (locs : List Loc) : Prop :=
  va_P D tb.2.2.2.2.2.1 (ab_w ad sd cT w) H ∧ va_D A (ab_w ad sd cT w) ∧ va_S A s.heap H locs
/-- an instruction stands in the code, and its link is right -/
def ab_E (tb : ab_TB) (ts : List (List Cond)) (M : ab_M) (pc : Nat) (ins : Instr) (lk : Nat) : Prop := (∃ n, decode M.2.1 pc = .ok (ins, n) ∧ (ab_sw ins = false → n = ab_len ins)) ∧ ab_lk tb ts M pc ins lk = true
theorem ab_E.of {tb : ab_TB} {ts : List (List Cond)} {M : ab_M} {pc : Nat} {x : ab_I} (h : ab_eOK tb ts M pc x = true) : ab_E tb ts M pc x.1 x.2 := by
  unfold ab_eOK at h
  rw [Bool.and_eq_true] at h
  refine ⟨?_, h.2⟩
  have h1 := h.1
  split at h1
  · rename_i q hq
    rw [Bool.and_eq_true] at h1
    have e := of_decide_eq_true h1.1
    refine ⟨q.2, by rw [← e]; exact hq, fun hs => ?_⟩
    rw [hs] at h1
    exact Nat.eq_of_beq_eq_true h1.2
  · cases h1
theorem ab_E.dec {tb : ab_TB} {ts : List (List Cond)} {M : ab_M} {pc lk : Nat} {ins : Instr} (h : ab_E tb ts M pc ins lk) (hs : ab_sw ins = false) : decode M.2.1 pc = .ok (ins, ab_len ins) := by
  obtain ⟨⟨n, h1, h2⟩, -⟩ := h
  rw [← h2 hs]
  exact h1
theorem ab_good {ts : List (List Cond)} {args : Array Value} {s : State} {w : Cond} (hG : ∀ w ∈ ts.flatten.filter goodWord, w.before args s = true) (h : w ∈ ts.flatten) (hg : goodWord w = true) : w.before args s = true := hG w (List.mem_filter.mpr ⟨h, hg⟩)
theorem ab_nest_of {ts : List (List Cond)} {s : State} {w : Cond} (hN : ∀ w ∈ ts.flatten.filter ab_nw, va_Nw w s) (h : w ∈ ts.flatten) (hg : ab_nw w = true) : va_Nw w s := hN w (List.mem_filter.mpr ⟨h, hg⟩)
theorem ab_lay_good (C : String) (T : u_T) (k : Nat) : goodWord (u_lay C T k) = true := by
  unfold u_lay
  split <;> rfl
theorem ab_uws {ts : List (List Cond)} {q : vw_C} (h : ab_clOK ts.flatten q) : ∀ w ∈ u_ws q.1 q.2.1 q.2.2, w ∈ ts.flatten.filter goodWord := by
  intro w hw
  refine List.mem_filter.mpr ⟨h.1 w hw, ?_⟩
  obtain ⟨k, -, rfl⟩ := List.mem_map.mp hw
  exact ab_lay_good _ _ _
theorem ab_ty_ok {ts : List Cond} {q : vw_C} (h : ab_clOK ts q) : ∀ k, k < q.2.2 → parseFieldDescriptor (q.2.1 k).2.2.1 = some (ab_ty q k) := by
  intro k hk
  unfold ab_ty
  have := h.2.2.1 k hk
  cases hp : parseFieldDescriptor (q.2.1 k).2.2.1 with
  | none => rw [hp] at this; cases this
  | some t => rfl
theorem ab_r_lo {ad sd : Nat → Nat} {r : Nat} (h : Nat.ble ab_B r = false) : ab_r ad sd r = ad r := by unfold ab_r; rw [h]; rfl
theorem ab_r_hi {ad sd : Nat → Nat} {r : Nat} (h : Nat.ble ab_B r = true) : ab_r ad sd r = sd r := by unfold ab_r; rw [h]; rfl
theorem ab_rf_v {ad sd : Nat → Nat} (o : Option Nat) : va_rf (o.map (ab_r ad sd)) = ab_v ad sd (va_rf o) := by cases o <;> rfl
theorem ab_upd {xs : List Int32} {i : Nat} {x : Int32} (h : i < xs.length) : upd (fun j => xs.getD j 0) i x = fun j => (xs.set i x).getD j 0 := by
  funext j
  simp only [upd, List.getD_eq_getElem?_getD, List.getElem?_set]
  by_cases hj : j = i
  · subst hj; simp [h]
  · simp [hj, Ne.symm hj]
theorem ab_va_up {α : Type} {xs : List (Option Nat)} {i : Nat} {x : Option Nat} {g : Nat → α} (h : i < xs.length) : va_up (fun j => (xs.getD j none).map g) i (x.map g) = fun j => ((xs.set i x).getD j none).map g := by
  funext j
  simp only [va_up, List.getD_eq_getElem?_getD, List.getElem?_set]
  by_cases hj : j = i
  · subst hj; simp [h]
  · simp [hj, Ne.symm hj]
theorem ab_tc_fit {tc : Nat} {t : FieldType} {v : Value} {ad sd : Nat → Nat} (h : ab_tcOK tc (some t) = true) (hf : ab_fit tc v = true) : narrow t (ab_v ad sd v) = ab_v ad sd v ∧ fits t (ab_v ad sd v) = true := by
  unfold ab_tcOK at h
  split at h
  · rename_i h1
    cases h1
    cases v <;> first | exact ⟨rfl, rfl⟩ | (simp [ab_fit] at hf)
  · rename_i h1
    cases h1
    cases v with
    | int x =>
      have h2 : x = 0 ∨ x = 1 := by simpa [ab_fit] using hf
      rcases h2 with rfl | rfl
      · exact ⟨show narrow .boolean (.int 0) = .int 0 by decide +kernel, show fits .boolean (.int 0) = true by decide +kernel⟩
      · exact ⟨show narrow .boolean (.int 1) = .int 1 by decide +kernel, show fits .boolean (.int 1) = true by decide +kernel⟩
    | _ => simp [ab_fit] at hf
  · rename_i n h1
    cases h1
    cases v <;> first | exact ⟨rfl, rfl⟩ | (simp [ab_fit] at hf)
  · rename_i n h1
    cases h1
    cases v <;> first | exact ⟨rfl, rfl⟩ | (simp [ab_fit] at hf)
  · cases h
section ABH
variable {p : Program} {l : Launch} {e : Env} {R : Room} {s : State} {m : MethodId} {args : Array Value} {below : List Frame} {meth : Method} {c : Code} {H : Heap} {locs : List Loc} {cells slots : Nat} {Q : State → Prop}
variable {pc lk : Nat} {ls : Array Slot} {ad sd : Nat → Nat} {tb : ab_TB} {ts : List (List Cond)} {M : ab_M} {D : va_G} {cT : Nat → ClassId} {A : Nat → Prop} {sp : List (List Int32)} {w w' : ab_W} {st st' : List Value}
theorem ab_tgt_of {pc pc' : Nat} {off : Int} {r r' : List Value} (h : ab_tgt pc off r = some (pc', r')) : (pc : Int) + off = (pc' : Int) ∧ r = r' := by
  unfold ab_tgt at h
  by_cases hd : (pc : Int) + off = (((pc : Int) + off).toNat : Int)
  · rw [decide_eq_true hd] at h
    cases h
    exact ⟨hd, rfl⟩
  · rw [decide_eq_false hd] at h
    cases h
theorem ab_br_ok {pc' : Nat} {ins : Instr} (h : ab_br ins pc lk st = some (pc', st')) (hx : p.tables.exec = Jvm.exec) (hb : c.code = M.2.1) (hE : ab_E tb ts M pc ins lk)
    (k : W p l e R s m args below meth c H locs cells slots Q (F0 m pc' ls (st'.map (ab_v ad sd)))) : W p l e R s m args below meth c H locs cells slots Q (F0 m pc ls (st.map (ab_v ad sd))) := by
  cases ins with
  | goto off =>
    cases h
    exact lv_goto hx hb (hE.dec rfl) (of_decide_eq_true hE.2) k
  | ifCond cd off =>
    simp only [ab_br] at h
    split at h
    · rename_i x r
      have hd := hE.dec rfl
      have ht : (pc : Int) + off = (lk : Int) := of_decide_eq_true hE.2
      have key : ∀ b : Bool, ab_c1 cd x = b → W p l e R s m args below meth c H locs cells slots Q (F0 m (cond b lk (pc + 3)) ls (r.map (ab_v ad sd))) := by
        intro b hb2
        rw [hb2] at h
        cases h
        exact k
      cases cd with
      | eq => exact lv_if_eq hx hb hd ht (fun q => key true (decide_eq_true q)) (fun q => key false (decide_eq_false q))
      | ne => exact lv_if_ne hx hb hd ht (fun q => key true (by simp [ab_c1, q])) (fun q => key false (by simp [ab_c1, q]))
      | lt => exact lv_if_lt hx hb hd ht (fun q => key true (decide_eq_true q)) (fun q => key false (decide_eq_false q))
      | ge => exact lv_if_ge hx hb hd ht (fun q => key true (decide_eq_true q)) (fun q => key false (decide_eq_false q))
      | gt => exact lv_if_gt hx hb hd ht (fun q => key true (decide_eq_true q)) (fun q => key false (decide_eq_false q))
      | le => exact lv_if_le hx hb hd ht (fun q => key true (decide_eq_true q)) (fun q => key false (decide_eq_false q))
    · cases h
  | if_icmp cd off =>
    simp only [ab_br] at h
    split at h
    · rename_i y x r
      have hd := hE.dec rfl
      have ht : (pc : Int) + off = (lk : Int) := of_decide_eq_true hE.2
      have key : ∀ b : Bool, ab_c2 cd x y = b → W p l e R s m args below meth c H locs cells slots Q (F0 m (cond b lk (pc + 3)) ls (r.map (ab_v ad sd))) := by
        intro b hb2
        rw [hb2] at h
        cases h
        exact k
      cases cd with
      | eq => exact lv_icmp_eq hx hb hd ht (fun q => key true (decide_eq_true q)) (fun q => key false (decide_eq_false q))
      | ne => exact lv_icmp_ne hx hb hd ht (fun q => key true (by simp [ab_c2, q])) (fun q => key false (by simp [ab_c2, q]))
      | lt => exact lv_icmp_lt hx hb hd ht (fun q => key true (decide_eq_true q)) (fun q => key false (decide_eq_false q))
      | ge => exact lv_icmp_ge hx hb hd ht (fun q => key true (decide_eq_true q)) (fun q => key false (decide_eq_false q))
      | gt => exact lv_icmp_gt hx hb hd ht (fun q => key true (decide_eq_true q)) (fun q => key false (decide_eq_false q))
      | le => exact lv_icmp_le hx hb hd ht (fun q => key true (decide_eq_true q)) (fun q => key false (decide_eq_false q))
    · cases h
  | tableswitch d lo hi offs =>
    obtain ⟨⟨n, hd, -⟩, -⟩ := hE
    simp only [ab_br] at h
    split at h
    · rename_i x r
      by_cases h1 : x.toInt < lo
      · rw [decide_eq_true h1, Bool.true_or] at h
        obtain ⟨ht, rfl⟩ := ab_tgt_of h
        exact lv_tableOut hx hb hd (Or.inl h1) ht k
      · by_cases h2 : hi < x.toInt
        · rw [decide_eq_true h2, Bool.or_true] at h
          obtain ⟨ht, rfl⟩ := ab_tgt_of h
          exact lv_tableOut hx hb hd (Or.inr h2) ht k
        · rw [decide_eq_false h1, decide_eq_false h2] at h
          simp only [Bool.or_false, cond_false] at h
          split at h
          · rename_i off ho
            obtain ⟨ht, rfl⟩ := ab_tgt_of h
            exact lv_tableIn hx hb hd h1 h2 ho ht k
          · cases h
    · cases h
  | lookupswitch d ps =>
    obtain ⟨⟨n, hd, -⟩, -⟩ := hE
    simp only [ab_br] at h
    split at h
    · rename_i x r
      cases hp : (ps.toList.zip (ps.toList.drop 1)).all (fun (a, next) => a.1 < next.1) with
      | false => rw [hp] at h; cases h
      | true =>
        rw [hp] at h
        obtain ⟨ht, rfl⟩ := ab_tgt_of h
        exact lv_lookup hx hb hd hp rfl ht k
    · cases h
  | _ => cases h
end ABH
