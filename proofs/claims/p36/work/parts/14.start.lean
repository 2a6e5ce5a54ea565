section
/-! THE CLAIM OUT OF ONE WALK OF THE LAW'S BODY. Your part is whole_start (and what it stands on); all else here is the same for every law, but numbers. -/
def R_law : String := "ScrewLeftLaw"
def lw_P (b : Addr) (xs : List Int32) (args : Array Value) (s : State) : Prop := args = #[.ref b] ∧ s.IntsAt b xs ∧ xs.length ≤ 3072 ∧ (Jvm.Cond.and given_1 narrow_1).before args s = true
def lw_Q (_ : Array Value) (s : State) (o : Outcome) (t : State) : Prop := o = .returned (some (.int 1)) ∧ Framed s o t [] 600000 7302250
def lw_Z (below : List Frame) (a : Array Value) (s : State) : State → Prop := fun t => ∃ o, t.status = .running ∧ Ended t below o ∧ lw_Q a s o t
/-- the law's own end, with 1 on the stack, nothing written that was there before, its room as the claim has it -/
theorem lw_ret {p : Program} {l : Launch} {e : Env} {s : State} {m : MethodId} {below : List Frame} {meth : Method} {c : Code} {b : Nat} (hx : p.tables.exec = Jvm.exec) (hb : c.code = code) (hr : meth.sig.returnType = ret) (hlocks : meth.locks = false) {pc : Nat} {H : Heap} {ls : Array Slot} (hdg : decode code pc = .ok (.ireturn, 1)) : W p l e room_1 s m #[Value.ref b] below meth c H [] 600000 7302250 (lw_Z below #[Value.ref b] s) (F0 m pc ls [.int 1]) := by
  intro T hT X
  obtain ⟨fs, hret, hrun, hended, hW, hframe⟩ := X.leave (v := some (.int 1)) (hlocks := hlocks) (fun h => by rw [hr] at h; cases h)
  have hmeth' : T.vm.method? m = some meth := X.method'
  refine ⟨T.setFrames fs, ?_, .returned (some (.int 1)), hrun, hended, rfl, ⟨_, rfl⟩, hW, hframe⟩
  jvm_step X.here [X.here.top, hx, hb, hdg, hmeth', hr, ret, narrow_b1]
  (try refine ⟨rfl, ?_⟩); (try refine ⟨rfl, ?_⟩)
  first | (intro acts; rw [hret _ acts rfl rfl rfl]) | rw [hret _ _ rfl rfl rfl]
  exact Steps.refl _
/-- what holds at the law's entry: the machine, the code, the tables' words (any of lw_tbl by 'hts w (by decide +kernel)'), the script of L ints xs at the cell b, what the Statement gives of the start (any of its parts by flat_of_before) -/
def lw_At (p : Program) (s : State) (m : MethodId) (meth : Method) (c : Code) (b L : Nat) (xs : Nat → Int32) : Prop :=
  p.tables.exec = Jvm.exec ∧ c.code = code ∧ meth.sig.returnType = ret ∧ c.maxLocals = 4 ∧ s.vm.findClass R_law = some m.cls ∧ (∀ w ∈ lw_tbl, w.before #[Value.ref b] s = true) ∧ va_X b L xs s s.heap ∧ b < s.heap.size ∧ meth.locks = false ∧ (Jvm.Cond.and given_1 narrow_1).before #[Value.ref b] s = true
end
section
/-! THE LAW, FROM A RUN OF THE ABSTRACT MACHINE: what the start gives is what the machine's soundness asks -/
theorem lx_sub {xs : List Int32} : ∀ (j : Nat) (ys : List Int32), ([lx_above] : List (List Int32))[j]? = some ys → ([lx_above, xs] : List (List Int32))[j]? = some ys
  | 0, _, h => h
  | j + 1, _, h => by cases h
theorem lx_range (xs : Nat → Int32) (L : Nat) : ((List.range L).map xs).length = L := by rw [List.length_map, List.length_range]
theorem lx_at (xs : Nat → Int32) {L j : Nat} (h : j < L) : ((List.range L).map xs).getD j 0 = xs j := by
  rw [List.getD_eq_getElem?_getD, List.getElem?_map, List.getElem?_range h]
  rfl
section LX
variable {s : State} {args : Array Value}
theorem lx_array {c : ClassId} {k : Class} {comp : ClassId} {ty : FieldType} (h1 : s.vm.classes[c]? = some k) (h2 : k.kind = .array comp ty) : ArrOfT s c ty := fun _ _ => ⟨fun q hq => (by cases hq), k, h1, comp, h2⟩
theorem lx_classes (hts : ∀ w ∈ lw_tbl, w.before args s = true) : ∃ (dC : Nat → ClassId) (dI : Nat → Nat → Nat), ∀ (k : Nat) (q : vw_C), tb_cl[k]? = some q → u_Kn s q.1 q.2.1 q.2.2 (dC k) (dI k) := by
  have h : ∀ k : Nat, ∃ x : ClassId × (Nat → Nat), ∀ q : vw_C, tb_cl[k]? = some q → u_Kn s q.1 q.2.1 q.2.2 x.1 x.2 := by
    intro k
    cases hk : tb_cl[k]? with
    | none => exact ⟨(0, fun _ => 0), fun q hq => by cases hq⟩
    | some q =>
      obtain ⟨h1, -, -, h4, -⟩ := tb_okC q (List.mem_of_getElem? hk)
      obtain ⟨cC, iS, hK⟩ := u_known (ws := lw_tbl) hts h1 (hts _ h4)
      exact ⟨(cC, iS), fun q' hq' => by cases hq'; exact hK⟩
  obtain ⟨f, hf⟩ := Classical.axiomOfChoice h
  exact ⟨fun k => (f k).1, fun k => (f k).2, hf⟩
theorem lx_arrays (hts : ∀ w ∈ lw_tbl, w.before args s = true) : ∃ cT : Nat → ClassId, ∀ (k : Nat) (q : ClassId × FieldType), (ab_tys cT)[k]? = some q → ArrOfT s q.1 q.2 ∧ va_RA s q.1 q.2 := by
  have h0 : (Cond.arrayClass .int).before args s = true := hts _ tb_w10
  have h1 : (Cond.arrayOver (.object "ScrewLeft$Step")).before args s = true := hts _ (by decide +kernel)
  have h2 : (Cond.arrayOver (.array .int)).before args s = true := hts _ (by decide +kernel)
  obtain ⟨c0, k0, m0, a1, a2, a3⟩ := Cond.arrayClass_spec h0
  obtain ⟨m1, c1, k1, b1, b2, b3, b4, b5⟩ := Cond.arrayOver_spec h1
  obtain ⟨m2, c2, k2, e1, e2, e3, e4, e5⟩ := Jvm.Stand.arrayOver_specB h2
  refine ⟨fun k => match k with
    | 0 => c0
    | 1 => c1
    | _ => c2, fun k q hq => ?_⟩
  match k, hq with
  | 0, hq => cases hq; exact ⟨lx_array a2 a3, a1⟩
  | 1, hq => cases hq; exact ⟨lx_array b3 b4, k1, m1, b3, b4, b1, b5⟩
  | 2, hq => cases hq; exact ⟨lx_array e3 e4, e5⟩
  | k + 3, hq => cases hq
theorem lx_string {own : String} {k : Nat} {tx : String} (h1 : (Cond.stringRef own k tx).before args s = true) (h2 : (Cond.exactly (.string own k) "java/lang/String").before args s = true) : ∃ a : Nat, vk_R own k tx a s := by
  obtain ⟨a, c, cA, kA, q1, -⟩ := Cond.exactly_spec (args := args) (first := s) (o := none) (s := s) (idx := []) (t := .string own k) (cls := "java/lang/String") h2
  exact ⟨a, vk_R.of h1 q1⟩
end LX
set_option maxRecDepth 100000 in
theorem lx_flat {args : Array Value} {s : State} (h : (Jvm.Cond.and given_1 narrow_1).before args s = true) : (Cond.arrayOf (.static "ScrewLeft" "ABOVE" "[I") .int).before args s = true ∧ (Cond.eq (.length (.static "ScrewLeft" "ABOVE" "[I")) (.int 7)).before args s = true ∧ (∀ j : Nat, j < 7 → (Cond.eq (.elem (.static "ScrewLeft" "ABOVE" "[I") (.int (Int32.ofNat j))) (.int (lx_above.getD j 0))).before args s = true) ∧ (∀ i : Nat, i < 3 → (Cond.exactly (.string (ab_str i).1 (ab_str i).2.1) "java/lang/String").before args s = true) := by
  have hs := flat_of_before _ h
  refine ⟨hs _ (by decide +kernel), hs _ (by decide +kernel), fun j hj => ?_, fun i hi => ?_⟩
  · rcases (show j = 0 ∨ j = 1 ∨ j = 2 ∨ j = 3 ∨ j = 4 ∨ j = 5 ∨ j = 6 by omega) with rfl | rfl | rfl | rfl | rfl | rfl | rfl <;> exact hs _ (by decide +kernel)
  · rcases (show i = 0 ∨ i = 1 ∨ i = 2 by omega) with rfl | rfl | rfl <;> exact hs _ (by decide +kernel)
set_option maxRecDepth 100000 in
theorem lx_flatS {args : Array Value} {s : State} {A : Nat → Prop} (h : (Jvm.Cond.and given_1 narrow_1).before args s = true) (hA : ∀ a : Nat, a < s.heap.size → ¬ A a) : (Cond.eq (.static "java/lang/String" "COMPACT_STRINGS" "Z") (.int 1)).before args s = true ∧ ∃ adK adV : Nat → Nat, vk_S 3 ab_len3 ab_byt3 adK adV A s s.heap ∧ ∀ i : Nat, i < 3 → (Term.string (ab_str i).1 (ab_str i).2.1).eval args s none [] s = some (.ref (adK i)) := by
  have hs := flat_of_before _ h
  refine ⟨hs _ (by decide +kernel), vk_Sof (tm := fun i => .string (ab_str i).1 (ab_str i).2.1) (fun i hi => ?_) (fun i hi => ?_) (fun i hi => ?_) (fun i hi => ?_) (fun i hi => ?_) (fun i hi j hj => ?_) (fun i j hi hj hij => ?_) hA⟩
  · rcases (show i = 0 ∨ i = 1 ∨ i = 2 by omega) with rfl | rfl | rfl <;> decide +kernel
  · rcases (show i = 0 ∨ i = 1 ∨ i = 2 by omega) with rfl | rfl | rfl <;> exact hs _ (by decide +kernel)
  · rcases (show i = 0 ∨ i = 1 ∨ i = 2 by omega) with rfl | rfl | rfl <;> exact hs _ (by decide +kernel)
  · rcases (show i = 0 ∨ i = 1 ∨ i = 2 by omega) with rfl | rfl | rfl <;> exact hs _ (by decide +kernel)
  · rcases (show i = 0 ∨ i = 1 ∨ i = 2 by omega) with rfl | rfl | rfl <;> exact hs _ (by decide +kernel)
  · rcases (show i = 0 ∨ i = 1 ∨ i = 2 by omega) with rfl | rfl | rfl
    · exact absurd (show j < 0 from hj) (Nat.not_lt_zero j)
    · have hj : j < 3 := hj
      rcases (show j = 0 ∨ j = 1 ∨ j = 2 by omega) with rfl | rfl | rfl <;> exact hs _ (by decide +kernel)
    · have hj : j < 3 := hj
      rcases (show j = 0 ∨ j = 1 ∨ j = 2 by omega) with rfl | rfl | rfl <;> exact hs _ (by decide +kernel)
  · rcases (show i = 0 ∨ i = 1 ∨ i = 2 by omega) with rfl | rfl | rfl
    · rcases (show j = 1 ∨ j = 2 by omega) with rfl | rfl
      · exact Or.inl (hs _ (by decide +kernel))
      · exact Or.inl (hs _ (by decide +kernel))
    · rcases (show j = 0 ∨ j = 2 by omega) with rfl | rfl
      · exact Or.inr (hs _ (by decide +kernel))
      · exact Or.inl (hs _ (by decide +kernel))
    · rcases (show j = 0 ∨ j = 1 by omega) with rfl | rfl
      · exact Or.inr (hs _ (by decide +kernel))
      · exact Or.inr (hs _ (by decide +kernel))
theorem lx_vkc {N : Nat} {len : List Nat} {byt : List (List Int32)} {aK aV bK bV : Nat → Nat} {A : Nat → Prop} {U : State} {H : Heap} (h : vk_S N len byt aK aV A U H) (h1 : ∀ i, i < N → bK i = aK i) (h2 : ∀ i, i < N → bV i = aV i) : vk_S N len byt bK bV A U H := by
  refine ⟨fun i hi => ?_, fun i j hi hj e => h.2 i j hi hj (by rw [h1 i hi, h1 j hj] at e; exact e)⟩
  rw [h1 i hi, h2 i hi]
  exact h.1 i hi
set_option maxRecDepth 100000 in
theorem lx_strs : ∀ i : Nat, i < 3 → Cond.stringRef (ab_str i).1 (ab_str i).2.1 (ab_str i).2.2 ∈ lw_tbl
  | 0, _ => by decide +kernel
  | 1, _ => by decide +kernel
  | 2, _ => by decide +kernel
  | i + 3, h => by omega
theorem lx_start {p : Program} {e : Env} {s : State} {m : MethodId} {below : List Frame} {meth : Method} {c : Code} (l : Launch) {b L : Nat} {xs : Nat → Int32} (C0 : lw_At p s m meth c b L xs) (hrun : lx_true ((List.range L).map xs)) : W p l e room_1 s m #[Value.ref b] below meth c s.heap [] 0 0 (lw_Z below #[Value.ref b] s) (entryFrame m ([Value.ref b] : List Value).toArray tb_mL.2.2.1) := by
  obtain ⟨hx, hb, hr, hml, hown, hts, hX, hbl, hlocks, hgv⟩ := C0
  obtain ⟨w, n, hrun⟩ := hrun
  obtain ⟨f1, f2, f3, f4⟩ := lx_flat hgv
  obtain ⟨dC, dI, hcl⟩ := lx_classes hts
  obtain ⟨cT, hty⟩ := lx_arrays hts
  have hA0 : ∀ a : Nat, a < s.heap.size → ¬ (fun q : Nat => s.heap.size ≤ q) a := fun a ha => Nat.not_le.mpr ha
  obtain ⟨t, ht, hT⟩ := va_Tof (tm := .static "ScrewLeft" "ABOVE" "[I") (ty := .int) (N := 7) (f := fun j => .int (lx_above.getD j 0)) (A := fun q : Nat => s.heap.size ≤ q) (by decide) f1 (va_eqt f2) (fun j hj => va_eqt (f3 j hj)) hA0
  obtain ⟨f5, fs, fv, hSt, hfe⟩ := lx_flatS (A := fun q : Nat => s.heap.size ≤ q) hgv hA0
  have hfs : ∀ i : Nat, i < 3 → vk_R (ab_str i).1 (ab_str i).2.1 (ab_str i).2.2 (fs i) s := fun i hi => vk_R.of (hts _ (lx_strs i hi)) (hfe i hi)
  have hZ2 : va_Z "java/lang/String" "COMPACT_STRINGS" "Z" (.int 1) (fun q : Nat => s.heap.size ≤ q) s s.heap := va_Zof (hts (.laysStatic "java/lang/String" "COMPACT_STRINGS" "Z") (by decide +kernel)) (hts (.initialized "java/lang/String") (by decide +kernel)) (va_eqt f5) hA0
  have hZ : va_Z "ScrewLeft" "ABOVE" "[I" (.ref t) (fun q : Nat => s.heap.size ≤ q) s s.heap := va_Zof (hts (.laysStatic "ScrewLeft" "ABOVE" "[I") (by decide +kernel)) (hts (.initialized "ScrewLeft") (by decide +kernel)) ht hA0
  obtain ⟨sd, sd0, sd1, sd2, sd3⟩ : ∃ sd : Nat → Nat, sd ab_B = t ∧ sd (ab_B + 1) = b ∧ (∀ i, i < 3 → sd (ab_B + 100 + i) = fs i) ∧ ∀ i, i < 3 → sd (ab_B + 200 + i) = fv i := by
    refine ⟨fun k => if k = ab_B then t else if k = ab_B + 1 then b else if k < ab_B + 200 then fs (k - (ab_B + 100)) else fv (k - (ab_B + 200)), ?_, ?_, fun i hi => ?_, fun i hi => ?_⟩
    · simp
    · simp
    · show (if ab_B + 100 + i = ab_B then t else if ab_B + 100 + i = ab_B + 1 then b else if ab_B + 100 + i < ab_B + 200 then fs (ab_B + 100 + i - (ab_B + 100)) else fv (ab_B + 100 + i - (ab_B + 200))) = fs i
      rw [if_neg (by omega), if_neg (by omega), if_pos (by omega), show ab_B + 100 + i - (ab_B + 100) = i by omega]
    · show (if ab_B + 200 + i = ab_B then t else if ab_B + 200 + i = ab_B + 1 then b else if ab_B + 200 + i < ab_B + 200 then fs (ab_B + 200 + i - (ab_B + 100)) else fv (ab_B + 200 + i - (ab_B + 200))) = fv i
      rw [if_neg (by omega), if_neg (by omega), if_neg (by omega), show ab_B + 200 + i - (ab_B + 200) = i by omega]
  have hS : ab_Sx sd [lx_above, (List.range L).map xs] (fun q : Nat => s.heap.size ≤ q) s s.heap := by
    refine ⟨by rw [sd0]; exact hZ, fun j ys hj => ?_, fun i hi => by rw [sd2 i hi]; exact hfs i hi, lx_vkc hSt sd2 sd3, hZ2⟩
    match j, hj with
    | 0, hj =>
      cases hj
      rw [Nat.add_zero, sd0]
      exact hT
    | 1, hj =>
      cases hj
      rw [sd1, lx_range]
      obtain ⟨scr, h1, h2, h3, h4, h5⟩ := hX
      exact ⟨scr, h1, h2, h3, Nat.le_of_eq h4.symm, by rw [h4], fun j hj => (by show scr.slots[j]? = some (.int (((List.range L).map xs).getD j 0)); rw [lx_at xs hj]; exact h5 j hj), hA0 b hbl⟩
    | j + 2, hj => cases hj
  have hC : ab_Cx tb lw_tw p s m #[Value.ref b] meth c tb_mL (dC, dI) cT (fun q : Nat => s.heap.size ≤ q) sd [lx_above, (List.range L).map xs] := by
    refine ⟨hx, hb, hml, hown, fun h => absurd h (by decide), hr, hlocks, fun x hx => hts x (by rw [← lw_tw_eq]; exact (List.mem_filter.mp hx).1), fun x hx => va_Nw.of (ab_nw_tabs (List.mem_filter.mp hx).2) (hts x (by rw [← lw_tw_eq]; exact (List.mem_filter.mp hx).1)), ⟨hcl, hty⟩, fun _ h => h, hS, va_AO.of (hts (.arrayOver (.object "ScrewLeft$Step")) (by decide +kernel)), ?_⟩
    exact hts (.arrayOver (.array .int)) (by decide +kernel)
  have hl := lv_entry ([.ref b]) (n := tb_mL.2.2.1) (Nat.le_of_ble_eq_true rfl)
  rw [lg_entry_eq]
  generalize (lg_sl ([.ref b]) ++ List.replicate (tb_mL.2.2.1 - (lg_sl ([.ref b])).length) Slot.unset).toArray = ls at hl ⊢
  have hl : lv_has ls tb_mL.2.2.1 (ab_l (fun k => k) sd [(0, .ref (ab_B + 1))]) := by
    have e : ab_l (fun k => k) sd [(0, .ref (ab_B + 1))] = [(0, .ref b)] := by
      show [(0, Value.ref (ab_r (fun k => k) sd (ab_B + 1)))] = _
      rw [ab_r_hi (by decide +kernel), sd1]
    rw [e]
    exact hl
  have hP0 : ab_P tb s (dC, dI) cT (fun q : Nat => s.heap.size ≤ q) (fun k => k) sd [] s.heap [] := ⟨fun k q h => (by cases h), ⟨fun i j p q h => (by cases h), fun k q h => (by cases h)⟩, va_S.rf⟩
  refine ab_run_ok (d := lx_d) (w0 := []) (ad0 := fun k => k) (w' := w) (v := some (.int 1)) tb_ok hC (fun pc x hx => ab_E.of (ab_fetch_ok tb_eL hx)) (ab_cfOK.weaken lx_sub (ab_sound tb_ok l n lx_d)) ⟨by decide +kernel, by decide +kernel, rfl, rfl⟩ ?_ n (0, [(0, .ref (ab_B + 1))], [], [], 0, 0) (fun k => k) s.heap [] ls hrun hP0 hl (ab_Ag.rf rfl) (Nat.zero_le _) (Nat.zero_le _)
  intro ad' H locs cells slots pc lk ins st ls' hag hend
  obtain ⟨hP, hret, hE, hc, hsl⟩ := hend
  have hst : ins = .ireturn ∧ st = [.int 1] := by
    cases ins with
    | ireturn =>
      simp only [ab_ret] at hret
      split at hret
      · rename_i v
        split at hret
        · cases hret; exact ⟨rfl, rfl⟩
        · cases hcc : (decide (v = 0) || decide (v = 1)) with
          | false => rw [hcc] at hret; cases hret
          | true => rw [hcc] at hret; cases hret; exact ⟨rfl, rfl⟩
        · cases hcc : decide (v = 0) with
          | false => rw [hcc] at hret; cases hret
          | true => rw [hcc] at hret; cases hret; exact ⟨rfl, rfl⟩
        · cases hret
      · cases hret
    | return_ =>
      simp only [ab_ret] at hret
      split at hret
      · split at hret
        · cases hret
        · cases hret
      · cases hret
    | areturn =>
      simp only [ab_ret] at hret
      split at hret
      · split at hret
        · cases hret
        · cases hret
        · cases hret
      · cases hret
    | _ => cases hret
  obtain ⟨rfl, rfl⟩ := hst
  refine va_forget (fun q hq => hP.2.2.2.2 q hq) (W.widen hc hsl ?_)
  exact lw_ret hx hb hr hlocks (hE.dec rfl)
theorem whole_start {p : Program} {e : Env} {s : State} {m : MethodId} {below : List Frame} {meth : Method} {c : Code} (l : Launch) (hflags : l.flags = flags0) {b L : Nat} {xs : Nat → Int32} (hL : L ≤ 3072) (C0 : lw_At p s m meth c b L xs) : W p l e room_1 s m #[Value.ref b] below meth c s.heap [] 0 0 (lw_Z below #[Value.ref b] s) (entryFrame m ([Value.ref b] : List Value).toArray 4) := lx_start l C0 (lx_all _ (by rw [lx_range]; exact hL))
end
