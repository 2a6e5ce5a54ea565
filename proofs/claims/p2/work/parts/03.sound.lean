/-! THE ABSTRACT MACHINE IS SOUND: what stands alone on stack, locals and program counter -/
def ab_r (ad sd : Nat → Nat) (k : Nat) : Nat := cond (Nat.ble ab_B k) (sd k) (ad k)
def ab_v (ad sd : Nat → Nat) (v : Value) : Value := match v with
  | .ref k => .ref (ab_r ad sd k)
  | v => v
def ab_l (ad sd : Nat → Nat) (L : ab_Lo) : List (Nat × Value) := L.map (fun q => (q.1, ab_v ad sd q.2))
theorem ab_v_cat (ad sd : Nat → Nat) (v : Value) : (ab_v ad sd v).category = v.category := by cases v <;> rfl
theorem ab_one_cat {v : Value} (h : ab_one v = true) (ad sd : Nat → Nat) : (ab_v ad sd v).category = 1 := by cases v <;> first | rfl | (simp [ab_one] at h)
theorem ab_i1_of {f : Int32 → Value} {st st' : List Value} (h : ab_i1 f st = some st') : ∃ x r, st = .int x :: r ∧ st' = f x :: r := by
  unfold ab_i1 at h
  split at h
  · cases h; exact ⟨_, _, rfl, rfl⟩
  · cases h
theorem ab_i2_of {f : Int32 → Int32 → Value} {st st' : List Value} (h : ab_i2 f st = some st') : ∃ x y r, st = .int y :: .int x :: r ∧ st' = f x y :: r := by
  unfold ab_i2 at h
  split at h
  · cases h; exact ⟨_, _, _, rfl, rfl⟩
  · cases h
theorem ab_d2_of {f : Int32 → Int32 → Value} {st st' : List Value} (h : ab_d2 f st = some st') : ∃ x y r, st = .int y :: .int x :: r ∧ ¬ y = 0 ∧ st' = f x y :: r := by
  unfold ab_d2 at h
  split at h
  · rename_i y x r
    by_cases hy : y = 0
    · simp [hy] at h
    · simp [hy] at h
      exact ⟨_, _, _, rfl, hy, h.symm⟩
  · cases h
theorem ab_l2_of {f : Int64 → Int64 → Value} {st st' : List Value} (h : ab_l2 f st = some st') : ∃ x y r, st = .long y :: .long x :: r ∧ st' = f x y :: r := by
  unfold ab_l2 at h
  split at h
  · cases h; exact ⟨_, _, _, rfl, rfl⟩
  · cases h
theorem ab_ls_of {f : Int64 → Int32 → Value} {st st' : List Value} (h : ab_ls f st = some st') : ∃ x y r, st = .int y :: .long x :: r ∧ st' = f x y :: r := by
  unfold ab_ls at h
  split at h
  · cases h; exact ⟨_, _, _, rfl, rfl⟩
  · cases h
theorem ab_l1_of {f : Int64 → Value} {st st' : List Value} (h : ab_l1 f st = some st') : ∃ x r, st = .long x :: r ∧ st' = f x :: r := by
  unfold ab_l1 at h
  split at h
  · cases h; exact ⟨_, _, rfl, rfl⟩
  · cases h
section ABS
variable {p : Program} {l : Launch} {e : Env} {R : Room} {s : State} {m : MethodId} {args : Array Value} {below : List Frame} {meth : Method} {c : Code} {H : Heap} {locs : List Loc} {cells slots : Nat} {Q : State → Prop}
variable {cc : ByteArray} {pc : Nat} {ls : Array Slot} {ad sd : Nat → Nat}
theorem ab_pure_ok {ins : Instr} {st st' : List Value} (h : ab_pure ins st = some st') (hx : p.tables.exec = Jvm.exec) (hb : c.code = cc) (hd : decode cc pc = .ok (ins, ab_len ins))
    (k : W p l e R s m args below meth c H locs cells slots Q (F0 m (pc + ab_len ins) ls (st'.map (ab_v ad sd)))) : W p l e R s m args below meth c H locs cells slots Q (F0 m pc ls (st.map (ab_v ad sd))) := by
  cases ins with
  | iconst n => cases h; exact lv_iconst hx hb hd rfl k
  | bipush n => cases h; exact lv_bipush hx hb hd rfl k
  | sipush n => cases h; exact lv_sipush hx hb hd rfl k
  | dup =>
    simp only [ab_pure] at h
    split at h
    · rename_i v r
      cases ho : ab_one v with
      | false => rw [ho] at h; cases h
      | true => rw [ho] at h; cases h; exact lv_dup hx hb hd (ab_one_cat ho ad sd) k
    · cases h
  | pop =>
    simp only [ab_pure] at h
    split at h
    · rename_i v r
      cases ho : ab_one v with
      | false => rw [ho] at h; cases h
      | true => rw [ho] at h; cases h; exact lv_pop hx hb hd (ab_one_cat ho ad sd) k
    · cases h
  | dup2 =>
    simp only [ab_pure] at h
    split at h
    · rename_i v u r
      cases ho : ab_one v with
      | false => rw [ho] at h; cases h
      | true =>
        cases hu : ab_one u with
        | false => rw [ho, hu] at h; cases h
        | true => rw [ho, hu] at h; cases h; exact lv_dup2_11 hx hb hd (ab_one_cat ho ad sd) (ab_one_cat hu ad sd) k
    · cases h
  | iadd => obtain ⟨x, y, r, rfl, rfl⟩ := ab_i2_of h; exact lv_iadd hx hb hd k
  | isub => obtain ⟨x, y, r, rfl, rfl⟩ := ab_i2_of h; exact lv_isub hx hb hd k
  | imul => obtain ⟨x, y, r, rfl, rfl⟩ := ab_i2_of h; exact lv_imul hx hb hd k
  | idiv => obtain ⟨x, y, r, rfl, h0, rfl⟩ := ab_d2_of h; exact lv_idiv hx hb hd h0 k
  | irem => obtain ⟨x, y, r, rfl, h0, rfl⟩ := ab_d2_of h; exact lv_irem hx hb hd h0 k
  | ineg => obtain ⟨x, r, rfl, rfl⟩ := ab_i1_of h; exact lv_ineg hx hb hd k
  | iand => obtain ⟨x, y, r, rfl, rfl⟩ := ab_i2_of h; exact lv_iand hx hb hd k
  | ior => obtain ⟨x, y, r, rfl, rfl⟩ := ab_i2_of h; exact lv_ior hx hb hd k
  | ixor => obtain ⟨x, y, r, rfl, rfl⟩ := ab_i2_of h; exact lv_ixor hx hb hd k
  | ishl => obtain ⟨x, y, r, rfl, rfl⟩ := ab_i2_of h; exact lv_ishl hx hb hd k
  | ishr => obtain ⟨x, y, r, rfl, rfl⟩ := ab_i2_of h; exact lv_ishr hx hb hd k
  | iushr => obtain ⟨x, y, r, rfl, rfl⟩ := ab_i2_of h; exact lv_iushr hx hb hd rfl k
  | i2l => obtain ⟨x, r, rfl, rfl⟩ := ab_i1_of h; exact lv_i2l hx hb hd rfl k
  | l2i => obtain ⟨x, r, rfl, rfl⟩ := ab_l1_of h; exact lv_l2i hx hb hd rfl k
  | i2b => obtain ⟨x, r, rfl, rfl⟩ := ab_i1_of h; exact lv_i2b hx hb hd rfl k
  | i2s => obtain ⟨x, r, rfl, rfl⟩ := ab_i1_of h; exact lv_i2s hx hb hd rfl k
  | i2c => obtain ⟨x, r, rfl, rfl⟩ := ab_i1_of h; exact lv_i2c hx hb hd rfl k
  | land => obtain ⟨x, y, r, rfl, rfl⟩ := ab_l2_of h; exact lv_land hx hb hd k
  | lor => obtain ⟨x, y, r, rfl, rfl⟩ := ab_l2_of h; exact lv_lor hx hb hd k
  | lshl => obtain ⟨x, y, r, rfl, rfl⟩ := ab_ls_of h; exact lv_lshl hx hb hd rfl k
  | lshr => obtain ⟨x, y, r, rfl, rfl⟩ := ab_ls_of h; exact lv_lshr hx hb hd rfl k
  | lushr => obtain ⟨x, y, r, rfl, rfl⟩ := ab_ls_of h; exact lv_lushr hx hb hd rfl k
  | _ => cases h
theorem ab_get_mem {L : ab_Lo} {i : Nat} {v : Value} (h : ab_get L i = some v) : (i, v) ∈ L := by
  induction L with
  | nil => cases h
  | cons q L ih =>
    unfold ab_get at h
    cases hb : Nat.beq q.1 i with
    | true =>
      rw [hb] at h
      cases h
      have : q.1 = i := Nat.eq_of_beq_eq_true hb
      subst this
      exact List.mem_cons_self
    | false => rw [hb] at h; exact List.mem_cons_of_mem _ (ih h)
theorem ab_get_has {L : ab_Lo} {i n : Nat} {v : Value} (h : ab_get L i = some v) (hl : lv_has ls n (ab_l ad sd L)) : ls[i]? = some (.val (ab_v ad sd v)) :=
  hl.2.2 (i, ab_v ad sd v) (List.mem_map.mpr ⟨(i, v), ab_get_mem h, rfl⟩)
theorem ab_up_l (L : ab_Lo) (i : Nat) (v : Value) : (i, ab_v ad sd v) :: (ab_l ad sd L).filter (fun q => !(q.1 == i) && !(q.1 + 1 == i && q.2.category == 2)) = ab_l ad sd (ab_up L i v) := by
  unfold ab_l ab_up
  rw [List.map_cons, List.filter_map]
  congr 2
  apply List.filter_congr
  intro q _
  simp [Function.comp, ab_v_cat]
theorem ab_ldi_ok {L L' : ab_Lo} {i n ln : Nat} {st st' : List Value} (h : ab_ldi L i st = some (L', st')) (hl : lv_has ls n (ab_l ad sd L)) (hr : ∀ {x : Int32}, ls[i]? = some (.val (.int x)) → W p l e R s m args below meth c H locs cells slots Q (F0 m (pc + ln) ls (.int x :: st.map (ab_v ad sd))) → W p l e R s m args below meth c H locs cells slots Q (F0 m pc ls (st.map (ab_v ad sd))))
    (k : ∀ ls', lv_has ls' n (ab_l ad sd L') → W p l e R s m args below meth c H locs cells slots Q (F0 m (pc + ln) ls' (st'.map (ab_v ad sd)))) : W p l e R s m args below meth c H locs cells slots Q (F0 m pc ls (st.map (ab_v ad sd))) := by
  unfold ab_ldi at h
  split at h
  · rename_i x hg
    cases h
    exact hr (ab_get_has hg hl) (k ls hl)
  · cases h
theorem ab_lda_ok {L L' : ab_Lo} {i n ln : Nat} {st st' : List Value} (h : ab_lda L i st = some (L', st')) (hl : lv_has ls n (ab_l ad sd L)) (hr : ∀ {x : Nat}, ls[i]? = some (.val (.ref x)) → W p l e R s m args below meth c H locs cells slots Q (F0 m (pc + ln) ls (.ref x :: st.map (ab_v ad sd))) → W p l e R s m args below meth c H locs cells slots Q (F0 m pc ls (st.map (ab_v ad sd))))
    (k : ∀ ls', lv_has ls' n (ab_l ad sd L') → W p l e R s m args below meth c H locs cells slots Q (F0 m (pc + ln) ls' (st'.map (ab_v ad sd)))) : W p l e R s m args below meth c H locs cells slots Q (F0 m pc ls (st.map (ab_v ad sd))) := by
  unfold ab_lda at h
  split at h
  · rename_i x hg
    cases h
    exact hr (ab_get_has hg hl) (k ls hl)
  · cases h
theorem ab_ldl_ok {L L' : ab_Lo} {i n ln : Nat} {st st' : List Value} (h : ab_ldl L i st = some (L', st')) (hl : lv_has ls n (ab_l ad sd L)) (hr : ∀ {x : Int64}, ls[i]? = some (.val (.long x)) → W p l e R s m args below meth c H locs cells slots Q (F0 m (pc + ln) ls (.long x :: st.map (ab_v ad sd))) → W p l e R s m args below meth c H locs cells slots Q (F0 m pc ls (st.map (ab_v ad sd))))
    (k : ∀ ls', lv_has ls' n (ab_l ad sd L') → W p l e R s m args below meth c H locs cells slots Q (F0 m (pc + ln) ls' (st'.map (ab_v ad sd)))) : W p l e R s m args below meth c H locs cells slots Q (F0 m pc ls (st.map (ab_v ad sd))) := by
  unfold ab_ldl at h
  split at h
  · rename_i x hg
    cases h
    exact hr (ab_get_has hg hl) (k ls hl)
  · cases h
theorem ab_sti_of {L L' : ab_Lo} {i n : Nat} {st st' : List Value} (h : ab_sti n L i st = some (L', st')) : ∃ x, st = .int x :: st' ∧ i < n ∧ L' = ab_up L i (.int x) := by
  unfold ab_sti at h
  split at h
  · rename_i x r
    cases hb : Nat.blt i n with
    | false => rw [hb] at h; cases h
    | true => rw [hb] at h; cases h; exact ⟨x, rfl, Nat.le_of_ble_eq_true hb, rfl⟩
  · cases h
theorem ab_sta_of {L L' : ab_Lo} {i n : Nat} {st st' : List Value} (h : ab_sta n L i st = some (L', st')) : ∃ x, st = .ref x :: st' ∧ i < n ∧ L' = ab_up L i (.ref x) := by
  unfold ab_sta at h
  split at h
  · rename_i x r
    cases hb : Nat.blt i n with
    | false => rw [hb] at h; cases h
    | true => rw [hb] at h; cases h; exact ⟨x, rfl, Nat.le_of_ble_eq_true hb, rfl⟩
  · cases h
theorem ab_loc_ok {n : Nat} {ins : Instr} {L L' : ab_Lo} {st st' : List Value} (h : ab_loc n ins L st = some (L', st')) (hx : p.tables.exec = Jvm.exec) (hb : c.code = cc) (hd : decode cc pc = .ok (ins, ab_len ins)) (hl : lv_has ls n (ab_l ad sd L))
    (k : ∀ ls', lv_has ls' n (ab_l ad sd L') → W p l e R s m args below meth c H locs cells slots Q (F0 m (pc + ab_len ins) ls' (st'.map (ab_v ad sd)))) : W p l e R s m args below meth c H locs cells slots Q (F0 m pc ls (st.map (ab_v ad sd))) := by
  cases ins with
  | iload i => exact ab_ldi_ok h hl (fun hg kk => lv_iload hx hb hd hg kk) k
  | iload_n i => exact ab_ldi_ok h hl (fun hg kk => lv_iload_n hx hb hd rfl hg kk) k
  | aload i => exact ab_lda_ok h hl (fun hg kk => lv_aload hx hb hd hg kk) k
  | aload_n i => exact ab_lda_ok h hl (fun hg kk => lv_aload_n hx hb hd rfl hg kk) k
  | lload_n i => exact ab_ldl_ok h hl (fun hg kk => lv_lload_n hx hb hd rfl hg kk) k
  | istore i => obtain ⟨x, rfl, hi, rfl⟩ := ab_sti_of h; exact lv_istore hx hb hd hl hi (ab_up_l L i (.int x)) k
  | istore_n i => obtain ⟨x, rfl, hi, rfl⟩ := ab_sti_of h; exact lv_istore_n hx hb hd rfl hl hi (ab_up_l L i (.int x)) k
  | astore i => obtain ⟨x, rfl, hi, rfl⟩ := ab_sta_of h; exact lv_astore hx hb hd hl hi (ab_up_l L i (.ref x)) k
  | astore_n i => obtain ⟨x, rfl, hi, rfl⟩ := ab_sta_of h; exact lv_astore_n hx hb hd rfl hl hi (ab_up_l L i (.ref x)) k
  | iinc i q =>
    simp only [ab_loc] at h
    split at h
    · rename_i x hg
      cases hbl : Nat.blt i n with
      | false => rw [hbl] at h; cases h
      | true =>
        rw [hbl] at h
        cases h
        have hm : (i, Value.int x) ∈ ab_l ad sd L := List.mem_map.mpr ⟨(i, .int x), ab_get_mem hg, rfl⟩
        obtain ⟨k0, hk0⟩ := List.getElem?_of_mem hm
        exact lv_iinc hx hb hd hl hk0 rfl (Nat.le_of_ble_eq_true hbl) (ab_up_l L i (.int (x + Int32.ofInt q))) k
    · cases h
  | _ => cases h
end ABS
