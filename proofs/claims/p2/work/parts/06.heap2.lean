/-! THE ABSTRACT MACHINE IS SOUND: fields, arrays, constants -/
section ABG
variable {p : Program} {l : Launch} {e : Env} {R : Room} {s : State} {m : MethodId} {args : Array Value} {below : List Frame} {meth : Method} {c : Code} {H : Heap} {locs : List Loc} {cells slots : Nat} {Q : State → Prop}
variable {pc lk : Nat} {ls : Array Slot} {ad sd : Nat → Nat} {tb : ab_TB} {ts : List (List Cond)} {M : ab_M} {D : va_G} {cT : Nat → ClassId} {A : Nat → Prop} {sp : List (List Int32)} {w w' : ab_W} {st st' : List Value}
theorem ab_all_at {α : Type} {f : α → Bool} {l : List α} {k : Nat} {x : α} (h : l.all f = true) (hk : ab_nth l k = some x) : f x = true := by
  rw [ab_nth_eq] at hk
  exact List.all_eq_true.mp h x (List.mem_of_getElem? hk)
theorem ab_isS_of {r : Nat} (h : ab_isS r = true) : r - (ab_B + 100) < 3 ∧ Nat.ble ab_B r = true ∧ ab_B + 100 ≤ r := by
  unfold ab_isS at h
  rw [Bool.and_eq_true] at h
  have h1 := Nat.le_of_ble_eq_true h.1
  have h2 := Nat.le_of_ble_eq_true h.2
  exact ⟨by omega, Nat.ble_eq.mpr (by omega), h1⟩
theorem ab_isV_of {r : Nat} (h : ab_isV r = true) : r - (ab_B + 200) < 3 ∧ Nat.ble ab_B r = true ∧ ab_B + 200 ≤ r := by
  unfold ab_isV at h
  rw [Bool.and_eq_true] at h
  have h1 := Nat.le_of_ble_eq_true h.1
  have h2 := Nat.le_of_ble_eq_true h.2
  exact ⟨by omega, Nat.ble_eq.mpr (by omega), h1⟩
/-- the bytes of a named text -/
theorem ab_sv {r : Nat} {s : State} {A : Nat → Prop} {sd : Nat → Nat} {sp : List (List Int32)} (h : ab_isV r = true) (hS : ab_Sx sd sp A s s.heap) : va_T .byte (sd r) (ab_sb (r - (ab_B + 200))).length (fun j => .int ((ab_sb (r - (ab_B + 200))).getD j 0)) A s s.heap := by
  obtain ⟨hi, -, hr⟩ := ab_isV_of h
  have hq := (hS.2.2.2.1.1 (r - (ab_B + 200)) hi).2.2.2
  dsimp only at hq
  rw [show ab_B + 200 + (r - (ab_B + 200)) = r by omega, ab_len3_at _ hi, ab_byt3_at hi] at hq
  exact hq
/-- what a good field's row gives -/
theorem ab_fl_of (hV : ab_V tb ts) {k : Nat} {f : ab_F} (hf : ab_nth tb.1 k = some f) : ∃ q : vw_C, tb.2.2.2.2.2.1[f.2.2.1]? = some q ∧ ab_clOK ts.flatten q ∧ f.2.2.2.1 < q.2.2 ∧ ((f.2.2.2.2.1 = 1 ∧ Cond.fieldLinkNest f.1 f.2.1 (q.2.1 f.2.2.2.1).1 (q.2.1 f.2.2.2.1).2.1 (q.2.1 f.2.2.2.1).2.2.1 "ScrewLeft" ∈ ts.flatten) ∨ (Nat.beq f.2.2.2.2.1 1 = false ∧ Cond.fieldLink f.1 f.2.1 (q.2.1 f.2.2.2.1).1 (q.2.1 f.2.2.2.1).2.1 (q.2.1 f.2.2.2.1).2.2.1 ∈ ts.flatten)) ∧ ab_tcOK f.2.2.2.2.2.1 (parseFieldDescriptor (q.2.1 f.2.2.2.1).2.2.1) = true := by
  have h := ab_all_at hV.2.1 hf
  unfold ab_flOK at h
  split at h
  · cases h
  · rename_i q hq
    rw [Bool.and_eq_true, Bool.and_eq_true] at h
    rw [ab_nth_eq] at hq
    refine ⟨q, hq, hV.1 q (List.mem_of_getElem? hq), Nat.le_of_ble_eq_true h.1.1, ?_, h.2⟩
    have h2 := h.1.2
    cases hb : Nat.beq f.2.2.2.2.1 1 with
    | true => rw [hb] at h2; exact Or.inl ⟨Nat.eq_of_beq_eq_true hb, ab_has_mem h2⟩
    | false => rw [hb] at h2; exact Or.inr ⟨rfl, ab_has_mem h2⟩
theorem ab_getfield_ok (hV : ab_V tb ts) (hC : ab_Cx tb ts p s m args meth c M D cT A sd sp) {i : Nat} (hE : ab_E tb ts M pc (.getfield i) lk) (hP : ab_P tb s D cT A ad sd w H locs) (h : ab_heap tb sp (.getfield i) lk st w = some (st', w'))
    (k : w' = w → W p l e R s m args below meth c H locs cells slots Q (F0 m (pc + 3) ls (st'.map (ab_v ad sd)))) : W p l e R s m args below meth c H locs cells slots Q (F0 m pc ls (st.map (ab_v ad sd))) := by
  obtain ⟨hx, hb, -, hown, -, -, -, hG, hN, hK, -, hS, -⟩ := hC
  have hd := hE.dec rfl
  have hl := hE.2
  simp only [ab_heap] at h
  split at h
  · rename_i r rest
    split at h
    · rename_i f hf
      split at h
      · rename_i o ho
        cases hci : Nat.beq o.1 f.2.2.1 with
        | false => rw [hci] at h; cases h
        | true =>
          rw [hci] at h
          simp only [cond_true] at h
          split at h
          · rename_i v hv
            cases h
            obtain ⟨hw, hB⟩ := ab_cell_of ho
            obtain ⟨q, hq, hcl, hk, hlink, -⟩ := ab_fl_of hV hf
            have hci := Nat.eq_of_beq_eq_true hci
            simp only [ab_lk, hf, Bool.and_eq_true] at hl
            have e1 : f.1 = M.1.cls := of_decide_eq_true hl.1
            have e2 : f.2.1 = i := Nat.eq_of_beq_eq_true hl.2
            have hP0 := ab_w_get (ad := ad) (sd := sd) (cT := cT) hw
            rw [ab_nth_eq] at hv
            have hv' : (o.2.map (ab_v ad sd))[f.2.2.2.1]? = some (ab_v ad sd v) := by rw [List.getElem?_map, hv]; rfl
            show W p l e R s m args below meth c H locs cells slots Q (F0 m pc ls (.ref (ab_r ad sd r) :: rest.map (ab_v ad sd)))
            rw [ab_r_lo hB]
            rw [e1, e2] at hlink
            rcases hlink with ⟨-, hm⟩ | ⟨-, hm⟩
            · exact va_getN (ref := (q.2.1 f.2.2.2.1).1) (T := q.2.1) (C := q.1) (N := q.2.2) (ci := o.1) (host := "ScrewLeft") hx hb hG (ab_uws hcl) hown hK hP.1 r hP0 (by rw [hci]; exact hq) f.2.2.2.1 hk (va_Nw.use rfl (ab_nest_of hN hm rfl)) (fun _ z => z) hv' hd (k rfl)
            · exact va_get (ref := (q.2.1 f.2.2.2.1).1) (T := q.2.1) (C := q.1) (N := q.2.2) (ci := o.1) hx hb hG (ab_uws hcl) hown hK hP.1 r hP0 (by rw [hci]; exact hq) f.2.2.2.1 hk (ab_good hG hm rfl) (fun _ z => z) hv' hd (k rfl)
          · cases h
      · cases h
    · rename_i hf
      cases hs : ab_isS r with
      | false => rw [hs] at h; cases h
      | true =>
        rw [hs] at h
        cases h
        simp only [ab_lk, hf, Bool.and_eq_true] at hl
        have e1 : M.1.cls = "java/lang/String" := of_decide_eq_true hl.1
        have hli := ab_has_mem hl.2
        rw [e1] at hown
        obtain ⟨hi, hB, he⟩ := ab_isS_of hs
        have hq := hS.2.2.2.1.1 (r - (ab_B + 100)) hi
        dsimp only at hq
        rw [show ab_B + 100 + (r - (ab_B + 100)) = r by omega] at hq
        have kk := k rfl
        show W p l e R s m args below meth c H locs cells slots Q (F0 m pc ls (.ref (ab_r ad sd r) :: rest.map (ab_v ad sd)))
        rw [ab_r_hi hB]
        cases hb2 : Nat.beq (lk % 2) 0 with
        | true =>
          rw [hb2] at hli kk
          exact vk_getf (ref := "java/lang/String") hx hb hq.2.1 hP.2.2 hown (ab_good hG hli rfl) (fun _ z => z) hd kk
        | false =>
          rw [hb2] at hli kk
          have er : ab_v ad sd (.ref (r + 100)) = .ref (sd (ab_B + 200 + (r - (ab_B + 100)))) := by
            show Value.ref (ab_r ad sd (r + 100)) = _
            rw [ab_r_hi (Nat.ble_eq.mpr (by omega)), show ab_B + 200 + (r - (ab_B + 100)) = r + 100 by omega]
          rw [cond_false, List.map_cons, er] at kk
          exact vk_getf (ref := "java/lang/String") hx hb hq.2.2.1 hP.2.2 hown (ab_good hG hli rfl) (fun _ z => z) hd kk
  · cases h
theorem ab_putfield_ok (hV : ab_V tb ts) (hC : ab_Cx tb ts p s m args meth c M D cT A sd sp) {i : Nat} (hE : ab_E tb ts M pc (.putfield i) lk) (hP : ab_P tb s D cT A ad sd w H locs) (h : ab_heap tb sp (.putfield i) lk st w = some (st', w'))
    (k : ∀ (H' : Heap) (locs' : List Loc), ab_P tb s D cT A ad sd w' H' locs' → W p l e R s m args below meth c H' locs' cells slots Q (F0 m (pc + 3) ls (st'.map (ab_v ad sd)))) : W p l e R s m args below meth c H locs cells slots Q (F0 m pc ls (st.map (ab_v ad sd))) := by
  obtain ⟨hx, hb, -, hown, hname, -, -, hG, hN, hK, -⟩ := hC
  have hd := hE.dec rfl
  have hl := hE.2
  simp only [ab_heap] at h
  split at h
  · rename_i v r rest
    split at h
    · rename_i f hf
      split at h
      · rename_i o ho
        cases hci : Nat.beq o.1 f.2.2.1 with
        | false => rw [hci] at h; cases h
        | true =>
          cases hft : ab_fit f.2.2.2.2.2.1 v with
          | false => rw [hci, hft] at h; cases h
          | true =>
            rw [hci, hft] at h
            simp only [Bool.and_self, cond_true] at h
            split at h
            · rename_i v0 hv
              cases h
              obtain ⟨hw, hB⟩ := ab_cell_of ho
              obtain ⟨q, hq, hcl, hk, hlink, htc⟩ := ab_fl_of hV hf
              have hci := Nat.eq_of_beq_eq_true hci
              have hq' : ab_nth tb.2.2.2.2.2.1 f.2.2.1 = some q := by rw [ab_nth_eq]; exact hq
              simp only [ab_lk, hf, hq', Bool.and_eq_true, Bool.or_eq_true, Bool.not_eq_true'] at hl
              have e1 : f.1 = M.1.cls := of_decide_eq_true hl.1.1
              have e2 : f.2.1 = i := Nat.eq_of_beq_eq_true hl.1.2
              have hP0 := ab_w_get (ad := ad) (sd := sd) (cT := cT) hw
              rw [ab_nth_eq] at hv
              have hlt : f.2.2.2.1 < (o.2.map (ab_v ad sd)).length := by rw [List.length_map]; exact (List.getElem?_eq_some_iff.mp hv).1
              have hty := ab_ty_ok hcl f.2.2.2.1 hk
              rw [hty] at htc
              obtain ⟨hn, hfit⟩ := ab_tc_fit (ad := ad) (sd := sd) htc hft
              have hset : ab_w ad sd cT (w.set r (.inl (o.1, o.2.set f.2.2.2.1 v))) = (ab_w ad sd cT w).set r (ad r, .inr (o.1, (o.2.map (ab_v ad sd)).set f.2.2.2.1 (ab_v ad sd v))) := by
                rw [ab_w_set]
                simp [ab_e, List.map_set]
              show W p l e R s m args below meth c H locs cells slots Q (F0 m pc ls (ab_v ad sd v :: .ref (ab_r ad sd r) :: List.map (ab_v ad sd) _))
              rw [ab_r_lo hB]
              have kk : ∀ (H1 : Heap) (locs1 : List Loc), va_P D tb.2.2.2.2.2.1 ((ab_w ad sd cT w).set r (ad r, .inr (o.1, (o.2.map (ab_v ad sd)).set f.2.2.2.1 (ab_v ad sd v)))) H1 → va_D A ((ab_w ad sd cT w).set r (ad r, .inr (o.1, (o.2.map (ab_v ad sd)).set f.2.2.2.1 (ab_v ad sd v)))) → va_S A s.heap H1 locs1 → W p l e R s m args below meth c H1 locs1 cells slots Q (F0 m (pc + 3) ls (st'.map (ab_v ad sd))) :=
                fun H1 locs1 a1 a2 a3 => k H1 locs1 ⟨by rw [hset]; exact a1, by rw [hset]; exact a2, a3⟩
              by_cases hfin : (q.2.1 f.2.2.2.1).2.2.2 = false
              · rw [e1, e2] at hlink
                rcases hlink with ⟨-, hm⟩ | ⟨-, hm⟩
                · exact va_putN (ref := (q.2.1 f.2.2.2.1).1) (T := q.2.1) (C := q.1) (N := q.2.2) (ci := o.1) (host := "ScrewLeft") hx hb hG (ab_uws hcl) (ab_ty q) (ab_ty_ok hcl) hcl.2.1 hown hK hP.1 hP.2.1 hP.2.2 r hP0 (by rw [hci]; exact hq) f.2.2.2.1 hk (va_Nw.use rfl (ab_nest_of hN hm rfl)) (fun _ z => z) hfin hty hn hfit hlt hd kk
                · exact va_put (ref := (q.2.1 f.2.2.2.1).1) (T := q.2.1) (C := q.1) (N := q.2.2) (ci := o.1) hx hb hG (ab_uws hcl) (ab_ty q) (ab_ty_ok hcl) hcl.2.1 hown hK hP.1 hP.2.1 hP.2.2 r hP0 (by rw [hci]; exact hq) f.2.2.2.1 hk (ab_good hG hm rfl) (fun _ z => z) hfin hty hn hfit hlt hd kk
              · have h3 := hl.2.resolve_left hfin
                have hin : M.1.name = "<init>" := of_decide_eq_true h3.1.2
                have h0 := Nat.eq_of_beq_eq_true h3.1.1
                have hde : (q.2.1 f.2.2.2.1).1 = f.1 := of_decide_eq_true h3.2
                rcases hlink with ⟨h1, hm⟩ | ⟨-, hm⟩
                · rw [h0] at h1; cases h1
                · rw [e2] at hm
                  exact va_putF (own := f.1) (ref := (q.2.1 f.2.2.2.1).1) (T := q.2.1) (C := q.1) (N := q.2.2) (ci := o.1) hx hb hG (ab_uws hcl) (ab_ty q) (ab_ty_ok hcl) hcl.2.1 (by rw [e1]; exact hown) hK hP.1 hP.2.1 hP.2.2 r hP0 (by rw [hci]; exact hq) f.2.2.2.1 hk (ab_good hG hm rfl) (fun _ z => z) (by simpa using hfin) (hname hin) hde hty hn hfit hlt hd kk
            · cases h
      · cases h
    · cases h
  · cases h
theorem ab_sp_at {j : Nat} {xs : List Int32} (h : ab_nth sp j = some xs) (hS : ab_Sx sd sp A s s.heap) : va_T .int (sd (ab_B + j)) xs.length (fun i => .int (xs.getD i 0)) A s s.heap := by
  rw [ab_nth_eq] at h
  exact hS.2.1 j xs h
theorem ab_iaload_ok (hC : ab_Cx tb ts p s m args meth c M D cT A sd sp) (hE : ab_E tb ts M pc .iaload lk) (hP : ab_P tb s D cT A ad sd w H locs) (h : ab_heap tb sp .iaload lk st w = some (st', w'))
    (k : w' = w → W p l e R s m args below meth c H locs cells slots Q (F0 m (pc + 1) ls (st'.map (ab_v ad sd)))) : W p l e R s m args below meth c H locs cells slots Q (F0 m pc ls (st.map (ab_v ad sd))) := by
  obtain ⟨hx, hb, -, -, -, -, -, -, -, hK, -, hS, -⟩ := hC
  have hd := hE.dec rfl
  simp only [ab_heap] at h
  split at h
  · rename_i i r rest
    split at h
    · rename_i xs hxs
      split at h
      · rename_i v hv
        cases h
        obtain ⟨hv, hin⟩ := ab_ix_of hv
        have hg : xs.getD i.toNatClampNeg 0 = v := by rw [List.getD_eq_getElem?_getD, hv]; rfl
        show W p l e R s m args below meth c H locs cells slots Q (F0 m pc ls (.int i :: .ref (ab_r ad sd r) :: rest.map (ab_v ad sd)))
        unfold ab_arr at hxs
        cases hB : Nat.ble ab_B r with
        | true =>
          rw [hB] at hxs
          have hT := ab_sp_at hxs hS
          have he : ab_B + (r - ab_B) = r := Nat.add_sub_cancel' (Nat.le_of_ble_eq_true hB)
          rw [he] at hT
          rw [ab_r_hi hB]
          exact va_ti hx hb hT hP.2.2 hin (by rw [hg]; rfl) hd (k rfl)
        | false =>
          rw [hB] at hxs
          simp only [cond_false] at hxs
          split at hxs
          · rename_i ys hy
            rw [ab_nth_eq] at hy
            cases hxs
            rw [ab_r_lo hB]
            have h0 := ab_w_get (ad := ad) (sd := sd) (cT := cT) hy
            have kk : W p l e R s m args below meth c H locs cells slots Q (F0 m (pc + 1) ls (.int (xs.getD i.toNatClampNeg 0) :: rest.map (ab_v ad sd))) := by rw [hg]; exact k rfl
            exact va_iald (f := fun j => xs.getD j 0) hx hb hK hP.1 r 0 h0 rfl hin hd kk
          · cases hxs
      · cases h
    · cases h
  · cases h
theorem ab_baload_ok (hC : ab_Cx tb ts p s m args meth c M D cT A sd sp) (hE : ab_E tb ts M pc .baload lk) (hP : ab_P tb s D cT A ad sd w H locs) (h : ab_heap tb sp .baload lk st w = some (st', w'))
    (k : w' = w → W p l e R s m args below meth c H locs cells slots Q (F0 m (pc + 1) ls (st'.map (ab_v ad sd)))) : W p l e R s m args below meth c H locs cells slots Q (F0 m pc ls (st.map (ab_v ad sd))) := by
  obtain ⟨hx, hb, -, -, -, -, -, -, -, hK, -, hS, -⟩ := hC
  have hd := hE.dec rfl
  simp only [ab_heap] at h
  split at h
  · rename_i i r rest
    cases hs : ab_isV r with
    | false => rw [hs] at h; cases h
    | true =>
      rw [hs] at h
      simp only [cond_true] at h
      split at h
      · rename_i v hv
        cases h
        obtain ⟨hv, hin⟩ := ab_ix_of hv
        have hg : (ab_sb (r - (ab_B + 200))).getD i.toNatClampNeg 0 = v := by rw [List.getD_eq_getElem?_getD, hv]; rfl
        show W p l e R s m args below meth c H locs cells slots Q (F0 m pc ls (.int i :: .ref (ab_r ad sd r) :: rest.map (ab_v ad sd)))
        rw [ab_r_hi (ab_isV_of hs).2.1]
        exact va_tb hx hb (ab_sv hs hS) hP.2.2 hin (by rw [hg]; rfl) hd (k rfl)
      · cases h
  · cases h
theorem ab_iastore_ok (hC : ab_Cx tb ts p s m args meth c M D cT A sd sp) (hE : ab_E tb ts M pc .iastore lk) (hP : ab_P tb s D cT A ad sd w H locs) (h : ab_heap tb sp .iastore lk st w = some (st', w'))
    (k : ∀ (H' : Heap) (locs' : List Loc), ab_P tb s D cT A ad sd w' H' locs' → W p l e R s m args below meth c H' locs' cells slots Q (F0 m (pc + 1) ls (st'.map (ab_v ad sd)))) : W p l e R s m args below meth c H locs cells slots Q (F0 m pc ls (st.map (ab_v ad sd))) := by
  obtain ⟨hx, hb, -, -, -, -, -, -, -, hK, -⟩ := hC
  have hd := hE.dec rfl
  simp only [ab_heap] at h
  split at h
  · rename_i x i r rest
    split at h
    · rename_i xs hxs
      split at h
      · rename_i v hv
        cases h
        obtain ⟨hw, hB⟩ := ab_cell_of hxs
        obtain ⟨hv, hin⟩ := ab_ix_of hv
        have h0 := ab_w_get (ad := ad) (sd := sd) (cT := cT) hw
        have hlt := (List.getElem?_eq_some_iff.mp hv).1
        have hset : ab_w ad sd cT (w.set r (.inr (.inl (xs.set i.toNatClampNeg x)))) = (ab_w ad sd cT w).set r (ad r, .inl (cT 0, xs.length, .inl (upd (fun j => xs.getD j 0) i.toNatClampNeg x))) := by
          rw [ab_w_set, ab_upd hlt]
          simp [ab_e]
        show W p l e R s m args below meth c H locs cells slots Q (F0 m pc ls (.int x :: .int i :: .ref (ab_r ad sd r) :: List.map (ab_v ad sd) _))
        rw [ab_r_lo hB]
        exact va_iast hx hb hK hP.1 hP.2.1 hP.2.2 r 0 h0 rfl hin hd (fun H1 locs1 a1 a2 a3 => k H1 locs1 ⟨by rw [hset]; exact a1, by rw [hset]; exact a2, a3⟩)
      · cases h
    · cases h
  · cases h
theorem ab_aaload_ok (hC : ab_Cx tb ts p s m args meth c M D cT A sd sp) (hE : ab_E tb ts M pc .aaload lk) (hP : ab_P tb s D cT A ad sd w H locs) (h : ab_heap tb sp .aaload lk st w = some (st', w'))
    (k : w' = w → W p l e R s m args below meth c H locs cells slots Q (F0 m (pc + 1) ls (st'.map (ab_v ad sd)))) : W p l e R s m args below meth c H locs cells slots Q (F0 m pc ls (st.map (ab_v ad sd))) := by
  obtain ⟨hx, hb, -, -, -, -, -, -, -, hK, -⟩ := hC
  have hd := hE.dec rfl
  simp only [ab_heap] at h
  split at h
  · rename_i i r rest
    split at h
    · rename_i t hxs
      cases h2 : Nat.blt t.1 2 with
      | false => rw [h2] at h; cases h
      | true =>
        rw [h2] at h
        simp only [cond_true] at h
        split at h
        · rename_i v hv
          cases h
          obtain ⟨hw, hB⟩ := ab_cell_of hxs
          obtain ⟨hv, hin⟩ := ab_ix_of hv
          have h0 := ab_w_get (ad := ad) (sd := sd) (cT := cT) hw
          have hg : t.2.getD i.toNatClampNeg none = v := by rw [List.getD_eq_getElem?_getD, hv]; rfl
          have hlt : i.toNatClampNeg < t.2.length := (List.getElem?_eq_some_iff.mp hv).1
          show W p l e R s m args below meth c H locs cells slots Q (F0 m pc ls (.int i :: .ref (ab_r ad sd r) :: rest.map (ab_v ad sd)))
          rw [ab_r_lo hB]
          have kk := k rfl
          rw [List.map_cons, ← ab_rf_v, ← hg] at kk
          have htys : ∃ ty : FieldType, (ab_tys cT)[t.1 + 1]? = some (cT (t.1 + 1), ty) ∧ ty.isReference = true := by
            have h3 : t.1 < 2 := Nat.le_of_ble_eq_true h2
            rcases (show t.1 = 0 ∨ t.1 = 1 by omega) with q | q
            · rw [q]; exact ⟨_, rfl, rfl⟩
            · rw [q]; exact ⟨_, rfl, rfl⟩
          obtain ⟨ty, ht, hr⟩ := htys
          exact W.aald (v := va_rf ((t.2.getD i.toNatClampNeg none).map (ab_r ad sd))) (ty := ty) hx hb (hP.1 r _ h0) ((hK.2 (t.1 + 1) _ ht).1 t.2.length (fun j => va_rf ((t.2.getD j none).map (ab_r ad sd)))) hr (fun q => by cases q) (by show ¬ (i < 0 ∨ (arrV _ _ _).slots.size ≤ _); rw [arrV_size]; exact hin) (by show (arrV _ _ _).slots[_]? = _; rw [arrV_read _ _ hlt]) rfl rfl hd kk
        · cases h
    · cases h
  · cases h
end ABG
