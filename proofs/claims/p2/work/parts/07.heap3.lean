/-! THE ABSTRACT MACHINE IS SOUND: lengths, statics, constants, storing references; all of ab_heap -/
section ABJ
variable {p : Program} {l : Launch} {e : Env} {R : Room} {s : State} {m : MethodId} {args : Array Value} {below : List Frame} {meth : Method} {c : Code} {H : Heap} {locs : List Loc} {cells slots : Nat} {Q : State → Prop}
variable {pc lk : Nat} {ls : Array Slot} {ad sd : Nat → Nat} {tb : ab_TB} {ts : List (List Cond)} {M : ab_M} {D : va_G} {cT : Nat → ClassId} {A : Nat → Prop} {sp : List (List Int32)} {w w' : ab_W} {st st' : List Value}
theorem ab_tys_at {t : Nat} (h : t < 2) (cT : Nat → ClassId) : ∃ ty : FieldType, (ab_tys cT)[t + 1]? = some (cT (t + 1), ty) ∧ ty.isReference = true := by
  rcases (show t = 0 ∨ t = 1 by omega) with q | q
  · rw [q]; exact ⟨_, rfl, rfl⟩
  · rw [q]; exact ⟨_, rfl, rfl⟩
theorem ab_arraylength_ok (hC : ab_Cx tb ts p s m args meth c M D cT A sd sp) (hE : ab_E tb ts M pc .arraylength lk) (hP : ab_P tb s D cT A ad sd w H locs) (h : ab_heap tb sp .arraylength lk st w = some (st', w'))
    (k : w' = w → W p l e R s m args below meth c H locs cells slots Q (F0 m (pc + 1) ls (st'.map (ab_v ad sd)))) : W p l e R s m args below meth c H locs cells slots Q (F0 m pc ls (st.map (ab_v ad sd))) := by
  obtain ⟨hx, hb, -, -, -, -, -, -, -, hK, -, hS, -⟩ := hC
  have hd := hE.dec rfl
  simp only [ab_heap] at h
  split at h
  · rename_i r rest
    show W p l e R s m args below meth c H locs cells slots Q (F0 m pc ls (.ref (ab_r ad sd r) :: rest.map (ab_v ad sd)))
    cases hB : Nat.ble ab_B r with
    | true =>
      rw [hB] at h
      simp only [cond_true] at h
      split at h
      · rename_i xs hxs
        cases h
        have hT := ab_sp_at hxs hS
        have he : ab_B + (r - ab_B) = r := Nat.add_sub_cancel' (Nat.le_of_ble_eq_true hB)
        rw [he] at hT
        rw [ab_r_hi hB]
        exact va_tlen hx hb hT hP.2.2 rfl hd (k rfl)
      · cases hs : ab_isV r with
        | false => rw [hs] at h; cases h
        | true =>
          rw [hs] at h
          cases h
          rw [ab_r_hi hB]
          exact va_tlen hx hb (ab_sv hs hS) hP.2.2 rfl hd (k rfl)
    | false =>
      rw [hB] at h
      simp only [cond_false] at h
      rw [ab_r_lo hB]
      split at h
      · rename_i xs hxs
        cases h
        rw [ab_nth_eq] at hxs
        have h0 := ab_w_get (ad := ad) (sd := sd) (cT := cT) hxs
        exact va_alen hx hb hK hP.1 r 0 h0 rfl rfl hd (k rfl)
      · rename_i t hxs
        rw [ab_nth_eq] at hxs
        cases hlt : Nat.blt t.1 2 with
        | false => rw [hlt] at h; cases h
        | true =>
          rw [hlt] at h
          cases h
          have h0 := ab_w_get (ad := ad) (sd := sd) (cT := cT) hxs
          obtain ⟨ty, ht, -⟩ := ab_tys_at (Nat.le_of_ble_eq_true hlt) cT
          exact va_alen hx hb hK hP.1 r (t.1 + 1) h0 ht rfl hd (k rfl)
      · cases h
  · cases h
theorem ab_getstatic_ok (hC : ab_Cx tb ts p s m args meth c M D cT A sd sp) {i : Nat} (hE : ab_E tb ts M pc (.getstatic i) lk) (hP : ab_P tb s D cT A ad sd w H locs) (h : ab_heap tb sp (.getstatic i) lk st w = some (st', w'))
    (k : w' = w → W p l e R s m args below meth c H locs cells slots Q (F0 m (pc + 3) ls (st'.map (ab_v ad sd)))) : W p l e R s m args below meth c H locs cells slots Q (F0 m pc ls (st.map (ab_v ad sd))) := by
  obtain ⟨hx, hb, -, hown, -, -, -, hG, -, hK, -, hS, -⟩ := hC
  have hd := hE.dec rfl
  have hl := hE.2
  cases h
  have kk := k rfl
  simp only [ab_lk] at hl
  cases hbl : Nat.ble ab_B lk with
  | true =>
    rw [hbl, cond_true, Bool.and_eq_true] at hl
    rw [hbl, cond_true] at kk
    have e1 : M.1.cls = "java/lang/String" := of_decide_eq_true hl.1
    rw [e1] at hown
    exact va_gets (ref := "java/lang/String") hx hb hS.2.2.2.2 hP.2.2 hown (ab_good hG (ab_has_mem hl.2) rfl) (fun _ z => z) hd kk
  | false =>
  rw [hbl, cond_false, Bool.and_eq_true] at hl
  rw [hbl, cond_false] at kk
  have e1 : M.1.cls = "ScrewLeft" := of_decide_eq_true hl.1
  rw [e1] at hown
  have er : ab_v ad sd (.ref ab_B) = .ref (sd ab_B) := by show Value.ref (ab_r ad sd ab_B) = _; rw [ab_r_hi (Nat.ble_self_eq_true ab_B)]
  rw [List.map_cons, er] at kk
  exact va_gets (ref := "ScrewLeft") hx hb hS.1 hP.2.2 hown (ab_good hG (ab_has_mem hl.2) rfl) (fun _ z => z) hd kk
theorem ab_kl_of (hV : ab_V tb ts) {i : Nat} {q : ab_K} (hq : ab_nth tb.2.2.1 i = some q) : ab_klOK ts q = true := ab_all_at hV.2.2.2.1 hq
theorem ab_ldc_ok (hV : ab_V tb ts) (hC : ab_Cx tb ts p s m args meth c M D cT A sd sp) {i : Nat} (hE : ab_E tb ts M pc (.ldc i) lk) (h : ab_heap tb sp (.ldc i) lk st w = some (st', w'))
    (k : w' = w → W p l e R s m args below meth c H locs cells slots Q (F0 m (pc + 2) ls (st'.map (ab_v ad sd)))) : W p l e R s m args below meth c H locs cells slots Q (F0 m pc ls (st.map (ab_v ad sd))) := by
  obtain ⟨hx, hb, -, hown, -, -, -, hG, -, hK, -, hS, -⟩ := hC
  have hd := hE.dec rfl
  have hl := hE.2
  simp only [ab_heap] at h
  split at h
  · rename_i q hq
    cases h
    have hk := ab_kl_of hV hq
    simp only [ab_lk, hq, Bool.and_eq_true] at hl
    have e1 : q.1 = M.1.cls := of_decide_eq_true hl.1.1
    have e2 : q.2.1 = i := Nat.eq_of_beq_eq_true hl.1.2
    have kk := k rfl
    obtain ⟨o, ix, v, pl⟩ := q
    dsimp only at e1 e2 hl hk kk
    subst e1; subst e2
    cases v with
    | int v => exact lv_ldc hx hb hown (ab_good hG (ab_has_mem hk) rfl) hd kk
    | ref r =>
      simp only [ab_klOK, Bool.and_eq_true] at hk
      have h1 := Nat.le_of_ble_eq_true hk.1.1.1
      have h2 := Nat.le_of_ble_eq_true hk.1.1.2
      have h3 : (ab_str (r - (ab_B + 100))).1 = M.1.cls := of_decide_eq_true hk.1.2
      have h4 := Nat.eq_of_beq_eq_true hk.2
      have hZ := hS.2.2.1 (r - (ab_B + 100)) (by omega)
      rw [h3, h4, show ab_B + 100 + (r - (ab_B + 100)) = r by omega] at hZ
      have er : ab_v ad sd (.ref r) = .ref (sd r) := by show Value.ref (ab_r ad sd r) = _; rw [ab_r_hi (Nat.ble_eq.mpr (by omega))]
      rw [List.map_cons, er] at kk
      exact va_ldcS hx hb hown hZ hd kk
    | _ => simp at hl
  · cases h
theorem ab_ldcw_ok (hV : ab_V tb ts) (hC : ab_Cx tb ts p s m args meth c M D cT A sd sp) {i : Nat} (hE : ab_E tb ts M pc (.ldc_w i) lk) (h : ab_heap tb sp (.ldc_w i) lk st w = some (st', w'))
    (k : w' = w → W p l e R s m args below meth c H locs cells slots Q (F0 m (pc + 3) ls (st'.map (ab_v ad sd)))) : W p l e R s m args below meth c H locs cells slots Q (F0 m pc ls (st.map (ab_v ad sd))) := by
  obtain ⟨hx, hb, -, hown, -, -, -, hG, -⟩ := hC
  have hd := hE.dec rfl
  have hl := hE.2
  simp only [ab_heap] at h
  split at h
  · rename_i q hq
    cases h
    have hk := ab_kl_of hV hq
    simp only [ab_lk, hq, Bool.and_eq_true] at hl
    have e1 : q.1 = M.1.cls := of_decide_eq_true hl.1.1
    have e2 : q.2.1 = i := Nat.eq_of_beq_eq_true hl.1.2
    have kk := k rfl
    obtain ⟨o, ix, v, pl⟩ := q
    dsimp only at e1 e2 hl hk kk
    subst e1; subst e2
    cases v with
    | int v => exact lv_ldcw hx hb hown (ab_good hG (ab_has_mem hk) rfl) hd kk
    | _ => simp at hl
  · cases h
theorem ab_ldc2_ok (hV : ab_V tb ts) (hC : ab_Cx tb ts p s m args meth c M D cT A sd sp) {i : Nat} (hE : ab_E tb ts M pc (.ldc2_w i) lk) (h : ab_heap tb sp (.ldc2_w i) lk st w = some (st', w'))
    (k : w' = w → W p l e R s m args below meth c H locs cells slots Q (F0 m (pc + 3) ls (st'.map (ab_v ad sd)))) : W p l e R s m args below meth c H locs cells slots Q (F0 m pc ls (st.map (ab_v ad sd))) := by
  obtain ⟨hx, hb, -, hown, -, -, -, hG, -⟩ := hC
  have hd := hE.dec rfl
  have hl := hE.2
  simp only [ab_heap] at h
  split at h
  · rename_i q hq
    cases h
    have hk := ab_kl_of hV hq
    simp only [ab_lk, hq, Bool.and_eq_true] at hl
    have e1 : q.1 = M.1.cls := of_decide_eq_true hl.1.1
    have e2 : q.2.1 = i := Nat.eq_of_beq_eq_true hl.1.2
    have kk := k rfl
    obtain ⟨o, ix, v, pl⟩ := q
    dsimp only at e1 e2 hl hk kk
    subst e1; subst e2
    cases v with
    | long v => exact lv_ldc2 hx hb hown (ab_good hG (ab_has_mem hk) rfl) hd kk
    | _ => simp at hl
  · cases h
theorem ab_aastore_ok (hV : ab_V tb ts) (hC : ab_Cx tb ts p s m args meth c M D cT A sd sp) (hE : ab_E tb ts M pc .aastore lk) (hP : ab_P tb s D cT A ad sd w H locs) (h : ab_heap tb sp .aastore lk st w = some (st', w'))
    (k : ∀ (H' : Heap) (locs' : List Loc), ab_P tb s D cT A ad sd w' H' locs' → W p l e R s m args below meth c H' locs' cells slots Q (F0 m (pc + 1) ls (st'.map (ab_v ad sd)))) : W p l e R s m args below meth c H locs cells slots Q (F0 m pc ls (st.map (ab_v ad sd))) := by
  obtain ⟨hx, hb, -, -, -, -, -, hG, hN, hK, -⟩ := hC
  have hd := hE.dec rfl
  simp only [ab_heap] at h
  split at h
  · rename_i v i r rest
    split at h
    · rename_i t hxs
      split at h
      · rename_i o ho
        cases hc1 : Nat.beq t.1 0 with
        | false => rw [hc1] at h; cases h
        | true =>
          cases hc2 : Nat.ble o.1 6 with
          | false => rw [hc1, hc2] at h; cases h
          | true =>
            rw [hc1, hc2] at h
            simp only [Bool.and_self, cond_true] at h
            split at h
            · rename_i v0 hv0
              cases h
              obtain ⟨hw, hB⟩ := ab_cell_of hxs
              obtain ⟨hwv, hBv⟩ := ab_cell_of ho
              obtain ⟨hv0, hin⟩ := ab_ix_of hv0
              have hlt : i.toNatClampNeg < t.2.length := (List.getElem?_eq_some_iff.mp hv0).1
              have h0 := ab_w_get (ad := ad) (sd := sd) (cT := cT) hw
              have hv := ab_w_get (ad := ad) (sd := sd) (cT := cT) hwv
              have ht0 : t.1 = 0 := Nat.eq_of_beq_eq_true hc1
              have ht : (ab_tys cT)[1]? = some (cT (t.1 + 1), .object "ScrewLeft$Step") := by rw [ht0]; rfl
              have hset : ab_w ad sd cT (w.set r (.inr (.inr (t.1, t.2.set i.toNatClampNeg (some v))))) = (ab_w ad sd cT w).set r (ad r, .inl (cT (t.1 + 1), t.2.length, .inr (.inr (.inr (.inr (va_up (fun j => (t.2.getD j none).map (ab_r ad sd)) i.toNatClampNeg (some (ad v)))))))) := by
                rw [ab_w_set, show (some (ad v) : Option Nat) = (some v).map (ab_r ad sd) by rw [Option.map_some, ab_r_lo hBv], ab_va_up hlt]
                simp [ab_e]
              show W p l e R s m args below meth c H locs cells slots Q (F0 m pc ls (.ref (ab_r ad sd v) :: .int i :: .ref (ab_r ad sd r) :: List.map (ab_v ad sd) _))
              rw [ab_r_lo hB, ab_r_lo hBv]
              have kk : ∀ (H1 : Heap) (locs1 : List Loc), va_P D tb.2.2.2.2.2.1 ((ab_w ad sd cT w).set r (ad r, .inl (cT (t.1 + 1), t.2.length, .inr (.inr (.inr (.inr (va_up (fun j => (t.2.getD j none).map (ab_r ad sd)) i.toNatClampNeg (some (ad v))))))))) H1 → va_D A ((ab_w ad sd cT w).set r (ad r, .inl (cT (t.1 + 1), t.2.length, .inr (.inr (.inr (.inr (va_up (fun j => (t.2.getD j none).map (ab_r ad sd)) i.toNatClampNeg (some (ad v))))))))) → va_S A s.heap H1 locs1 → W p l e R s m args below meth c H1 locs1 cells slots Q (F0 m (pc + 1) ls (st'.map (ab_v ad sd))) :=
                fun H1 locs1 a1 a2 a3 => k H1 locs1 ⟨by rw [hset]; exact a1, by rw [hset]; exact a2, a3⟩
              obtain ⟨q, hq, hcs⟩ := hV.cast o.1 (Nat.le_of_ble_eq_true hc2)
              rcases hcs with hst | hca
              · exact va_astq (r := q) hx hb hK hP.1 hP.2.1 hP.2.2 r 1 v o.1 h0 (by rw [hst]; exact ht) hv hq hin hd kk
              · exact va_astqO (r := q) (E := "ScrewLeft$Step") hx hb hK hP.1 hP.2.1 hP.2.2 r 1 v o.1 h0 ht (ab_nest_of hN hca rfl) hv hq hin hd kk
            · cases h
      · cases h
    · cases h
  · cases h
theorem ab_heap_ok (hV : ab_V tb ts) (hC : ab_Cx tb ts p s m args meth c M D cT A sd sp) {ins : Instr} (hE : ab_E tb ts M pc ins lk) (hP : ab_P tb s D cT A ad sd w H locs) (h : ab_heap tb sp ins lk st w = some (st', w'))
    (k : ∀ (H' : Heap) (locs' : List Loc), ab_P tb s D cT A ad sd w' H' locs' → W p l e R s m args below meth c H' locs' cells slots Q (F0 m (pc + ab_len ins) ls (st'.map (ab_v ad sd)))) : W p l e R s m args below meth c H locs cells slots Q (F0 m pc ls (st.map (ab_v ad sd))) := by
  cases ins with
  | getfield i => exact ab_getfield_ok hV hC hE hP h (fun z => k H locs (z ▸ hP))
  | putfield i => exact ab_putfield_ok hV hC hE hP h k
  | iaload => exact ab_iaload_ok hC hE hP h (fun z => k H locs (z ▸ hP))
  | baload => exact ab_baload_ok hC hE hP h (fun z => k H locs (z ▸ hP))
  | iastore => exact ab_iastore_ok hC hE hP h k
  | aaload => exact ab_aaload_ok hC hE hP h (fun z => k H locs (z ▸ hP))
  | aastore => exact ab_aastore_ok hV hC hE hP h k
  | arraylength => exact ab_arraylength_ok hC hE hP h (fun z => k H locs (z ▸ hP))
  | getstatic i => exact ab_getstatic_ok hC hE hP h (fun z => k H locs (z ▸ hP))
  | ldc i => exact ab_ldc_ok hV hC hE h (fun z => k H locs (z ▸ hP))
  | ldc_w i => exact ab_ldcw_ok hV hC hE h (fun z => k H locs (z ▸ hP))
  | ldc2_w i => exact ab_ldc2_ok hV hC hE h (fun z => k H locs (z ▸ hP))
  | _ => cases h
end ABJ
