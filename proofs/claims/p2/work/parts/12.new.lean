/-! THE ABSTRACT MACHINE IS SOUND: making objects and arrays -/
theorem ab_e_agree {ad' ad sd : Nat → Nat} {cT : Nat → ClassId} {n : Nat} (hn : n ≤ ab_B) (hag : ∀ k, k < n → ad' k = ad k) {c : ab_C} (h : ab_okc n c = true) : ab_e ad' sd cT c = ab_e ad sd cT c := by
  rcases c with o | xs | t
  · show (Sum.inr (o.1, o.2.map (ab_v ad' sd)) : va_E) = Sum.inr (o.1, o.2.map (ab_v ad sd))
    rw [ab_st_agree hag h]
  · rfl
  · have e : (fun j => (t.2.getD j none).map (ab_r ad' sd)) = (fun j => (t.2.getD j none).map (ab_r ad sd)) := by
      funext j
      rw [List.getD_eq_getElem?_getD]
      cases hj : t.2[j]? with
      | none => rfl
      | some o =>
        cases o with
        | none => rfl
        | some k =>
          have := List.all_eq_true.mp h (some k) (List.mem_of_getElem? hj)
          have hk : k < n := Nat.le_of_ble_eq_true this
          show some (ab_r ad' sd k) = some (ab_r ad sd k)
          have hb : Nat.ble ab_B k = false := by
            cases hb : Nat.ble ab_B k with
            | false => rfl
            | true => have := Nat.le_of_ble_eq_true hb; omega
          rw [ab_r_lo hb, ab_r_lo hb, hag k hk]
    show (Sum.inl (cT (t.1 + 1), t.2.length, .inr (.inr (.inr (.inr (fun j => (t.2.getD j none).map (ab_r ad' sd)))))) : va_E) = _
    rw [e]
    rfl
theorem ab_w_agree {ad' ad sd : Nat → Nat} {cT : Nat → ClassId} {w : ab_W} (hn : w.length ≤ ab_B) (hag : ∀ k, k < w.length → ad' k = ad k) (h : w.all (ab_okc w.length) = true) : ab_w ad' sd cT w = ab_w ad sd cT w := by
  apply List.ext_getElem?
  intro k
  unfold ab_w
  rw [List.getElem?_mapIdx, List.getElem?_mapIdx]
  cases hk : w[k]? with
  | none => rfl
  | some c =>
    have h1 := List.all_eq_true.mp h c (List.mem_of_getElem? hk)
    show some (ad' k, ab_e ad' sd cT c) = some (ad k, ab_e ad sd cT c)
    rw [ab_e_agree hn hag h1, hag k (List.getElem?_eq_some_iff.mp hk).1]
theorem ab_w_push {ad sd : Nat → Nat} {cT : Nat → ClassId} (w : ab_W) (c : ab_C) : ab_w ad sd cT (w ++ [c]) = ab_w ad sd cT w ++ [(ad w.length, ab_e ad sd cT c)] := by
  unfold ab_w
  rw [List.mapIdx_append]
  simp
theorem ab_wf_of {L : ab_Lo} {st : List Value} {w : ab_W} (h : ab_wf L st w = true) : w.length + 8 < ab_B ∧ ab_okL w.length L = true ∧ st.all (ab_okv w.length) = true ∧ w.all (ab_okc w.length) = true := by
  unfold ab_wf at h
  simp only [Bool.and_eq_true] at h
  exact ⟨Nat.le_of_ble_eq_true h.1.1.1, h.1.1.2, h.1.2, h.2⟩
theorem ab_rep (n : Nat) : (fun j => (List.replicate n (0 : Int32)).getD j 0) = fun _ => 0 := by
  funext j
  rw [List.getD_eq_getElem?_getD, List.getElem?_replicate]
  split <;> rfl
theorem ab_repq (n : Nat) (g : Nat → Nat) : (fun j => ((List.replicate n (none : Option Nat)).getD j none).map g) = fun _ => none := by
  funext j
  rw [List.getD_eq_getElem?_getD, List.getElem?_replicate]
  split <;> rfl
section ABO
variable {p : Program} {l : Launch} {e : Env} {R : Room} {s : State} {m : MethodId} {args : Array Value} {below : List Frame} {meth : Method} {c : Code} {H : Heap} {locs : List Loc} {cells slots : Nat} {Q : State → Prop}
variable {pc lk d : Nat} {ls : Array Slot} {ad sd : Nat → Nat} {tb : ab_TB} {ts : List (List Cond)} {M : ab_M} {D : va_G} {cT : Nat → ClassId} {A : Nat → Prop} {sp : List (List Int32)} {w w' : ab_W} {st st' : List Value} {L : ab_Lo} {cf : ab_Cf} {q : List Value × ab_W × Nat × Nat}
/-- one new cell: the addresses go on -/
theorem ab_grow {rest : List Value} {L : ab_Lo} {nL a : Nat} {x : ab_C} {H1 : Heap} (hwf : ab_wf L rest w = true) (hx : ∀ ad' : Nat → Nat, ∀ y : va_E, y = ab_e ad' sd cT x → va_P D tb.2.2.2.2.2.1 (ab_w ad sd cT w ++ [(a, y)]) H1 ∧ va_D A (ab_w ad sd cT w ++ [(a, y)]) ∧ va_S A s.heap H1 locs) (hl : lv_has ls nL (ab_l ad sd L)) : ∃ ad' : Nat → Nat, (w.length ≤ (w ++ [x]).length ∧ ∀ k, k < w.length → ad' k = ad k) ∧ ab_P tb s D cT A ad' sd (w ++ [x]) H1 locs ∧ lv_has ls nL (ab_l ad' sd L) ∧ rest.map (ab_v ad' sd) = rest.map (ab_v ad sd) ∧ ab_v ad' sd (.ref w.length) = .ref a := by
  obtain ⟨h1, h2, h3, h4⟩ := ab_wf_of hwf
  have hag : ∀ k, k < w.length → (fun k => if k = w.length then a else ad k) k = ad k := fun k hk => if_neg (by omega)
  refine ⟨fun k => if k = w.length then a else ad k, ⟨by simp, hag⟩, ?_, by rw [ab_L_agree hag h2]; exact hl, ab_st_agree hag h3, ?_⟩
  · have e : ab_w (fun k => if k = w.length then a else ad k) sd cT (w ++ [x]) = ab_w ad sd cT w ++ [(a, ab_e (fun k => if k = w.length then a else ad k) sd cT x)] := by
      rw [ab_w_push, ab_w_agree (by omega) hag h4]
      simp
    unfold ab_P
    rw [e]
    exact hx _ _ rfl
  · have hb : Nat.ble ab_B w.length = false := by
      cases hb : Nat.ble ab_B w.length with
      | false => rfl
      | true => have := Nat.le_of_ble_eq_true hb; omega
    show Value.ref (ab_r _ sd w.length) = _
    rw [ab_r_lo hb]
    simp
theorem ab_int_class (hK : va_K D tb.2.2.2.2.2.1 (ab_tys cT) s) {t : Nat} {ty : FieldType} {cA : ClassId} (ht : (ab_tys cT)[t]? = some (cT t, ty)) (h : va_K D tb.2.2.2.2.2.1 (ab_tys cT ++ [(cA, ty)]) s) : cA = cT t := by
  have h1 := (hK.2 t _ ht).2
  have h2 := (h.2 3 (cA, ty) rfl).2
  cases ty with
  | object C =>
    obtain ⟨_, _, _, _, _, a⟩ := h1
    obtain ⟨_, _, _, _, _, b⟩ := h2
    exact Option.some.inj (b.symm.trans a)
  | _ => exact Option.some.inj (Eq.trans (Eq.symm h2) h1)
theorem ab_dv (t : FieldType) : ab_v ad sd (defaultValue t) = defaultValue t := by cases t <;> rfl
theorem ab_vpV (fs : List Value) (j : Nat) : vp_V (fs.map (ab_v ad sd)) j = ab_v ad sd (vp_V fs j) := by
  unfold vp_V
  rw [List.getD_eq_getElem?_getD, List.getD_eq_getElem?_getD, List.getElem?_map]
  cases fs[j]? <;> rfl
theorem ab_mk_ok (hV : ab_V tb ts) (hC : ab_Cx tb ts p s m args meth c M D cT A sd sp) {i : Nat} (hE : ab_E tb ts M pc (.new i) lk) (hP : ab_P tb s D cT A ad sd w H locs) (hl : lv_has ls M.2.2.1 (ab_l ad sd L)) (hR : ab_Rm R M d)
    (h : ab_new tb M (.new i) lk L st w cells slots = some q)
    (k : ∀ (ad' : Nat → Nat) (H' : Heap) (locs' : List Loc), ab_P tb s D cT A ad' sd q.2.1 H' locs' → lv_has ls M.2.2.1 (ab_l ad' sd L) → ab_Ag M.2.2.2.2.1 w q.2.1 ad ad' → W p l e R s m args below meth c H' locs' q.2.2.1 q.2.2.2 Q (F0 m (pc + 3) ls (q.1.map (ab_v ad' sd)))) : W p l e R s m args below meth c H locs cells slots Q (F0 m pc ls (st.map (ab_v ad sd))) := by
  obtain ⟨hx, hb, -, hown, -, -, -, hG, hN, hK, hA, -⟩ := id hC
  have hd := hE.dec rfl
  have hlk := hE.2
  simp only [ab_new] at h
  split at h
  · rename_i x hxn
    split at h
    · rename_i fs hfs
      cases hc : (ab_wf L st w && Nat.ble (cells + 1) M.2.2.2.2.1 && Nat.ble (slots + fs.length) M.2.2.2.2.2.1) with
      | false => rw [hc] at h; cases h
      | true =>
        rw [hc] at h
        cases h
        simp only [Bool.and_eq_true] at hc
        obtain ⟨⟨c1, c2⟩, c3⟩ := hc
        simp only [ab_lk, hxn, Bool.and_eq_true] at hlk
        obtain ⟨⟨k1, k2⟩, k3⟩ := hlk
        have e1 : x.1 = M.1.cls := of_decide_eq_true k1
        have e2 : x.2.1 = i := Nat.eq_of_beq_eq_true k2
        unfold ab_nlOK at k3
        split at k3
        · rename_i cq fs' hcq hfs'
          rw [hfs] at hfs'
          cases hfs'
          simp only [Bool.and_eq_true] at k3
          obtain ⟨⟨n1, n2⟩, n3⟩ := k3
          have hlen : fs.length = cq.2.2 := Nat.eq_of_beq_eq_true n2
          have hdef : ∀ j, j < cq.2.2 → defaultValue (ab_ty cq j) = vp_V fs j := fun j hj => of_decide_eq_true (List.all_eq_true.mp n3 j (List.mem_range.mpr hj))
          rw [ab_nth_eq] at hcq
          have hcl := hV.1 cq (List.mem_of_getElem? hcq)
          have hfv : ∀ ad0 : Nat → Nat, fs.map (ab_v ad0 sd) = fs := by
            intro ad0
            apply List.ext_getElem?
            intro j
            rw [List.getElem?_map]
            cases hj : fs[j]? with
            | none => rfl
            | some v =>
              have hv : vp_V fs j = v := by unfold vp_V; rw [List.getD_eq_getElem?_getD, hj]; rfl
              have hlt : j < cq.2.2 := by rw [← hlen]; exact (List.getElem?_eq_some_iff.mp hj).1
              show some (ab_v ad0 sd v) = some v
              rw [← hv, ← hdef j hlt, ab_dv]
          have hlink := ab_has_mem n1
          rw [e1, e2] at hlink
          have h5 : slots + cq.2.2 ≤ R.slots := by rw [← hR.2.2.2, ← hlen]; exact Nat.le_of_ble_eq_true c3
          refine va_new (c0 := c) (fs := fs) hx hb hG (ab_uws hcl) (ab_ty cq) (ab_ty_ok hcl) hown (ab_good hG hlink rfl) (ab_good hG hcl.2.2.2.1 rfl) (ab_good hG hcl.2.2.2.2 rfl) hK hP.1 hP.2.1 hP.2.2 hA hcq hdef (by rw [← hR.2.2.1]; exact Nat.le_of_ble_eq_true c2) h5 hd (fun a H1 b1 b2 b3 => ?_)
          obtain ⟨ad', g0, g1, g2, g3, g4⟩ := ab_grow (locs := locs) (s := s) (tb := tb) (D := D) (A := A) (x := .inl (x.2.2.1, fs)) (a := a) (H1 := H1) c1 (fun ad0 y hy => by
            have : y = .inr (x.2.2.1, fs) := by rw [hy]; show Sum.inr (x.2.2.1, fs.map (ab_v ad0 sd)) = _; rw [hfv]
            rw [this]
            exact ⟨b1, b2, b3⟩) hl
          have kk := k ad' H1 locs g1 g2 ⟨g0.1, g0.2, fun z => by have := Nat.le_of_ble_eq_true c2; omega⟩
          rw [List.map_cons, g3, g4, hlen] at kk
          exact kk
        · cases k3
    · cases h
  · cases h
theorem ab_newa_ok (hV : ab_V tb ts) (hC : ab_Cx tb ts p s m args meth c M D cT A sd sp) (hE : ab_E tb ts M pc (.newarray .int) lk) (hP : ab_P tb s D cT A ad sd w H locs) (hl : lv_has ls M.2.2.1 (ab_l ad sd L)) (hR : ab_Rm R M d)
    (h : ab_new tb M (.newarray .int) lk L st w cells slots = some q)
    (k : ∀ (ad' : Nat → Nat) (H' : Heap) (locs' : List Loc), ab_P tb s D cT A ad' sd q.2.1 H' locs' → lv_has ls M.2.2.1 (ab_l ad' sd L) → ab_Ag M.2.2.2.2.1 w q.2.1 ad ad' → W p l e R s m args below meth c H' locs' q.2.2.1 q.2.2.2 Q (F0 m (pc + 2) ls (q.1.map (ab_v ad' sd)))) : W p l e R s m args below meth c H locs cells slots Q (F0 m pc ls (st.map (ab_v ad sd))) := by
  obtain ⟨hx, hb, -, hown, -, -, -, hG, hN, hK, hA, -⟩ := id hC
  have hd := hE.dec rfl
  obtain ⟨-, -, -, -, -, -, -, -, -, -, hAC⟩ := hV.tail
  simp only [ab_new] at h
  split at h
  · rename_i n r
    cases hc : (!decide (n < 0) && Nat.ble n.toNatClampNeg 100000 && ab_wf L r w && Nat.ble (cells + 1) M.2.2.2.2.1 && Nat.ble (slots + n.toNatClampNeg) M.2.2.2.2.2.1) with
    | false => rw [hc] at h; cases h
    | true =>
      rw [hc] at h
      cases h
      simp only [Bool.and_eq_true, Bool.not_eq_true', decide_eq_false_iff_not] at hc
      obtain ⟨⟨⟨⟨c1, c2⟩, c3⟩, c4⟩, c5⟩ := hc
      have c2 := Nat.le_of_ble_eq_true c2
      refine va_newa (atype := .int) (ty := .int) (N' := n.toNatClampNeg) (a0 := (n.toNatClampNeg, .inl (fun _ => 0))) hx hb (ab_good hG hAC rfl) rfl hK hP.1 hP.2.1 hP.2.2 hA (fun _ => rfl) c1 rfl (by show n.toNatClampNeg * 4 ≤ _; omega) (by rw [← hR.2.2.1]; exact Nat.le_of_ble_eq_true c4) (by rw [← hR.2.2.2]; exact Nat.le_of_ble_eq_true c5) hd (fun a cA H1 b0 b1 b2 b3 => ?_)
      have hcA : cA = cT 0 := ab_int_class hK (t := 0) rfl b0
      obtain ⟨ad', g0, g1, g2, g3, g4⟩ := ab_grow (locs := locs) (s := s) (tb := tb) (D := D) (A := A) (x := .inr (.inl (List.replicate n.toNatClampNeg 0))) (a := a) (H1 := H1) c3 (fun ad0 y hy => by
        have : y = .inl (cA, n.toNatClampNeg, .inl (fun _ => 0)) := by rw [hy, hcA]; show (Sum.inl (cT 0, (List.replicate n.toNatClampNeg (0 : Int32)).length, .inl (fun j => (List.replicate n.toNatClampNeg (0 : Int32)).getD j 0)) : va_E) = _; rw [ab_rep, List.length_replicate]
        rw [this]
        exact ⟨b1, b2, b3⟩) hl
      have kk := k ad' H1 locs g1 g2 ⟨g0.1, g0.2, fun z => by have := Nat.le_of_ble_eq_true c4; omega⟩
      rw [List.map_cons, g3, g4] at kk
      exact kk
  · cases h
theorem ab_newq_ok (hV : ab_V tb ts) (hC : ab_Cx tb ts p s m args meth c M D cT A sd sp) {i : Nat} (hE : ab_E tb ts M pc (.anewarray i) lk) (hP : ab_P tb s D cT A ad sd w H locs) (hl : lv_has ls M.2.2.1 (ab_l ad sd L)) (hR : ab_Rm R M d)
    (h : ab_new tb M (.anewarray i) lk L st w cells slots = some q)
    (k : ∀ (ad' : Nat → Nat) (H' : Heap) (locs' : List Loc), ab_P tb s D cT A ad' sd q.2.1 H' locs' → lv_has ls M.2.2.1 (ab_l ad' sd L) → ab_Ag M.2.2.2.2.1 w q.2.1 ad ad' → W p l e R s m args below meth c H' locs' q.2.2.1 q.2.2.2 Q (F0 m (pc + 3) ls (q.1.map (ab_v ad' sd)))) : W p l e R s m args below meth c H locs cells slots Q (F0 m pc ls (st.map (ab_v ad sd))) := by
  obtain ⟨hx, hb, -, hown, -, -, -, hG, hN, hK, hA, -, hAO, -⟩ := id hC
  have hd := hE.dec rfl
  have hlk := hE.2
  simp only [ab_new] at h
  split at h
  · rename_i n r
    cases hc : (!decide (n < 0) && Nat.ble n.toNatClampNeg 100000 && ab_wf L r w && Nat.ble (cells + 1) M.2.2.2.2.1 && Nat.ble (slots + n.toNatClampNeg) M.2.2.2.2.2.1) with
    | false => rw [hc] at h; cases h
    | true =>
      rw [hc] at h
      cases h
      simp only [Bool.and_eq_true, Bool.not_eq_true', decide_eq_false_iff_not] at hc
      obtain ⟨⟨⟨⟨c1, c2⟩, c3⟩, c4⟩, c5⟩ := hc
      have c2 := Nat.le_of_ble_eq_true c2
      simp only [ab_lk] at hlk
      split at hlk
      · rename_i x hxn
        have hlink := ab_has_mem hlk
        refine va_newq (C := "ScrewLeft$Step") (N' := n.toNatClampNeg) hx hb hown (ab_good hG hlink rfl) hAO hK hP.1 hP.2.1 hP.2.2 hA c1 rfl (by omega) (by rw [← hR.2.2.1]; exact Nat.le_of_ble_eq_true c4) (by rw [← hR.2.2.2]; exact Nat.le_of_ble_eq_true c5) hd (fun a cA H1 b0 b1 b2 b3 => ?_)
        have hcA : cA = cT 1 := ab_int_class hK (t := 1) rfl b0
        obtain ⟨ad', g0, g1, g2, g3, g4⟩ := ab_grow (locs := locs) (s := s) (tb := tb) (D := D) (A := A) (x := .inr (.inr (0, List.replicate n.toNatClampNeg none))) (a := a) (H1 := H1) c3 (fun ad0 y hy => by
          have : y = .inl (cA, n.toNatClampNeg, .inr (.inr (.inr (.inr (fun _ => none))))) := by rw [hy, hcA]; show (Sum.inl (cT 1, (List.replicate n.toNatClampNeg (none : Option Nat)).length, .inr (.inr (.inr (.inr (fun j => ((List.replicate n.toNatClampNeg (none : Option Nat)).getD j none).map (ab_r ad0 sd)))))) : va_E) = _; rw [ab_repq, List.length_replicate]
          rw [this]
          exact ⟨b1, b2, b3⟩) hl
        have kk := k ad' H1 locs g1 g2 ⟨g0.1, g0.2, fun z => by have := Nat.le_of_ble_eq_true c4; omega⟩
        rw [List.map_cons, g3, g4] at kk
        exact kk
      · cases hlk
  · cases h
end ABO
