/-! THE ABSTRACT MACHINE IS SOUND: rows of rows; a step, a run, a method -/
theorem ab_outer (r : Nat → Nat) (ad sd : Nat → Nat) (n : Nat) (h : ∀ i : Nat, i < 4 → ab_r ad sd (n + 1 + i) = r i) : (fun j => (([some (n + 1), some (n + 2), some (n + 3), some (n + 4)] : List (Option Nat)).getD j none).map (ab_r ad sd)) = fun i => if i < 4 then some (r i) else none := by
  funext j
  match j with
  | 0 => show some (ab_r ad sd (n + 1)) = some (r 0); rw [← h 0 (by omega)]
  | 1 => show some (ab_r ad sd (n + 2)) = some (r 1); rw [← h 1 (by omega)]
  | 2 => show some (ab_r ad sd (n + 3)) = some (r 2); rw [← h 2 (by omega)]
  | 3 => show some (ab_r ad sd (n + 4)) = some (r 3); rw [← h 3 (by omega)]
  | j + 4 => simp
theorem ab_arr2 : "[" ++ (FieldType.array FieldType.int).toString = "[[I" := by decide +kernel
theorem ab_arr1 : (FieldType.array FieldType.int).toString = "[" ++ FieldType.int.toString := by decide +kernel
section ABQ
variable {p : Program} {l : Launch} {e : Env} {R : Room} {s : State} {m : MethodId} {args : Array Value} {below : List Frame} {meth : Method} {c : Code} {H : Heap} {locs : List Loc} {cells slots : Nat} {Q : State → Prop}
variable {pc lk d : Nat} {ls : Array Slot} {ad sd : Nat → Nat} {tb : ab_TB} {ts : List (List Cond)} {M : ab_M} {D : va_G} {cT : Nat → ClassId} {A : Nat → Prop} {sp : List (List Int32)} {w w' : ab_W} {st st' : List Value} {L : ab_Lo} {cf : ab_Cf} {q : List Value × ab_W × Nat × Nat}
theorem ab_mna_ok (hV : ab_V tb ts) (hC : ab_Cx tb ts p s m args meth c M D cT A sd sp) {i dm : Nat} (hE : ab_E tb ts M pc (.multianewarray i dm) lk) (hP : ab_P tb s D cT A ad sd w H locs) (hl : lv_has ls M.2.2.1 (ab_l ad sd L)) (hR : ab_Rm R M d)
    (h : ab_new tb M (.multianewarray i dm) lk L st w cells slots = some q)
    (k : ∀ (ad' : Nat → Nat) (H' : Heap) (locs' : List Loc), ab_P tb s D cT A ad' sd q.2.1 H' locs' → lv_has ls M.2.2.1 (ab_l ad' sd L) → ab_Ag M.2.2.2.2.1 w q.2.1 ad ad' → W p l e R s m args below meth c H' locs' q.2.2.1 q.2.2.2 Q (F0 m (pc + 4) ls (q.1.map (ab_v ad' sd)))) : W p l e R s m args below meth c H locs cells slots Q (F0 m pc ls (st.map (ab_v ad sd))) := by
  obtain ⟨hx, hb, -, hown, -, -, -, hG, hN, hK, hA, -, -, hAOA⟩ := id hC
  have hd := hE.dec rfl
  have hlk := hE.2
  obtain ⟨-, -, -, -, -, -, -, -, -, -, hAC⟩ := hV.tail
  simp only [ab_new] at h
  split at h
  · rename_i k0 n0 r0
    cases hc : (decide (k0 = 40) && decide (n0 = 4) && Nat.beq dm 2 && ab_wf L r0 w && Nat.ble (cells + 5) M.2.2.2.2.1 && Nat.ble (slots + 164) M.2.2.2.2.2.1) with
    | false => rw [hc] at h; cases h
    | true =>
      rw [hc] at h
      cases h
      simp only [Bool.and_eq_true] at hc
      obtain ⟨⟨⟨⟨⟨c1, c2⟩, c3⟩, c4⟩, c5⟩, c6⟩ := hc
      have e1 : k0 = 40 := of_decide_eq_true c1
      have e2 : n0 = 4 := of_decide_eq_true c2
      have e3 : dm = 2 := Nat.eq_of_beq_eq_true c3
      subst e1; subst e2; subst e3
      simp only [ab_lk] at hlk
      split at hlk
      · rename_i x hxn
        have hlink := ab_good hG (ab_has_mem hlk) rfl
        rw [← ab_arr2] at hlink
        obtain ⟨w1, w2, w3, w4⟩ := ab_wf_of c4
        have hcy : s.vm.findClass (FieldType.array .int).toString = some (cT 0) := by rw [ab_arr1]; exact (hK.2 0 _ rfl).2
        have hP0 : va_P D tb.2.2.2.2.2.1 (ab_w ad sd cT w ++ va_pl [] (fun _ => .inl (cT 0, 0, .inl (fun _ => 0)))) H := by
          show va_P D tb.2.2.2.2.2.1 (ab_w ad sd cT w ++ []) H
          rw [List.append_nil]; exact hP.1
        have hD0 : va_D A (ab_w ad sd cT w ++ va_pl [] (fun _ => .inl (cT 0, 0, .inl (fun _ => 0)))) := by
          show va_D A (ab_w ad sd cT w ++ [])
          rw [List.append_nil]; exact hP.2.1
        refine va_mna (ty := .int) (X := ab_w ad sd cT w) (L := []) (f := fun _ => .inl (cT 0, 0, .inl (fun _ => 0))) (N' := 4) (K' := 40) (z := (40, .inl (fun _ => 0))) hx hb hown hlink hAOA (ab_good hG hAC rfl) hcy hK hP0 hD0 hP.2.2 hA (by decide) (by decide) (by decide) (by decide) (by decide) (by show 40 * 4 ≤ _; decide) (by decide) rfl rfl (by rw [← hR.2.2.1]; exact Nat.le_of_ble_eq_true c5) (by rw [← hR.2.2.2]; exact Nat.le_of_ble_eq_true c6) (fun c0 => by rw [vp_cell_i, ← arrV_new]; rfl) hd (fun a r cA H1 hinj hnot b0 b1 b2 b3 => ?_)
        have hcA : cA = cT 2 := ab_int_class hK (t := 2) rfl b0
        have hag : ∀ k, k < w.length → (fun k => if k = w.length then a else if w.length < k ∧ k < w.length + 5 then r (k - (w.length + 1)) else ad k) k = ad k := fun k hk => by
          show (if k = w.length then a else if w.length < k ∧ k < w.length + 5 then r (k - (w.length + 1)) else ad k) = ad k
          rw [if_neg (by omega), if_neg (by omega)]
        generalize hadn : (fun k => if k = w.length then a else if w.length < k ∧ k < w.length + 5 then r (k - (w.length + 1)) else ad k) = adn at hag
        have hlo : ∀ j, j < ab_B → Nat.ble ab_B j = false := fun j hj => by
          cases hb : Nat.ble ab_B j with
          | false => rfl
          | true => have := Nat.le_of_ble_eq_true hb; omega
        have ha0 : adn w.length = a := by rw [← hadn]; simp
        have har : ∀ i : Nat, i < 4 → adn (w.length + 1 + i) = r i := fun i hi => by
          rw [← hadn]
          show (if w.length + 1 + i = w.length then a else if w.length < w.length + 1 + i ∧ w.length + 1 + i < w.length + 5 then r (w.length + 1 + i - (w.length + 1)) else ad (w.length + 1 + i)) = r i
          rw [if_neg (by omega), if_pos ⟨by omega, by omega⟩, show w.length + 1 + i - (w.length + 1) = i by omega]
        have hrr : ∀ i : Nat, i < 4 → ab_r adn sd (w.length + 1 + i) = r i := fun i hi => by rw [ab_r_lo (hlo _ (by omega)), har i hi]
        have e0 : ab_e adn sd cT (.inr (.inr (1, [some (w.length + 1), some (w.length + 2), some (w.length + 3), some (w.length + 4)]))) = .inl (cA, 4, .inr (.inr (.inr (.inr (fun i => if i < 4 then some (r i) else none))))) := by
          show (Sum.inl (cT 2, 4, .inr (.inr (.inr (.inr (fun j => (([some (w.length + 1), some (w.length + 2), some (w.length + 3), some (w.length + 4)] : List (Option Nat)).getD j none).map (ab_r adn sd)))))) : va_E) = _
          rw [ab_outer r adn sd w.length hrr, hcA]
        have e1 : ab_e adn sd cT (.inr (.inl (List.replicate 40 0))) = .inl (cT 0, 40, .inl (fun _ => 0)) := by
          show (Sum.inl (cT 0, (List.replicate 40 (0 : Int32)).length, .inl (fun j => (List.replicate 40 (0 : Int32)).getD j 0)) : va_E) = _
          rw [ab_rep, List.length_replicate]
        have hw : ab_w adn sd cT (w ++ [.inr (.inr (1, [some (w.length + 1), some (w.length + 2), some (w.length + 3), some (w.length + 4)])), .inr (.inl (List.replicate 40 0)), .inr (.inl (List.replicate 40 0)), .inr (.inl (List.replicate 40 0)), .inr (.inl (List.replicate 40 0))]) = (ab_w ad sd cT w ++ [(a, .inl (cA, 4, .inr (.inr (.inr (.inr (fun i => if i < 4 then some (r i) else none))))))]) ++ va_pl ([] ++ (List.range 4).map r) (vr_up (fun _ => .inl (cT 0, 0, .inl (fun _ => 0))) ((List.range 4).map r) (.inl (cT 0, 40, .inl (fun _ => 0)))) := by
          have hup : ∀ i, i < 4 → vr_up (fun _ => (.inl (cT 0, 0, .inl (fun _ => 0)) : va_E)) ((List.range 4).map r) (.inl (cT 0, 40, .inl (fun _ => 0))) (r i) = .inl (cT 0, 40, .inl (fun _ => 0)) := fun i hi => vr_up_in (List.mem_map.mpr ⟨i, List.mem_range.mpr hi, rfl⟩)
          have hpl : va_pl ([] ++ (List.range 4).map r) (vr_up (fun _ => .inl (cT 0, 0, .inl (fun _ => 0))) ((List.range 4).map r) (.inl (cT 0, 40, .inl (fun _ => 0)))) = [(r 0, .inl (cT 0, 40, .inl (fun _ => 0))), (r 1, .inl (cT 0, 40, .inl (fun _ => 0))), (r 2, .inl (cT 0, 40, .inl (fun _ => 0))), (r 3, .inl (cT 0, 40, .inl (fun _ => 0)))] := by
            show [(r 0, _), (r 1, _), (r 2, _), (r 3, _)] = _
            rw [hup 0 (by omega), hup 1 (by omega), hup 2 (by omega), hup 3 (by omega)]
          rw [hpl]
          unfold ab_w
          rw [List.mapIdx_append]
          have h1 := ab_w_agree (cT := cT) (sd := sd) (by omega) hag w4
          unfold ab_w at h1
          rw [h1]
          simp only [List.append_assoc, List.mapIdx_cons, List.mapIdx_nil]
          congr 1
          simp only [Nat.zero_add, List.cons_append, List.nil_append]
          rw [show w.length = w.length + 0 from rfl] at ha0
          have q0 := har 0 (by omega)
          have q1 := har 1 (by omega)
          have q2 := har 2 (by omega)
          have q3 := har 3 (by omega)
          simp only [Nat.add_zero] at ha0 q0 q1 q2 q3
          rw [e0, e1]
          refine congr (congrArg _ ?_) (congr (congrArg _ ?_) (congr (congrArg _ ?_) (congr (congrArg _ ?_) (congr (congrArg _ ?_) rfl))))
          · rw [ha0]
          · rw [show 1 + w.length = w.length + 1 by omega, q0]
          · rw [show 1 + 1 + w.length = w.length + 1 + 1 by omega, q1]
          · rw [show 1 + 1 + 1 + w.length = w.length + 1 + 2 by omega, q2]
          · rw [show 1 + 1 + 1 + 1 + w.length = w.length + 1 + 3 by omega, q3]
        have kk := k adn H1 locs ⟨by rw [hw]; exact b1, by rw [hw]; exact b2, b3⟩ (by rw [ab_L_agree hag w2]; exact hl) ⟨by simp, hag, fun z => by have := Nat.le_of_ble_eq_true c5; omega⟩
        rw [List.map_cons, ab_st_agree hag w3, show ab_v adn sd (.ref w.length) = .ref a by show Value.ref (ab_r adn sd w.length) = _; rw [ab_r_lo (hlo _ (by omega)), ha0]] at kk
        exact kk
      · cases hlk
  · cases h
theorem ab_new_ok (hV : ab_V tb ts) (hC : ab_Cx tb ts p s m args meth c M D cT A sd sp) {ins : Instr} (hE : ab_E tb ts M pc ins lk) (hP : ab_P tb s D cT A ad sd w H locs) (hl : lv_has ls M.2.2.1 (ab_l ad sd L)) (hR : ab_Rm R M d)
    (h : ab_new tb M ins lk L st w cells slots = some q)
    (k : ∀ (ad' : Nat → Nat) (H' : Heap) (locs' : List Loc), ab_P tb s D cT A ad' sd q.2.1 H' locs' → lv_has ls M.2.2.1 (ab_l ad' sd L) → ab_Ag M.2.2.2.2.1 w q.2.1 ad ad' → W p l e R s m args below meth c H' locs' q.2.2.1 q.2.2.2 Q (F0 m (pc + ab_len ins) ls (q.1.map (ab_v ad' sd)))) : W p l e R s m args below meth c H locs cells slots Q (F0 m pc ls (st.map (ab_v ad sd))) := by
  cases ins with
  | new i => exact ab_mk_ok hV hC hE hP hl hR h k
  | newarray t =>
    cases t with
    | int => exact ab_newa_ok hV hC hE hP hl hR h k
    | _ => cases h
  | anewarray i => exact ab_newq_ok hV hC hE hP hl hR h k
  | multianewarray i dm => exact ab_mna_ok hV hC hE hP hl hR h k
  | _ => cases h
end ABQ
