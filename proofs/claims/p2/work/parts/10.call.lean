/-! THE ABSTRACT MACHINE IS SOUND: built-in calls; all calls -/
theorem ab_cpy_len {f g : List Int32} {sp dp n : Nat} (h1 : sp + n ≤ f.length) (h2 : dp + n ≤ g.length) : (ab_cpy f g sp dp n).length = g.length := by
  unfold ab_cpy
  simp only [List.length_append, List.length_take, List.length_drop]
  omega
theorem ab_cpy_fun {f g : List Int32} {sp dp n : Nat} (h1 : sp + n ≤ f.length) (h2 : dp + n ≤ g.length) : va_cpy (fun j => f.getD j 0) (fun j => g.getD j 0) sp dp n = fun j => (ab_cpy f g sp dp n).getD j 0 := by
  funext j
  have e1 : (g.take dp).length = dp := by rw [List.length_take]; omega
  have e2 : ((f.drop sp).take n).length = n := by rw [List.length_take, List.length_drop]; omega
  simp only [va_cpy, ab_cpy, List.getD_eq_getElem?_getD]
  by_cases a : j < dp
  · rw [if_neg (by omega), List.getElem?_append_left (by omega), List.getElem?_take, if_pos a]
  · by_cases b : j < dp + n
    · rw [if_pos ⟨by omega, b⟩, List.getElem?_append_right (by omega), e1, List.getElem?_append_left (by omega), List.getElem?_take, if_pos (by omega), List.getElem?_drop]
    · rw [if_neg (by omega), List.getElem?_append_right (by omega), e1, List.getElem?_append_right (by omega), e2, List.getElem?_drop]
      congr 2
      omega
theorem ab_native_words : nativeFrameWords "java/lang/System" "arraycopy" 5 + 11 ≤ 50 := by decide +kernel
theorem ab_V.tail {tb : ab_TB} {ts : List (List Cond)} (h : ab_V tb ts) : Cond.native arraycopyName ∈ ts.flatten ∧ Cond.static arraycopyName ∈ ts.flatten ∧ Cond.initialized "java/lang/System" ∈ ts.flatten ∧ Cond.static Lib.Math.max.name ∈ ts.flatten ∧ Cond.static Lib.Math.min.name ∈ ts.flatten ∧ Cond.initialized "java/lang/Math" ∈ ts.flatten ∧ Cond.code Lib.Math.max.name Lib.Math.max.code 2 (some .int) ∈ ts.flatten ∧ Cond.code Lib.Math.min.name Lib.Math.min.code 2 (some .int) ∈ ts.flatten
  ∧ Cond.instanceMethod Lib.objectInit ∈ ts.flatten ∧ Cond.code Lib.objectInit ⟨#[0xb1]⟩ 1 none ∈ ts.flatten ∧ Cond.arrayClass .int ∈ ts.flatten := by
  obtain ⟨-, -, -, -, -, -, a, b, c, d, e, f, g, h, i, j, k, -, -⟩ := h
  exact ⟨a, b, c, d, e, f, g, h, i, j, k⟩
section ABN
variable {p : Program} {l : Launch} {e : Env} {R : Room} {s : State} {m : MethodId} {args : Array Value} {below : List Frame} {meth : Method} {c : Code} {H : Heap} {locs : List Loc} {cells slots : Nat} {Q : State → Prop}
variable {pc lk d : Nat} {ls : Array Slot} {ad sd : Nat → Nat} {tb : ab_TB} {ts : List (List Cond)} {M : ab_M} {D : va_G} {cT : Nat → ClassId} {A : Nat → Prop} {sp : List (List Int32)} {w w' : ab_W} {st st' : List Value} {L : ab_Lo} {cf : ab_Cf} {q : List Value × ab_W × Nat × Nat}
theorem ab_room_of {rest : List Value} (h : ab_room rest = true) : ((rest.map (ab_v ad sd)).map fun v => v.category).sum ≤ 8 := by
  rw [ab_cat_sum]
  exact Nat.le_of_ble_eq_true h
theorem ab_copy_ok (hV : ab_V tb ts) (hC : ab_Cx tb ts p s m args meth c M D cT A sd sp) {i : Nat} (hd : decode M.2.1 pc = .ok (.invokestatic i, 3)) (hP : ab_P tb s D cT A ad sd w H locs) (hl : lv_has ls M.2.2.1 (ab_l ad sd L)) (hR : ab_Rm R M d) {g : ab_G} (hg : ab_nth tb.2.1 lk = some g) (hown1 : g.1 = M.1.cls) (hidx : g.2.1 = i) (hk : g.2.2.1 = 6)
    (h : ab_go tb cf M lk L st w cells slots = some q)
    (k : ∀ (ad' : Nat → Nat) (H' : Heap) (locs' : List Loc), ab_P tb s D cT A ad' sd q.2.1 H' locs' → lv_has ls M.2.2.1 (ab_l ad' sd L) → ab_Ag M.2.2.2.2.1 w q.2.1 ad ad' → W p l e R s m args below meth c H' locs' q.2.2.1 q.2.2.2 Q (F0 m (pc + 3) ls (q.1.map (ab_v ad' sd)))) : W p l e R s m args below meth c H locs cells slots Q (F0 m pc ls (st.map (ab_v ad sd))) := by
  obtain ⟨hn1, hn2, hnp, htg, hbi⟩ := ab_gl_of hV hg
  obtain ⟨t1, t2, t3, -⟩ := hV.tail
  obtain ⟨hx, hb, hml, hown, -, -, -, hG, hN, hK, -⟩ := id hC
  unfold ab_go at h
  rw [hg] at h
  simp only [hk] at h
  rw [hk] at hn2 hbi
  have hli := hn2 rfl
  rw [hown1, hidx, show g.2.2.2.1 = arraycopyName from of_decide_eq_true hbi] at hli
  split at h
  · rename_i n dp a sp0 b rest
    split at h
    · rename_i ys hys
      split at h
      · rename_i xs hxs
        cases hc : (ab_room rest && !decide (sp0 < 0) && !decide (dp < 0) && !decide (n < 0) && Nat.ble (sp0.toNatClampNeg + n.toNatClampNeg) xs.length && Nat.ble (dp.toNatClampNeg + n.toNatClampNeg) ys.length) with
        | false => rw [hc] at h; cases h
        | true =>
          rw [hc] at h
          cases h
          simp only [Bool.and_eq_true, Bool.not_eq_true', decide_eq_false_iff_not] at hc
          obtain ⟨⟨⟨⟨⟨c1, c2⟩, c3⟩, c4⟩, c5⟩, c6⟩ := hc
          obtain ⟨hwa, hBa⟩ := ab_cell_of hys
          obtain ⟨hwb, hBb⟩ := ab_cell_of hxs
          have h5 := Nat.le_of_ble_eq_true c5
          have h6 := Nat.le_of_ble_eq_true c6
          have ha := ab_w_get (ad := ad) (sd := sd) (cT := cT) hwa
          have hb0 := ab_w_get (ad := ad) (sd := sd) (cT := cT) hwb
          have hset : ab_w ad sd cT (w.set a (.inr (.inl (ab_cpy xs ys sp0.toNatClampNeg dp.toNatClampNeg n.toNatClampNeg)))) = (ab_w ad sd cT w).set a (ad a, .inl (cT 0, ys.length, .inl (va_cpy (fun j => xs.getD j 0) (fun j => ys.getD j 0) sp0.toNatClampNeg dp.toNatClampNeg n.toNatClampNeg))) := by
            rw [ab_w_set, ab_cpy_fun h5 h6]
            simp [ab_e, ab_cpy_len h5 h6]
          show W p l e R s m args below meth c H locs cells slots Q (F0 m pc ls (.int n :: .int dp :: .ref (ab_r ad sd a) :: .int sp0 :: .ref (ab_r ad sd b) :: List.map (ab_v ad sd) _))
          rw [ab_r_lo hBa, ab_r_lo hBb]
          have hr := ab_room_of (ad := ad) (sd := sd) c1
          have hR2 := hR.2.1
          have hR1 := hR.1
          exact va_copyi (ty := .int) hx hb (by rw [hml, hl.1]) hown (ab_good hG hli rfl) (ab_good hG t1 rfl) (ab_good hG t2 rfl) (ab_good hG t3 rfl) hK hP.1 hP.2.1 hP.2.2 b a 0 0 hb0 ha rfl rfl rfl c2 c3 c4 h5 h6 (fun _ _ => rfl) (by omega) (by have := ab_native_words; omega) hd
            (fun H1 locs1 a1 a2 a3 => k ad H1 locs1 ⟨by rw [hset]; exact a1, by rw [hset]; exact a2, a3⟩ hl (ab_Ag.rf (by simp)))
      · cases h
    · cases h
  · cases h
theorem ab_math_ok (hV : ab_V tb ts) (hC : ab_Cx tb ts p s m args meth c M D cT A sd sp) {i : Nat} (hd : decode M.2.1 pc = .ok (.invokestatic i, 3)) (hP : ab_P tb s D cT A ad sd w H locs) (hl : lv_has ls M.2.2.1 (ab_l ad sd L)) (hR : ab_Rm R M d) {g : ab_G} (hg : ab_nth tb.2.1 lk = some g) (hown1 : g.1 = M.1.cls) (hidx : g.2.1 = i) (hk : g.2.2.1 = 7 ∨ g.2.2.1 = 8)
    (h : ab_go tb cf M lk L st w cells slots = some q)
    (k : ∀ (ad' : Nat → Nat) (H' : Heap) (locs' : List Loc), ab_P tb s D cT A ad' sd q.2.1 H' locs' → lv_has ls M.2.2.1 (ab_l ad' sd L) → ab_Ag M.2.2.2.2.1 w q.2.1 ad ad' → W p l e R s m args below meth c H' locs' q.2.2.1 q.2.2.2 Q (F0 m (pc + 3) ls (q.1.map (ab_v ad' sd)))) : W p l e R s m args below meth c H locs cells slots Q (F0 m pc ls (st.map (ab_v ad sd))) := by
  obtain ⟨hn1, hn2, hnp, htg, hbi⟩ := ab_gl_of hV hg
  obtain ⟨-, -, -, t4, t5, t6, t7, t8, -⟩ := hV.tail
  obtain ⟨hx, hb, hml, hown, -, -, -, hG, hN, hK, -⟩ := id hC
  have hR2 := hR.2.1
  have hR1 := hR.1
  unfold ab_go at h
  rw [hg] at h
  rcases hk with hk | hk
  · simp only [hk] at h
    rw [hk] at hn2 hbi
    have hli := hn2 rfl
    rw [hown1, hidx, show g.2.2.2.1 = Lib.Math.max.name from of_decide_eq_true hbi] at hli
    split at h
    · rename_i y x rest
      cases hc : (ab_room rest && Nat.ble cells M.2.2.2.2.1 && Nat.ble slots M.2.2.2.2.2.1) with
      | false => rw [hc] at h; cases h
      | true =>
        rw [hc] at h
        cases h
        simp only [Bool.and_eq_true] at hc
        have hr := ab_room_of (ad := ad) (sd := sd) hc.1.1
        exact va_mmax hx hb (by rw [hml, hl.1]) hown (ab_good hG hli rfl) (ab_good hG t4 rfl) (ab_good hG t6 rfl) (ab_good hG t7 rfl) (by omega) (by omega) (by rw [← hR.2.2.1]; exact Nat.le_of_ble_eq_true hc.1.2) (by rw [← hR.2.2.2]; exact Nat.le_of_ble_eq_true hc.2) hd (k ad H locs hP hl (ab_Ag.rf rfl))
    · cases h
  · simp only [hk] at h
    rw [hk] at hn2 hbi
    have hli := hn2 rfl
    rw [hown1, hidx, show g.2.2.2.1 = Lib.Math.min.name from of_decide_eq_true hbi] at hli
    split at h
    · rename_i y x rest
      cases hc : (ab_room rest && Nat.ble cells M.2.2.2.2.1 && Nat.ble slots M.2.2.2.2.2.1) with
      | false => rw [hc] at h; cases h
      | true =>
        rw [hc] at h
        cases h
        simp only [Bool.and_eq_true] at hc
        have hr := ab_room_of (ad := ad) (sd := sd) hc.1.1
        exact va_mmin hx hb (by rw [hml, hl.1]) hown (ab_good hG hli rfl) (ab_good hG t5 rfl) (ab_good hG t6 rfl) (ab_good hG t8 rfl) (by omega) (by omega) (by rw [← hR.2.2.1]; exact Nat.le_of_ble_eq_true hc.1.2) (by rw [← hR.2.2.2]; exact Nat.le_of_ble_eq_true hc.2) hd (k ad H locs hP hl (ab_Ag.rf rfl))
    · cases h
theorem ab_obj_ok (hV : ab_V tb ts) (hC : ab_Cx tb ts p s m args meth c M D cT A sd sp) {i : Nat} (hd : decode M.2.1 pc = .ok (.invokespecial i, 3)) (hP : ab_P tb s D cT A ad sd w H locs) (hl : lv_has ls M.2.2.1 (ab_l ad sd L)) (hR : ab_Rm R M d) {g : ab_G} (hg : ab_nth tb.2.1 lk = some g) (hown1 : g.1 = M.1.cls) (hidx : g.2.1 = i) (hk : g.2.2.1 = 9)
    (h : ab_go tb cf M lk L st w cells slots = some q)
    (k : ∀ (ad' : Nat → Nat) (H' : Heap) (locs' : List Loc), ab_P tb s D cT A ad' sd q.2.1 H' locs' → lv_has ls M.2.2.1 (ab_l ad' sd L) → ab_Ag M.2.2.2.2.1 w q.2.1 ad ad' → W p l e R s m args below meth c H' locs' q.2.2.1 q.2.2.2 Q (F0 m (pc + 3) ls (q.1.map (ab_v ad' sd)))) : W p l e R s m args below meth c H locs cells slots Q (F0 m pc ls (st.map (ab_v ad sd))) := by
  obtain ⟨hn1, hn2, hnp, htg, hbi⟩ := ab_gl_of hV hg
  obtain ⟨-, -, -, -, -, -, -, -, t9, t10, -⟩ := hV.tail
  obtain ⟨hx, hb, hml, hown, -, -, -, hG, hN, hK, -⟩ := id hC
  have hR2 := hR.2.1
  have hR1 := hR.1
  unfold ab_go at h
  rw [hg] at h
  simp only [hk] at h
  rw [hk] at hn2 hbi
  have hli := hn2 rfl
  rw [hown1, hidx, show g.2.2.2.1 = Lib.objectInit from of_decide_eq_true hbi] at hli
  split at h
  · rename_i a rest
    cases hc : ab_room rest with
    | false => rw [hc] at h; cases h
    | true =>
      rw [hc] at h
      cases h
      have hr := ab_room_of (ad := ad) (sd := sd) hc
      exact W.objInit hx hb hown (ab_good hG hli rfl) (ab_good hG t9 rfl) (ab_good hG t10 rfl) rfl (by show ls.size = _; rw [hml, hl.1]) rfl hd (by omega) (by show 2 * 0 + _ + 12 ≤ _; omega) (k ad H locs hP hl (ab_Ag.rf rfl))
  · cases h
theorem ab_call1_ok (hV : ab_V tb ts) (hC : ab_Cx tb ts p s m args meth c M D cT A sd sp) {ins : Instr} (hE : ab_E tb ts M pc ins lk) (hP : ab_P tb s D cT A ad sd w H locs) (hl : lv_has ls M.2.2.1 (ab_l ad sd L)) (hcf : ab_cfOK l d tb ts sp cf) (hR : ab_Rm R M d)
    (h : ab_call1 tb cf M ins lk L st w cells slots = some q)
    (k : ∀ (ad' : Nat → Nat) (H' : Heap) (locs' : List Loc), ab_P tb s D cT A ad' sd q.2.1 H' locs' → lv_has ls M.2.2.1 (ab_l ad' sd L) → ab_Ag M.2.2.2.2.1 w q.2.1 ad ad' → W p l e R s m args below meth c H' locs' q.2.2.1 q.2.2.2 Q (F0 m (pc + 3) ls (q.1.map (ab_v ad' sd)))) : W p l e R s m args below meth c H locs cells slots Q (F0 m pc ls (st.map (ab_v ad sd))) := by
  have hg0 : ab_go tb cf M lk L st w cells slots = some q → ∃ g, ab_nth tb.2.1 lk = some g := by
    intro hz
    unfold ab_go at hz
    split at hz
    · cases hz
    · rename_i g hg; exact ⟨g, hg⟩
  have hin : ∀ {g : ab_G}, ab_nth tb.2.1 lk = some g → (g.2.2.1 = 0 ∨ g.2.2.1 = 1 ∨ g.2.2.1 = 10 ∨ g.2.2.1 = 4 ∨ g.2.2.1 = 5 ∨ g.2.2.1 = 11 ∨ g.2.2.1 = 13) → ab_go tb cf M lk L st w cells slots = some q → ab_inst tb cf M g L st w cells slots = some q := by
    intro g hg hk hz
    unfold ab_go at hz
    rw [hg] at hz
    rcases hk with hk | hk | hk | hk | hk | hk | hk <;> (simp only [hk] at hz; exact hz)
  cases ins with
  | invokevirtual i =>
    obtain ⟨g, hg⟩ := hg0 h
    obtain ⟨h1, h2, h3⟩ := ab_kind_of (show ab_kind tb M i lk [0, 1, 10, 12] = true from hE.2) hg
    simp only [List.mem_cons, List.not_mem_nil, or_false] at h3
    by_cases h12 : g.2.2.1 = 12
    · refine ab_text_ok hV hC (hE.dec rfl) hP hl hcf hR hg h1 h2 h12 ?_ k
      have hz : ab_go tb cf M lk L st w cells slots = some q := h
      unfold ab_go at hz
      rw [hg] at hz
      simp only [h12] at hz
      exact hz
    · have h4 : g.2.2.1 = 0 ∨ g.2.2.1 = 1 ∨ g.2.2.1 = 10 := by omega
      exact ab_virt_ok hV hC (hE.dec rfl) hP hl hcf hR hg h1 h2 h4 (hin hg (by rcases h4 with z | z | z <;> simp [z]) h) k
  | invokespecial i =>
    obtain ⟨g, hg⟩ := hg0 h
    obtain ⟨h1, h2, h3⟩ := ab_kind_of (show ab_kind tb M i lk [4, 5, 9, 11, 13] = true from hE.2) hg
    simp only [List.mem_cons, List.not_mem_nil, or_false] at h3
    by_cases h9 : g.2.2.1 = 9
    · exact ab_obj_ok hV hC (hE.dec rfl) hP hl hR hg h1 h2 h9 h k
    · have h4 : g.2.2.1 = 4 ∨ g.2.2.1 = 5 ∨ g.2.2.1 = 11 ∨ g.2.2.1 = 13 := by omega
      exact ab_spec_ok hV hC (hE.dec rfl) hP hl hcf hR hg h1 h2 h4 (hin hg (by rcases h4 with z | z | z | z <;> simp [z]) h) k
  | invokestatic i =>
    obtain ⟨g, hg⟩ := hg0 h
    obtain ⟨h1, h2, h3⟩ := ab_kind_of (show ab_kind tb M i lk [2, 3, 6, 7, 8, 99] = true from hE.2) hg
    simp only [List.mem_cons, List.not_mem_nil, or_false] at h3
    by_cases h6 : g.2.2.1 = 6
    · exact ab_copy_ok hV hC (hE.dec rfl) hP hl hR hg h1 h2 h6 h k
    · by_cases h7 : g.2.2.1 = 7 ∨ g.2.2.1 = 8
      · exact ab_math_ok hV hC (hE.dec rfl) hP hl hR hg h1 h2 h7 h k
      · have h99 : g.2.2.1 ≠ 99 := by
          intro hk
          have hz : ab_go tb cf M lk L st w cells slots = some q := h
          unfold ab_go at hz
          rw [hg] at hz
          simp only [hk] at hz
          cases hz
        have h4 : g.2.2.1 = 2 ∨ g.2.2.1 = 3 := by omega
        refine ab_stat_ok hV hC (hE.dec rfl) hP hl hcf hR hg h1 h2 h4 ?_ k
        have hz : ab_go tb cf M lk L st w cells slots = some q := h
        unfold ab_go at hz
        rw [hg] at hz
        rcases h4 with hk | hk <;> (simp only [hk] at hz; exact hz)
  | _ => cases h
end ABN
