/-! THE ABSTRACT MACHINE IS SOUND: calls -/
/-- how the addresses go on -/
def ab_Ag (mc : Nat) (w w' : ab_W) (ad ad' : Nat → Nat) : Prop := w.length ≤ w'.length ∧ (∀ k, k < w.length → ad' k = ad k) ∧ (mc = 0 → ad' = ad)
theorem ab_Ag.rf {mc : Nat} {w w' : ab_W} {ad : Nat → Nat} (h : w'.length = w.length) : ab_Ag mc w w' ad ad := ⟨Nat.le_of_eq h.symm, fun _ _ => rfl, fun _ => rfl⟩
theorem ab_Ag.trans {mc : Nat} {w w1 w2 : ab_W} {ad ad1 ad2 : Nat → Nat} (h1 : ab_Ag mc w w1 ad ad1) (h2 : ab_Ag mc w1 w2 ad1 ad2) : ab_Ag mc w w2 ad ad2 :=
  ⟨Nat.le_trans h1.1 h2.1, fun k hk => (h2.2.1 k (Nat.lt_of_lt_of_le hk h1.1)).trans (h1.2.1 k hk), fun z => (h2.2.2 z).trans (h1.2.2 z)⟩
def ab_ws (ts : List (List Cond)) (M : ab_M) : List Cond := .code M.1 M.2.1 M.2.2.1 M.2.2.2.1 :: ts.flatten.filter goodWord
def ab_rm (d : Nat) (M : ab_M) : Room := { frames := d, cells := M.2.2.2.2.1, slots := M.2.2.2.2.2.1, locals := 64 * d }
def ab_In (tb : ab_TB) (ts : List (List Cond)) (D : va_G) (cT : Nat → ClassId) (sd : Nat → Nat) (sp : List (List Int32)) (ad : Nat → Nat) (w : ab_W) (sz : Nat) (U : State) : Prop :=
  U.heap.size = sz ∧ va_P D tb.2.2.2.2.2.1 (ab_w ad sd cT w) U.heap ∧ va_K D tb.2.2.2.2.2.1 (ab_tys cT) U ∧ va_D (fun _ => True) (ab_w ad sd cT w) ∧ (∀ x ∈ ts.flatten.filter ab_nw, va_Nw x U) ∧ ab_Sx sd sp (va_A (ab_w ad sd cT w) sz) U U.heap ∧ va_AO "ScrewLeft$Step" U ∧ ab_AOA U
def ab_Pre (tb : ab_TB) (ts : List (List Cond)) (D : va_G) (cT : Nat → ClassId) (sd : Nat → Nat) (sp : List (List Int32)) (ad : Nat → Nat) (As : List Value) (w : ab_W) (sz : Nat) : Array Value → State → Prop := va_Pc (As.map (ab_v ad sd)) (ab_In tb ts D cT sd sp ad w sz)
def ab_Post (tb : ab_TB) (D : va_G) (cT : Nat → ClassId) (sd : Nat → Nat) (ad : Nat → Nat) (w : ab_W) (sz mc : Nat) (r : Option Value) (w' : ab_W) : Array Value → State → Outcome → State → Prop := fun _ st oc t =>
  ∃ ad' : Nat → Nat, w.length ≤ w'.length ∧ (∀ k, k < w.length → ad' k = ad k) ∧ (mc = 0 → ad' = ad) ∧ oc = .returned (r.map (ab_v ad' sd)) ∧ va_P D tb.2.2.2.2.2.1 (ab_w ad' sd cT w') t.heap ∧ va_D (va_A (ab_w ad sd cT w) sz) (ab_w ad' sd cT w') ∧ va_F (va_A (ab_w ad sd cT w) sz) st t
def ab_Met (l : Launch) (d : Nat) (tb : ab_TB) (ts : List (List Cond)) (sp : List (List Int32)) (j : Nat) (As : List Value) (w : ab_W) (r : Option Value) (w' : ab_W) : Prop :=
  ∀ M, tb.2.2.2.2.1[j]? = some M → ∀ (D : va_G) (cT : Nat → ClassId) (sd ad : Nat → Nat) (sz : Nat), Met l M.1 (ab_ws ts M) (ab_rm d M) (ab_Pre tb ts D cT sd sp ad As w sz) (ab_Post tb D cT sd ad w sz M.2.2.2.2.1 r w') M.2.2.2.2.1 M.2.2.2.2.2.1 (va_A (ab_w ad sd cT w) sz)
def ab_cfOK (l : Launch) (d : Nat) (tb : ab_TB) (ts : List (List Cond)) (sp : List (List Int32)) (cf : ab_Cf) : Prop := ∀ (j : Nat) (As : List Value) (w : ab_W) (r : ab_R), cf j As w = some r → ab_Met l d tb ts sp j As w r.1 r.2
theorem ab_AOA.moved {u U : State} (hvm : u.vm.Alike U.vm) (h : ab_AOA u) : ab_AOA U := Jvm.Stand.arrayOver_alikeB hvm h
theorem ab_nw_tabs {x : Cond} (h : ab_nw x = true) : x.onTables = true := by cases x <;> first | rfl | cases h
theorem ab_nw_warm {x : Cond} (h : ab_nw x = true) {s U : State} (hW : s.WarmedH U.vm) (hZ : va_Nw x s) : va_Nw x U := by
  cases x <;> first | exact va_Nw.warmF hW hZ | exact va_Nw.warmM hW hZ | exact va_Nw.warmC hW hZ | cases h
section ABK
variable {p : Program} {l : Launch} {e : Env} {R : Room} {s : State} {m : MethodId} {args : Array Value} {below : List Frame} {meth : Method} {c : Code} {H : Heap} {locs : List Loc} {cells slots : Nat} {Q : State → Prop}
variable {pc lk : Nat} {ls : Array Slot} {ad sd : Nat → Nat} {tb : ab_TB} {ts : List (List Cond)} {M : ab_M} {D : va_G} {cT : Nat → ClassId} {A : Nat → Prop} {sp : List (List Int32)} {w w' : ab_W} {st st' : List Value}
theorem ab_blind {As : List Value} {sz : Nat} : FrameBlind (ab_Pre tb ts D cT sd sp ad As w sz) := by
  intro a U g mk q
  obtain ⟨q1, q2, q3, q4, q5, q6, q7, q8, q9⟩ := q
  refine ⟨q1, q2, q3, va_K.moved (u := U) (U := U.calling g mk a) (Vm.Alike.refl U.vm) q4, q5, fun x hx => va_Nw.same (u := U) (U := U.calling g mk a) (ab_nw_tabs (List.mem_filter.mp hx).2) rfl (q6 x hx), ?_, va_AO.moved (u := U) (U := U.calling g mk a) (Vm.Alike.refl U.vm) q8, ab_AOA.moved (u := U) (U := U.calling g mk a) (Vm.Alike.refl U.vm) q9⟩
  exact ⟨va_Z.moved (u := U) (U := U.calling g mk a) (Vm.Alike.refl U.vm) q7.1, fun j xs hj => va_T.moved (u := U) (U := U.calling g mk a) (Vm.Alike.refl U.vm) (q7.2.1 j xs hj), fun i hi => vk_R.same (u := U) (U := U.calling g mk a) rfl (q7.2.2.1 i hi), vk_S.moved (u := U) (U := U.calling g mk a) (Vm.Alike.refl U.vm) q7.2.2.2.1, va_Z.moved (u := U) (U := U.calling g mk a) (Vm.Alike.refl U.vm) q7.2.2.2.2⟩
theorem ab_sub (hC : ab_Cx tb ts p s m args meth c M D cT A sd sp) (hP : ab_P tb s D cT A ad sd w H locs) : ∀ q, va_A (ab_w ad sd cT w) H.size q → A q := by
  intro q hq
  rcases hq with ⟨k, x, hk⟩ | hq
  · exact hP.2.1.2 k _ hk
  · exact hC.2.2.2.2.2.2.2.2.2.2.1 q (Nat.le_trans hP.2.2.1 hq)
theorem ab_pre_of (hC : ab_Cx tb ts p s m args meth c M D cT A sd sp) (hP : ab_P tb s D cT A ad sd w H locs) {U : State} (hU : U.heap = H) (hW : s.WarmedH U.vm) : ab_In tb ts D cT sd sp ad w H.size U := by
  have hsub := ab_sub hC hP
  obtain ⟨-, -, -, -, -, -, -, -, hN, hK, -, hS, hAO, hAOA⟩ := hC
  refine ⟨by rw [hU], by rw [hU]; exact hP.1, va_K.moved hW.alike hK, hP.2.1.weaken (fun _ _ _ _ => trivial), fun x hx => ab_nw_warm (List.mem_filter.mp hx).2 hW (hN x hx), ?_, va_AO.moved hW.alike hAO, ab_AOA.moved hW.alike hAOA⟩
  rw [hU]
  exact ⟨((va_Z.moved hW.alike hS.1).kept hP.2.2.2.1).narrow hsub, fun j xs hj => ((va_T.moved hW.alike (hS.2.1 j xs hj)).kept hP.2.2.2.1).narrow hsub, fun i hi => (hS.2.2.1 i hi).warm hW, ((vk_S.moved hW.alike hS.2.2.2.1).kept hP.2.2.2.1).narrow hsub, ((va_Z.moved hW.alike hS.2.2.2.2).kept hP.2.2.2.1).narrow hsub⟩
theorem ab_after {mc ms : Nat} {r : Option Value} {st0 rest : List Value} {a : Array Value} (hC : ab_Cx tb ts p s m args meth c M D cT A sd sp) (hP : ab_P tb s D cT A ad sd w H locs) {mcj : Nat}
    (hr : va_Run p l e R s m args below meth c H locs cells slots mc ms (F0 m pc ls st0) rest (ab_Post tb D cT sd ad w H.size mcj r w' a) (va_A (ab_w ad sd cT w) H.size))
    (kk : ∀ (ad' : Nat → Nat) (H1 : Heap) (locs1 : List Loc), w.length ≤ w'.length → (∀ k, k < w.length → ad' k = ad k) → (mcj = 0 → ad' = ad) → ab_P tb s D cT A ad' sd w' H1 locs1 → W p l e R s m args below meth c H1 locs1 (cells + mc) (slots + ms) Q (F0 m (pc + 3) ls (r.toList.map (ab_v ad' sd) ++ rest))) : W p l e R s m args below meth c H locs cells slots Q (F0 m pc ls st0) := by
  have hsub := ab_sub hC hP
  intro T hT X
  obtain ⟨v, st₀, t, T', L, h0, X', hL, e1, e2, ⟨ad', hle, hag, hz, hoc, hP1, hD1, hF1⟩, st⟩ := hr T hT X
  have hv : v = r.map (ab_v ad' sd) := by cases hoc; rfl
  subst hv
  obtain ⟨hF1, hF2⟩ := hF1
  rw [h0] at hF1 hF2
  have hP' : ab_P tb s D cT A ad' sd w' T'.heap (locs ++ L) := by
    refine ⟨by rw [e1]; exact hP1, hD1.weaken (fun k q _ h => hsub q.1 h), Nat.le_trans hP.2.2.1 (by rw [e1]; exact hF1), fun q h1 h2 => ?_, fun q hq => ?_⟩
    · rw [e1, hF2 q (Nat.lt_of_lt_of_le h1 hP.2.2.1) (fun z => h2 (hsub q z))]
      exact hP.2.2.2.1 q h1 h2
    · rcases List.mem_append.mp hq with h | h
      · exact hP.2.2.2.2 q h
      · exact hsub _ (hL q h)
  obtain ⟨t2, a1, b1⟩ := kk ad' T'.heap (locs ++ L) hle hag hz hP' T' rfl X'
  refine ⟨t2, st t2 ?_, b1⟩
  have e9 : (r.map (ab_v ad' sd)).toList = r.toList.map (ab_v ad' sd) := by cases r <;> rfl
  rw [e9]
  exact a1
theorem ab_gT {l0 : List Cond} (h : ∀ x ∈ l0, x ∈ ts.flatten.filter goodWord) : GoodIn (ts.flatten.filter goodWord) l0 := fun x hx => ⟨h x hx, good_of_word (List.mem_filter.mp (h x hx)).2⟩
theorem ab_mt_of (hV : ab_V tb ts) {j : Nat} {Mj : ab_M} (h : ab_nth tb.2.2.2.2.1 j = some Mj) : Cond.code Mj.1 Mj.2.1 Mj.2.2.1 Mj.2.2.2.1 ∈ ts.flatten.filter goodWord ∧ Cond.initialized Mj.1.cls ∈ ts.flatten.filter goodWord ∧ Mj.2.2.1 ≤ 45 ∧ (Mj.1.cls ≠ "java/lang/invoke/MethodHandle" ∧ Mj.1.cls ≠ "java/lang/invoke/VarHandle") ∧ plainName Mj.1.cls = true := by
  have h1 := ab_all_at hV.2.2.2.2.1 h
  unfold ab_mOK at h1
  simp only [Bool.and_eq_true] at h1
  obtain ⟨⟨⟨⟨a1, a2⟩, a3⟩, a4⟩, a5⟩ := h1
  unfold ab_plain at a4
  rw [Bool.and_eq_true] at a4
  exact ⟨List.mem_filter.mpr ⟨ab_has_mem a1, rfl⟩, List.mem_filter.mpr ⟨ab_has_mem a2, rfl⟩, Nat.le_of_ble_eq_true a3, ⟨of_decide_eq_true a4.1, of_decide_eq_true a4.2⟩, a5⟩
theorem ab_ws_in (hV : ab_V tb ts) {j : Nat} {Mj : ab_M} (h : ab_nth tb.2.2.2.2.1 j = some Mj) : ∀ x ∈ ab_ws ts Mj, x ∈ ts.flatten.filter goodWord := by
  intro x hx
  rcases List.mem_cons.mp hx with rfl | hx
  · exact (ab_mt_of hV h).1
  · exact hx
/-- what ab_inv's yes gives -/
theorem ab_inv_of {cf : ab_Cf} {j : Nat} {As rest : List Value} {L : ab_Lo} {cn sn : Nat} {q : List Value × ab_W × Nat × Nat} (h : ab_inv tb cf M j As L rest w cn sn = some q) : ∃ (Mj : ab_M) (r : ab_R), ab_nth tb.2.2.2.2.1 j = some Mj ∧ cf j As w = some r ∧ q = (r.1.toList ++ rest, r.2, cn + Mj.2.2.2.2.1, sn + Mj.2.2.2.2.2.1) ∧ (rest.map fun v => v.category).sum ≤ 8 ∧ cn + Mj.2.2.2.2.1 ≤ M.2.2.2.2.1 ∧ sn + Mj.2.2.2.2.2.1 ≤ M.2.2.2.2.2.1 ∧ (Mj.2.2.2.2.1 = 0 ∨ (ab_okL w.length L = true ∧ rest.all (ab_okv w.length) = true)) := by
  unfold ab_inv at h
  split at h
  · cases h
  · rename_i Mj hj
    cases hb : (ab_room rest && Nat.ble (cn + Mj.2.2.2.2.1) M.2.2.2.2.1 && Nat.ble (sn + Mj.2.2.2.2.2.1) M.2.2.2.2.2.1 && (Nat.beq Mj.2.2.2.2.1 0 || (ab_okL w.length L && rest.all (ab_okv w.length)))) with
    | false => rw [hb] at h; cases h
    | true =>
      rw [hb] at h
      simp only [cond_true] at h
      split at h
      · rename_i r hr
        cases h
        simp only [Bool.and_eq_true, Bool.or_eq_true] at hb
        obtain ⟨⟨⟨b1, b2⟩, b3⟩, b4⟩ := hb
        refine ⟨Mj, r, hj, hr, rfl, Nat.le_of_ble_eq_true b1, Nat.le_of_ble_eq_true b2, Nat.le_of_ble_eq_true b3, ?_⟩
        rcases b4 with b4 | b4
        · exact Or.inl (Nat.eq_of_beq_eq_true b4)
        · exact Or.inr b4
      · cases h
theorem ab_v_agree {ad' : Nat → Nat} {n : Nat} (hag : ∀ k, k < n → ad' k = ad k) {v : Value} (h : ab_okv n v = true) : ab_v ad' sd v = ab_v ad sd v := by
  cases v with
  | ref k =>
    simp only [ab_okv, Bool.or_eq_true] at h
    show Value.ref (ab_r ad' sd k) = .ref (ab_r ad sd k)
    cases hb : Nat.ble ab_B k with
    | true => rw [ab_r_hi hb, ab_r_hi hb]
    | false =>
      rw [ab_r_lo hb, ab_r_lo hb]
      rcases h with h | h
      · rw [hag k (Nat.le_of_ble_eq_true h)]
      · rw [hb] at h; cases h
  | _ => rfl
theorem ab_st_agree {ad' : Nat → Nat} {n : Nat} (hag : ∀ k, k < n → ad' k = ad k) {rest : List Value} (h : rest.all (ab_okv n) = true) : rest.map (ab_v ad' sd) = rest.map (ab_v ad sd) :=
  List.map_congr_left (fun v hv => ab_v_agree hag (List.all_eq_true.mp h v hv))
theorem ab_L_agree {ad' : Nat → Nat} {n : Nat} (hag : ∀ k, k < n → ad' k = ad k) {L : ab_Lo} (h : ab_okL n L = true) : ab_l ad' sd L = ab_l ad sd L :=
  List.map_congr_left (fun q hq => by rw [ab_v_agree hag (List.all_eq_true.mp h q hq)])
theorem ab_cat_sum (rest : List Value) : ((rest.map (ab_v ad sd)).map fun v => v.category).sum = (rest.map fun v => v.category).sum := by
  rw [List.map_map]
  congr 1
  exact List.map_congr_left (fun v _ => ab_v_cat ad sd v)
/-- a call that runs goes on -/
theorem ab_inv_go {cf : ab_Cf} {j n : Nat} {As rest : List Value} {L : ab_Lo} {q : List Value × ab_W × Nat × Nat} {st0 : List Value} (hC : ab_Cx tb ts p s m args meth c M D cT A sd sp) (hP : ab_P tb s D cT A ad sd w H locs) (hl : lv_has ls n (ab_l ad sd L)) (h : ab_inv tb cf M j As L rest w cells slots = some q)
    (hrun : ∀ (Mj : ab_M) (r : ab_R), ab_nth tb.2.2.2.2.1 j = some Mj → cf j As w = some r → ((rest.map (ab_v ad sd)).map fun v => v.category).sum ≤ 8 → cells + Mj.2.2.2.2.1 ≤ M.2.2.2.2.1 → slots + Mj.2.2.2.2.2.1 ≤ M.2.2.2.2.2.1 → ∃ a : Array Value, va_Run p l e R s m args below meth c H locs cells slots Mj.2.2.2.2.1 Mj.2.2.2.2.2.1 (F0 m pc ls st0) (rest.map (ab_v ad sd)) (ab_Post tb D cT sd ad w H.size Mj.2.2.2.2.1 r.1 r.2 a) (va_A (ab_w ad sd cT w) H.size))
    (k : ∀ (ad' : Nat → Nat) (H' : Heap) (locs' : List Loc), ab_P tb s D cT A ad' sd q.2.1 H' locs' → lv_has ls n (ab_l ad' sd L) → ab_Ag M.2.2.2.2.1 w q.2.1 ad ad' → W p l e R s m args below meth c H' locs' q.2.2.1 q.2.2.2 Q (F0 m (pc + 3) ls (q.1.map (ab_v ad' sd)))) : W p l e R s m args below meth c H locs cells slots Q (F0 m pc ls st0) := by
  obtain ⟨Mj, r, hj, hr, rfl, h1, h2, h3, h4⟩ := ab_inv_of h
  obtain ⟨a, hrun⟩ := hrun Mj r hj hr (by rw [ab_cat_sum]; exact h1) h2 h3
  refine ab_after hC hP hrun (fun ad' H1 locs1 hle hag hz hP1 => ?_)
  have hL : ab_l ad' sd L = ab_l ad sd L ∧ rest.map (ab_v ad' sd) = rest.map (ab_v ad sd) := by
    rcases h4 with h4 | h4
    · rw [hz h4]; exact ⟨rfl, rfl⟩
    · exact ⟨ab_L_agree hag h4.1, ab_st_agree hag h4.2⟩
  have := k ad' H1 locs1 hP1 (by rw [hL.1]; exact hl) ⟨hle, hag, fun z => hz (by omega)⟩
  rw [List.map_append, hL.2] at this
  exact this
end ABK
