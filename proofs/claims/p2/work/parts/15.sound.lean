/-! THE ABSTRACT MACHINE IS SOUND: every method that its tables name keeps the contract that a run of it gives -/
theorem ab_sl_len (vs : List Value) : (lg_sl vs).length = (vs.map fun v => v.category).sum := by
  induction vs with
  | nil => rfl
  | cons v vs ih =>
    unfold lg_sl at ih ⊢
    rw [List.flatMap_cons, List.length_append, List.map_cons, List.sum_cons, ih]
    rcases lv_cat v with h | h
    · rw [if_neg (by omega), h]; rfl
    · rw [if_pos h, h]; rfl
theorem ab_args_l (ad sd : Nat → Nat) : ∀ (vs : List Value) (i : Nat), lv_args i (vs.map (ab_v ad sd)) = ab_l ad sd (lv_args i vs)
  | [], _ => rfl
  | v :: vs, i => by
    rw [List.map_cons]
    unfold lv_args
    rw [ab_v_cat, ab_args_l ad sd vs]
    rfl
section ABS
variable {tb : ab_TB} {ts : List (List Cond)} {sp : List (List Int32)}
theorem ab_fetch_E (hV : ab_V tb ts) {M : ab_M} (hM : M ∈ tb.2.2.2.2.1) : ∀ (pc : Nat) (x : ab_I), ab_fetch M.2.2.2.2.2.2.2 pc = some x → ab_E tb ts M pc x.1 x.2 :=
  fun _ _ hx => ab_E.of (ab_fetch_ok (hV.2.2.2.2.2.1 M hM) hx)
theorem ab_ret_ok {p : Program} {l : Launch} {e : Env} {R : Room} {s : State} {m : MethodId} {args : Array Value} {below : List Frame} {meth : Method} {c : Code} {H : Heap} {locs : List Loc} {cells slots mc ms pc : Nat} {ls : Array Slot} {M : ab_M} {ins : Instr} {lk : Nat} {st : List Value} {v : Option Value} {ad sd : Nat → Nat} {Qc : Array Value → State → Outcome → State → Prop} {free : Addr → Prop}
    (hx : p.tables.exec = Jvm.exec) (hb : c.code = M.2.1) (hr : meth.sig.returnType = M.2.2.2.1) (hlk : meth.locks = false) (h : ab_ret M.2.2.2.1 ins st = some v) (hE : ab_E tb ts M pc ins lk)
    (hq : ∀ t : State, t.heap = H → s.WarmedH t.vm → Qc args s (.returned (v.map (ab_v ad sd))) t) (hf : ∀ q ∈ locs, free q.base) (h1 : cells ≤ mc) (h2 : slots ≤ ms) : W p l e R s m args below meth c H locs cells slots (MQ below Qc args s mc ms free) (F0 m pc ls (st.map (ab_v ad sd))) := by
  refine W.widen h1 h2 ?_
  cases ins with
  | ireturn =>
    have hd := hE.dec rfl
    simp only [ab_ret] at h
    split at h
    · rename_i x
      split at h
      · rename_i hret
        cases h
        exact W.iret hx hb (hr.trans hret) hq hf hd hlk
      · rename_i hret
        cases hc : (decide (x = 0) || decide (x = 1)) with
        | false => rw [hc] at h; cases h
        | true =>
          rw [hc] at h
          cases h
          simp only [Bool.or_eq_true, decide_eq_true_eq] at hc
          have hn : narrow .boolean (.int x) = .int x := by
            rcases hc with rfl | rfl
            · decide +kernel
            · decide +kernel
          exact W.zret hx hb (hr.trans hret) hn hq hf hd hlk
      · rename_i hret
        cases hc : decide (x = 0) with
        | false => rw [hc] at h; cases h
        | true =>
          rw [hc] at h
          cases h
          have hx0 : x = 0 := of_decide_eq_true hc
          have hn : narrow .byte (.int x) = .int x := by rw [hx0]; decide +kernel
          exact W.zret hx hb (hr.trans hret) hn hq hf hd hlk
      · cases h
    · cases h
  | return_ =>
    have hd := hE.dec rfl
    simp only [ab_ret] at h
    split at h
    · split at h
      · rename_i hret
        cases h
        exact W.vret hx hb (hr.trans hret) hq hf hd hlk
      · cases h
    · cases h
  | areturn =>
    have hd := hE.dec rfl
    simp only [ab_ret] at h
    split at h
    · rename_i x
      split at h
      · rename_i n hret
        cases h
        exact W.aret hx hb (hr.trans hret) (Or.inl ⟨n, rfl⟩) (Or.inr ⟨_, rfl⟩) hq hf hd hlk
      · rename_i n hret
        cases h
        exact W.aret hx hb (hr.trans hret) (Or.inr ⟨n, rfl⟩) (Or.inr ⟨_, rfl⟩) hq hf hd hlk
      · cases h
    · cases h
  | _ => cases h
theorem ab_sound (hV : ab_V tb ts) (l : Launch) (n : Nat) : ∀ d : Nat, ab_cfOK l d tb ts sp (ab_call tb sp n d)
  | 0 => fun j As w r h => by cases h
  | d + 1 => fun j As w r h => by
    intro M hM D cT sd ad sz
    unfold ab_call at h
    rw [ab_nth_eq, hM] at h
    dsimp only at h
    cases hs : Nat.ble ((As.map fun v => v.category).sum) M.2.2.1 with
    | false => rw [hs] at h; cases h
    | true =>
      rw [hs] at h
      simp only [cond_true] at h
      have hmem : M ∈ tb.2.2.2.2.1 := List.mem_of_getElem? hM
      have hM' : ab_nth tb.2.2.2.2.1 j = some M := by rw [ab_nth_eq]; exact hM
      refine Met.ofW (cc := M.2.1) (maxL := M.2.2.1) (ret := M.2.2.2.1) (ab_mt_of hV hM').2.2.2.2 rfl ?_
      intro p e s m args below meth c s₁ B hml hv
      obtain ⟨rfl, hsz, hP, hK, hD0, hN, hS, hAO, hAOA⟩ := hv
      have hts := atoms_spec (ws := ab_ws ts M) B.pre
      subst hsz
      have hC : ab_Cx tb ts p s m ((As.map (ab_v ad sd)).toArray) meth c M D cT (va_A (ab_w ad sd cT w) s.heap.size) sd sp :=
        ⟨B.exec, B.bytes, hml, findClass_of_methodNamed B.named, fun h => (name_of_methodNamed B.named B.method).1.trans h, B.returns, B.notSynchronized, fun x hx => hts x (List.mem_cons_of_mem _ hx), hN, hK, fun q hq => Or.inr hq, hS, hAO, hAOA⟩
      have hl := lv_entry (As.map (ab_v ad sd)) (n := M.2.2.1) (by rw [ab_sl_len, ab_cat_sum]; exact Nat.le_of_ble_eq_true hs)
      rw [ab_args_l] at hl
      rw [lg_entry_eq]
      have hR : ab_Rm (ab_rm (d + 1) M) M d := ⟨Nat.le_refl _, Nat.le_refl _, rfl, rfl⟩
      refine ab_run_ok (Q := MQ below (ab_Post tb D cT sd ad w s.heap.size M.2.2.2.2.1 r.1 r.2) ((As.map (ab_v ad sd)).toArray) s M.2.2.2.2.1 M.2.2.2.2.2.1 (va_A (ab_w ad sd cT w) s.heap.size)) (R := ab_rm (d + 1) M) (below := below) (e := e) (sp := sp) (w0 := w) (ad0 := ad) hV hC (ab_fetch_E hV hmem) (ab_sound hV l n d) hR ?_ n (0, lv_args 0 As, [], w, 0, 0) ad s.heap [] _ h ⟨hP, hD0.self, va_S.rf⟩ hl (ab_Ag.rf rfl) (Nat.zero_le _) (Nat.zero_le _)
      intro ad' H locs cells slots pc lk ins st ls hag hend
      obtain ⟨hP', hret, hE, hc, hsl⟩ := hend
      exact ab_ret_ok hC.1 hC.2.1 hC.2.2.2.2.2.1 hC.2.2.2.2.2.2.1 hret hE (fun t ht hW => ⟨ad', hag.1, hag.2.1, hag.2.2, rfl, by rw [ht]; exact hP'.1, hP'.2.1, hP'.2.2.F ht⟩) hP'.2.2.2.2 hc hsl
end ABS
theorem ab_cfOK.weaken {l : Launch} {d : Nat} {tb : ab_TB} {ts : List (List Cond)} {sp0 sp : List (List Int32)} {cf : ab_Cf} (hsub : ∀ (j : Nat) (xs : List Int32), sp0[j]? = some xs → sp[j]? = some xs) (h : ab_cfOK l d tb ts sp0 cf) : ab_cfOK l d tb ts sp cf := by
  intro j As w r hr M hM D cT sd ad sz p e h1 h2 h3 s m args below hf ha hP hK
  refine h j As w r hr M hM D cT sd ad sz p e h1 h2 h3 s m args below hf ha ?_ hK
  obtain ⟨q1, q2, q3, q4, q5, q6, q7, q8, q9⟩ := hP
  exact ⟨q1, q2, q3, q4, q5, q6, ⟨q7.1, fun j xs hj => q7.2.1 j xs (hsub j xs hj), q7.2.2⟩, q8, q9⟩
