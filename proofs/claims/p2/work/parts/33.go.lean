/-! THE FACE: what is only thought -/
def OT (X X' : Nat → Nat → Int32) : Prop := ∀ c, (c < 35 ∨ 35 + 12 < c) → X' c = X c
def RO (v : Int32) (X : Nat → Nat → Int32) : ab_R → Prop := fun r => ∃ X' Z', r = (some (.int v), Wd X' Z') ∧ OT X X'
theorem OT.rf (X : Nat → Nat → Int32) : OT X X := fun _ _ => rfl
theorem OT.trans {X Y V : Nat → Nat → Int32} (h : OT X Y) (h2 : OT Y V) : OT X V := fun c hc => (h2 c hc).trans (h c hc)
theorem OT.j9 {X X' : Nat → Nat → Int32} (h : OT X X') : jx X' 9 = jx X 9 := jx_off (fun c _ hc => h c (Or.inl (by omega)))
theorem OT.ud {X X' : Nat → Nat → Int32} (h : OT X X') {c k : Nat} {v : Int32} (hc : 35 ≤ c ∧ c ≤ 47) : OT X (ud X' c k v) := fun q hq => by rw [ud_ne (by omega)]; exact h q hq
theorem OT.fin {X X' : Nat → Nat → Int32} (h : OT X X') {k : Nat} : OT X (xFin X' 35 k) := fun q hq => by rw [xFin_off (by omega)]; exact h q hq
theorem OT.pass {X X' : Nat → Nat → Int32} (h : OT X X') {k : Nat} : OT X (xPass X' 35 k) := fun q hq => by rw [xPass_off (by omega)]; exact h q hq
theorem OT.unpass {X X' : Nat → Nat → Int32} (h : OT X X') {k : Nat} {g t : Int32} : OT X (xUnpass X' 35 k g t) := fun q hq => by rw [xUnpass_off (by omega)]; exact h q hq
theorem RO_of {v x : Int32} {X X' Z : Nat → Nat → Int32} (h : x = v) (ho : OT X X') : RO v X (some (.int x), Wd X' Z) := ⟨X', Z, by rw [h], ho⟩
theorem ud_ud (X : Nat → Nat → Int32) (c k : Nat) (v u : Int32) : ud (ud X c k v) c k u = ud X c k u := by
  funext i j
  simp only [ud_at]
  by_cases h : i = c
  · subst h
    by_cases hj : j = k
    · subst hj; simp
    · simp [hj]
  · simp [h]
theorem ud_id (X : Nat → Nat → Int32) (c k : Nat) : ud X c k (X c k) = X := by
  funext i j
  simp only [ud_at]
  by_cases h : i = c
  · subst h
    by_cases hj : j = k
    · subst hj; simp
    · simp [hj]
  · simp [h]
section ERV
variable {d pc pc' lk : Nat} {M : ab_M} {L L' : ab_Lo} {st : List Value} {w : ab_W} {P : ab_R → Prop} {X Z : Nat → Nat → Int32}
theorem er_cIt (cls : Nat) {c j b p : Nat} {ins : Instr} {fs As rest : List Value} (hf : ab_fetch M.2.2.2.2.2.2.2 pc = some (ins, lk)) (hi : isCI ins = true) (hq : qI lk cls st = some (c, j, As, rest)) (hc : Nat.blt c 79 = true) (ho : cO c (X c) (Z c) = .inl (cls, fs)) (hp : pc + 3 = pc') (h : EC d j As (Wd X Z) (TK X b p)) (k : ∀ X' Z', jx X' b = jx X p → (∀ c, (c < b ∨ b + 12 < c) → X' c = X c) → ER d M pc' L rest (Wd X' Z') P) : ER d M pc L st (Wd X Z) P :=
  er_cI cls hf hi hq hc ho hp h (fun r hr => by obtain ⟨X', Z', rfl, h1, h2⟩ := hr; exact k X' Z' h1 h2)
theorem er_cIo (cls : Nat) {c j : Nat} {v : Int32} {ins : Instr} {fs As rest : List Value} (hf : ab_fetch M.2.2.2.2.2.2.2 pc = some (ins, lk)) (hi : isCI ins = true) (hq : qI lk cls st = some (c, j, As, rest)) (hc : Nat.blt c 79 = true) (ho : cO c (X c) (Z c) = .inl (cls, fs)) (hp : pc + 3 = pc') (h : EC d j As (Wd X Z) (RO v X)) (k : ∀ X' Z', OT X X' → ER d M pc' L (.int v :: rest) (Wd X' Z') P) : ER d M pc L st (Wd X Z) P :=
  er_cI cls hf hi hq hc ho hp h (fun r hr => by obtain ⟨X', Z', rfl, h1⟩ := hr; exact k X' Z' h1)
end ERV
def gD (J : Nat → Nat → Int32) (s : Int32) (a : Nat) : Nat → Int32 → Int32
  | 0, t => t
  | m + 1, t => gD J s a m (if sBit s (nI (a + m)) = true then t + sBack (ud J 0 10 t) (a + m) else t)
def gU (J : Nat → Nat → Int32) (s : Int32) : Nat → Nat → Int32 → Int32
  | 0, _, t => t
  | m + 1, i, t => gU J s m (i + 1) (if sBit s (nI i) = true then t + sLasts (ud J 0 10 t) i else t)
def sGoM (J : Nat → Nat → Int32) (k : Nat) : Int32 := gU J (sGoSet J k) (jn J - k) k (gD J (sGoSet J k) k (jn J - k) (J 0 10)) - J 0 10
theorem nI_m1_lt {k : Nat} (h : k ≤ 8) : nI k - nI 1 < nI k := fin_le (m := 8) (p := fun k => nI k - nI 1 < nI k) h (by decide +kernel)
theorem nI_s1 (m : Nat) : nI (m + 1) - nI 1 = nI m := nI_sub (show 1 ≤ m + 1 by omega)
set_option maxRecDepth 100000 in
set_option maxHeartbeats 4000000 in
theorem l_gd_loop (d : Nat) {X : Nat → Nat → Int32} {T0 : Nat} (hI : IJ T0 (jx X 9)) {k : Nat} (hk : k < jn (jx X 9)) (s : Int32) (P : ab_R → Prop) : ∀ (m T : Nat) (X1 Z : Nat → Nat → Int32) (t x : Int32), x = nI (k + m) - nI 1 → OT X X1 → jx X1 35 = ud (jx X 9) 0 10 t → IJ T (ud (jx X 9) 0 10 t) → k + m ≤ jn (jx X 9) ∧ T + 300 * m < 1000000000 → (∀ X2 Z2 t2 x2, OT X X2 → jx X2 35 = ud (jx X 9) 0 10 t2 → IJ (T + 300 * m) (ud (jx X 9) 0 10 t2) → t2 = gD (jx X 9) s k m t → ER (d + 5) tb_m100 74 [(0, .ref 0), (1, .int (nI k)), (2, .int s), (3, .int x2)] [] (Wd X2 Z2) P) → ER (d + 5) tb_m100 35 [(0, .ref 0), (1, .int (nI k)), (2, .int s), (3, .int x)] [] (Wd X1 Z) P
  | 0, T, X1, Z, t, x, hx, ho, hj, hI1, hb, hP => by
    have h8 := jn8 hI
    subst hx
    refine er_loc (pc' := 36) rfl rfl rfl ?_
    refine er_loc (pc' := 37) rfl rfl rfl ?_
    refine er_cm_ltT rfl (nI_m1_lt (by omega)) ?_
    exact hP X1 Z t _ ho hj (hI1.mono (by omega)) rfl
  | m + 1, T, X1, Z, t, x, hx, ho, hj, hI1, hb, hP => by
    have h8 := jn8 hI
    have hI0 : IJ T (ud (jx X 9) 0 10 t) := hI1
    rw [show k + (m + 1) = (k + m) + 1 from rfl, nI_s1] at hx
    subst hx
    have hT : IJ T (jx X1 35) := by rw [hj]; exact hI1
    have hkT : k + m < jn (jx X1 35) := by
      rw [hj]
      show k + m < jn (jx X 9)
      omega
    have htm : X1 35 10 = t := by
      have e : jx X1 35 0 10 = t := by rw [hj]; exact ud_same _ _ _ _ ▸ u1_same _ _ _
      exact e
    refine er_loc (pc' := 36) rfl rfl rfl ?_
    refine er_loc (pc' := 37) rfl rfl rfl ?_
    refine er_cm_ltF (pc' := 40) rfl (nI_nlt (a := k + m) (by omega) (by omega)) rfl ?_
    refine er_loc (pc' := 41) rfl rfl rfl ?_
    refine er_loc (pc' := 42) rfl rfl rfl ?_
    refine er_cSi (pc' := 45) (rest := []) rfl rfl rfl (l_isIn _ _ _ _) ?_
    refine er_if_eqb (pc' := 48) rfl rfl (fun h45 => ?_) (fun h45 => ?_)
    · refine er_loc (L' := [(3, .int (_ + (-1))), (0, _), (1, _), (2, _)]) rfl rfl rfl ?_
      refine er_goto rfl ?_
      refine ER_loc [(0, _), (1, _), (2, _), (3, _)] rfl (List.forall_mem_cons.mpr ⟨rfl, List.forall_mem_cons.mpr ⟨rfl, List.forall_mem_cons.mpr ⟨rfl, List.forall_mem_cons.mpr ⟨rfl, fun _ h => absurd h List.not_mem_nil⟩⟩⟩⟩) rfl rfl ?_
      have e2 : gD (jx X 9) s k (m + 1) t = gD (jx X 9) s k m t := by show gD _ _ _ _ (if _ then _ else _) = _; rw [if_neg (by rw [h45]; decide)]
      refine l_gd_loop d hI hk s P m (T + 300) _ _ _ _ (by rw [Int32.sub_eq_add_neg]; rfl) ho hj (hI1.mono (by omega)) (by omega) ?_
      intro X2 Z2 t2 x2 a1 a2 a3 a4
      exact hP X2 Z2 t2 x2 a1 a2 (by rw [show T + 300 * (m + 1) = T + 300 + 300 * m by omega]; exact a3) (a4.trans e2.symm)
    · refine er_loc (pc' := 49) rfl rfl rfl ?_
      refine er_gf (pc' := 52) (_) rfl rfl rfl rfl rfl ?_
      refine er_pure (pc' := 53) rfl rfl rfl ?_
      refine er_gf (pc' := 56) (.int t) rfl rfl rfl (by rw [← htm]; rfl) rfl ?_
      refine er_loc (pc' := 57) rfl rfl rfl ?_
      refine er_gf (pc' := 60) (_) rfl rfl rfl rfl rfl ?_
      refine er_loc (pc' := 61) rfl rfl rfl ?_
      refine er_cIz (pc' := 64) (rest := [_, _]) 7 rfl rfl rfl rfl rfl rfl (l_takesBack _ j35 _ _ hT hkT) ?_
      intro Z2
      refine er_iadd (pc' := 65) rfl rfl ?_
      refine er_pfIX (pc' := 68) 10 rfl rfl rfl rfl rfl rfl ?_
      refine er_loc (L' := [(3, .int (_ + (-1))), (0, _), (1, _), (2, _)]) rfl rfl rfl ?_
      refine er_goto rfl ?_
      refine ER_loc [(0, _), (1, _), (2, _), (3, _)] rfl (List.forall_mem_cons.mpr ⟨rfl, List.forall_mem_cons.mpr ⟨rfl, List.forall_mem_cons.mpr ⟨rfl, List.forall_mem_cons.mpr ⟨rfl, fun _ h => absurd h List.not_mem_nil⟩⟩⟩⟩) rfl rfl ?_
      have e2 : gD (jx X 9) s k (m + 1) t = gD (jx X 9) s k m (t + sBack (ud (jx X 9) 0 10 t) (k + m)) := by show gD _ _ _ _ (if _ then _ else _) = _; rw [if_pos h45]
      refine l_gd_loop d hI hk s P m (T + 300) _ _ (t + sBack (ud (jx X 9) 0 10 t) (k + m)) _ (by rw [Int32.sub_eq_add_neg]; rfl) (OT.ud ho (by omega)) (by rw [jx_ud0 rfl, hj, ud_ud]) (IJ.uMin hI (hI1.minute.add (back300 hI1 _) (by omega))) (by omega) ?_
      intro X2 Z2 t2 x2 a1 a2 a3 a4
      exact hP X2 Z2 t2 x2 a1 a2 (by rw [show T + 300 * (m + 1) = T + 300 + 300 * m by omega]; exact a3) (a4.trans e2.symm)
set_option maxRecDepth 100000 in
set_option maxHeartbeats 4000000 in
theorem l_gu_loop (d : Nat) {X : Nat → Nat → Int32} {T0 : Nat} (hI : IJ T0 (jx X 9)) {k0 : Int32} (s v : Int32) (P : ab_R → Prop) : ∀ (m i T : Nat) (X1 Z : Nat → Nat → Int32) (t x : Int32), i + m = jn (jx X 9) → x = nI i → OT X X1 → jx X1 35 = ud (jx X 9) 0 10 t → IJ T (ud (jx X 9) 0 10 t) → T + 300 * m < 1000000000 → gU (jx X 9) s m i t = v → (∀ r, RO (v - X 9 10) X r → P r) → ER (d + 5) tb_m100 76 [(0, .ref 0), (1, .int k0), (2, .int s), (3, .int x)] [] (Wd X1 Z) P
  | 0, i, T, X1, Z, t, x, hi, hx, ho, hj, hI1, hb, hv, hP => by
    have h8 := jn8 hI
    have hi0 : i = jn (jx X 9) := by omega
    subst hx
    subst hi0
    have htm : X1 35 10 = t := by
      have e : jx X1 35 0 10 = t := by rw [hj]; exact ud_same _ _ _ _ ▸ u1_same _ _ _
      exact e
    refine er_loc (pc' := 77) rfl rfl rfl ?_
    refine er_loc (pc' := 78) rfl rfl rfl ?_
    refine er_gf (pc' := 81) (_) rfl rfl rfl rfl rfl ?_
    refine er_gf (pc' := 84) (.int (X1 9 1)) rfl rfl rfl rfl rfl ?_
    rw [show X1 9 1 = nI (jn (jx X 9)) from by rw [ho 9 (by omega)]; exact hI.n.1]
    refine er_cm_geT rfl (nI_nlt (by omega) (by omega)) ?_
    refine er_loc (pc' := 122) rfl rfl rfl ?_
    refine er_gf (pc' := 125) (_) rfl rfl rfl rfl rfl ?_
    refine er_gf (pc' := 128) (.int t) rfl rfl rfl (by rw [← htm]; rfl) rfl ?_
    refine er_loc (pc' := 129) rfl rfl rfl ?_
    refine er_gf (pc' := 132) (_) rfl rfl rfl rfl rfl ?_
    refine er_gf (pc' := 135) (.int (X1 9 10)) rfl rfl rfl rfl rfl ?_
    rw [ho 9 (by omega)]
    refine er_isub (pc' := 136) rfl rfl ?_
    refine er_iret rfl rfl ?_
    refine hP _ ⟨X1, Z, by rw [show t = v from hv], ho⟩
  | m + 1, i, T, X1, Z, t, x, hi, hx, ho, hj, hI1, hb, hv, hP => by
    have h8 := jn8 hI
    subst hx
    have hT : IJ T (jx X1 35) := by rw [hj]; exact hI1
    have hkT : i < jn (jx X1 35) := by
      rw [hj]
      show i < jn (jx X 9)
      omega
    have htm : X1 35 10 = t := by
      have e : jx X1 35 0 10 = t := by rw [hj]; exact ud_same _ _ _ _ ▸ u1_same _ _ _
      exact e
    refine er_loc (pc' := 77) rfl rfl rfl ?_
    refine er_loc (pc' := 78) rfl rfl rfl ?_
    refine er_gf (pc' := 81) (_) rfl rfl rfl rfl rfl ?_
    refine er_gf (pc' := 84) (.int (X1 9 1)) rfl rfl rfl rfl rfl ?_
    rw [show X1 9 1 = nI (jn (jx X 9)) from by rw [ho 9 (by omega)]; exact hI.n.1]
    refine er_cm_geF (pc' := 87) rfl (nI_lt (by omega) (by omega)) rfl ?_
    refine er_loc (pc' := 88) rfl rfl rfl ?_
    refine er_loc (pc' := 89) rfl rfl rfl ?_
    refine er_cSi (pc' := 92) (rest := []) rfl rfl rfl (l_isIn _ _ _ _) ?_
    refine er_if_eqb (pc' := 95) rfl rfl (fun h92 => ?_) (fun h92 => ?_)
    · refine er_loc (L' := [(3, .int (_ + nI 1)), (0, _), (1, _), (2, _)]) rfl rfl rfl ?_
      refine er_goto rfl ?_
      refine ER_loc [(0, _), (1, _), (2, _), (3, _)] rfl (List.forall_mem_cons.mpr ⟨rfl, List.forall_mem_cons.mpr ⟨rfl, List.forall_mem_cons.mpr ⟨rfl, List.forall_mem_cons.mpr ⟨rfl, fun _ h => absurd h List.not_mem_nil⟩⟩⟩⟩) rfl rfl ?_
      refine l_gu_loop d hI s v P m (i + 1) (T + 300) _ _ _ _ (by omega) (nI_add i 1) ho hj (hI1.mono (by omega)) (by omega) ?_ hP
      rw [← hv]; show _ = gU _ _ _ _ (if _ then _ else _); rw [if_neg (by rw [h92]; decide)]
    · refine er_loc (pc' := 96) rfl rfl rfl ?_
      refine er_gf (pc' := 99) (_) rfl rfl rfl rfl rfl ?_
      refine er_pure (pc' := 100) rfl rfl rfl ?_
      refine er_gf (pc' := 103) (.int t) rfl rfl rfl (by rw [← htm]; rfl) rfl ?_
      refine er_loc (pc' := 104) rfl rfl rfl ?_
      refine er_gf (pc' := 107) (_) rfl rfl rfl rfl rfl ?_
      refine er_loc (pc' := 108) rfl rfl rfl ?_
      refine er_cIz (pc' := 111) (rest := [_, _]) 7 rfl rfl rfl rfl rfl rfl (l_lasts _ j35 _ _ hT hkT) ?_
      intro Z2
      refine er_iadd (pc' := 112) rfl rfl ?_
      refine er_pfIX (pc' := 115) 10 rfl rfl rfl rfl rfl rfl ?_
      refine er_loc (L' := [(3, .int (_ + nI 1)), (0, _), (1, _), (2, _)]) rfl rfl rfl ?_
      refine er_goto rfl ?_
      refine ER_loc [(0, _), (1, _), (2, _), (3, _)] rfl (List.forall_mem_cons.mpr ⟨rfl, List.forall_mem_cons.mpr ⟨rfl, List.forall_mem_cons.mpr ⟨rfl, List.forall_mem_cons.mpr ⟨rfl, fun _ h => absurd h List.not_mem_nil⟩⟩⟩⟩) rfl rfl ?_
      refine l_gu_loop d hI s v P m (i + 1) (T + 300) _ _ (t + sLasts (ud (jx X 9) 0 10 t) i) _ (by omega) (nI_add i 1) (OT.ud ho (by omega)) (by rw [jx_ud0 rfl, hj, ud_ud]) (IJ.uMin hI (hI1.minute.add (lasts300 hI1 _) (by omega))) (by omega) ?_ hP
      rw [← hv]; show _ = gU _ _ _ _ (if _ then _ else _); rw [if_pos h92]
set_option maxRecDepth 100000 in
set_option maxHeartbeats 4000000 in
theorem l_minutesBackTo (d : Nat) {X Z : Nat → Nat → Int32} {T : Nat} (hI : IJ T (jx X 9)) (hT9 : T < 1000000) {k : Nat} (hk : k < jn (jx X 9)) : EC (d + 6) 100 [.ref 0, .int (nI k)] (Wd X Z) (RO (sGoM (jx X 9) k) X) := by
  refine er_enter (L := [(0, _), (1, _)]) rfl rfl rfl ?_
  have h8 := jn8 hI
  refine er_loc (pc' := 1) rfl rfl rfl ?_
  refine er_gf (pc' := 4) (_) rfl rfl rfl rfl rfl ?_
  refine er_loc (pc' := 5) rfl rfl rfl ?_
  refine er_cIi (pc' := 8) (rest := []) 7 rfl rfl rfl rfl rfl rfl (l_restingOn _ j9 _ _ hI hk) ?_
  refine er_loc (pc' := 9) rfl rfl rfl ?_
  refine er_k (pc' := 10) (nI 1) rfl rfl rfl ?_
  refine er_cSi (pc' := 13) (rest := []) rfl rfl rfl (l_with _ _ _ true _) ?_
  refine er_loc (pc' := 14) (L' := [(2, _), (0, _), (1, _)]) rfl rfl rfl ?_
  refine er_loc (pc' := 15) rfl rfl rfl ?_
  refine er_gf (pc' := 18) (_) rfl rfl rfl rfl rfl ?_
  refine er_loc (pc' := 19) rfl rfl rfl ?_
  refine er_gf (pc' := 22) (_) rfl rfl rfl rfl rfl ?_
  refine er_cIt (pc' := 25) (rest := []) 7 rfl rfl rfl rfl rfl rfl (l_take_35_9 _ _ _ hI) ?_
  intro X1 Z1 hj1 ho1
  refine er_loc (pc' := 26) rfl rfl rfl ?_
  refine er_gf (pc' := 29) (_) rfl rfl rfl rfl rfl ?_
  refine er_gf (pc' := 32) (.int (X1 9 1)) rfl rfl rfl rfl rfl ?_
  rw [show X1 9 1 = nI (jn (jx X 9)) from by rw [ho1 9 (by omega)]; exact hI.n.1]
  refine er_k (pc' := 33) (nI 1) rfl rfl rfl ?_
  refine er_isub (pc' := 34) rfl rfl ?_
  refine er_loc (pc' := 35) (L' := [(3, _), (2, _), (0, _), (1, _)]) rfl rfl rfl ?_
  refine ER_loc [(0, _), (1, _), (2, _), (3, _)] rfl (List.forall_mem_cons.mpr ⟨rfl, List.forall_mem_cons.mpr ⟨rfl, List.forall_mem_cons.mpr ⟨rfl, List.forall_mem_cons.mpr ⟨rfl, fun _ h => absurd h List.not_mem_nil⟩⟩⟩⟩) rfl rfl ?_
  refine l_gd_loop d hI hk (sGoSet (jx X 9) k) _ (jn (jx X 9) - k) T X1 Z1 (jx X 9 0 10) _ ?_ ho1 (by rw [ud_id]; exact hj1) (by rw [ud_id]; exact hI) (by omega) ?_
  · rw [show k + (jn (jx X 9) - k) = jn (jx X 9) by omega]
  intro X2 Z2 t2 x2 ho2 hj2 hI2 ht2
  refine er_loc (pc' := 75) rfl rfl rfl ?_
  refine er_loc (L' := [(3, _), (0, _), (1, _), (2, _)]) (pc' := 76) rfl rfl rfl ?_
  refine ER_loc [(0, _), (1, _), (2, _), (3, _)] rfl (List.forall_mem_cons.mpr ⟨rfl, List.forall_mem_cons.mpr ⟨rfl, List.forall_mem_cons.mpr ⟨rfl, List.forall_mem_cons.mpr ⟨rfl, fun _ h => absurd h List.not_mem_nil⟩⟩⟩⟩) rfl rfl ?_
  refine l_gu_loop d hI (sGoSet (jx X 9) k) (gU (jx X 9) (sGoSet (jx X 9) k) (jn (jx X 9) - k) k t2) _ (jn (jx X 9) - k) k _ _ _ t2 _ (by omega) rfl ho2 hj2 hI2 (by omega) rfl (fun r hr => ?_)
  rw [ht2] at hr
  exact hr
