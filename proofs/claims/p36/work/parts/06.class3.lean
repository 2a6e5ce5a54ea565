section
/-! THE FACE: orders by a SHEET: they come to an end, and leave all as it was -/
def RE (X : Nat → Nat → Int32) : ab_R → Prop := fun r => ∃ v Z', r = (some (.int v), Wd X Z')
theorem RE_of {v : Int32} {X X' Z : Nat → Nat → Int32} (h : X' = X) : RE X (some (.int v), Wd X' Z) := ⟨v, Z, by rw [h]⟩
section ERW
variable {d pc pc' lk : Nat} {M : ab_M} {L L' : ab_Lo} {st : List Value} {w : ab_W} {P : ab_R → Prop} {X Z : Nat → Nat → Int32}
theorem er_cSe {j i : Nat} {X' : Nat → Nat → Int32} {As rest : List Value} (hf : ab_fetch M.2.2.2.2.2.2.2 pc = some (.invokestatic i, lk)) (hq : qS lk st = some (j, As, rest)) (hp : pc + 3 = pc') (h : EC d j As (Wd X Z) (RE X')) (k : ∀ v Z', ER d M pc' L (.int v :: rest) (Wd X' Z') P) : ER d M pc L st (Wd X Z) P :=
  er_cS hf hq hp h (fun r hr => by obtain ⟨v, Z', rfl⟩ := hr; exact k v Z')
end ERW
abbrev aR (a : Nat) : Nat := 55 + a
set_option maxRecDepth 100000 in
set_option maxHeartbeats 4000000 in
theorem l_of_loop (d F : Nat) (X : Nat → Nat → Int32) {a : Nat} (ha : a < 4) (g dep : Nat) {T : Nat} (hI : IJ T (jx X 35)) {k : Nat} (hk : sMayDo (jx X 35) k = true) (hrec : ∀ (Z : Nat → Nat → Int32) (i : Nat), i < jn (jx X 35) → EC (d + 6 + F) 107 [.ref 35, .int (nI i), .ref (55 + a), .int (nI g), .int (nI (dep + 1))] (Wd (xPass X 35 k) Z) (RE (xPass X 35 k))) : ∀ (m i : Nat) (x f : Int32) (Z : Nat → Nat → Int32), i + m = jn (jx X 35) → x = nI i → ER (d + 6 + F) tb_m107 75 [(0, .ref 35), (1, .int (nI k)), (2, .ref (55 + a)), (3, .int (nI g)), (4, .int (nI dep)), (5, .int (X 35 9)), (6, .int (X 35 10)), (7, .int f), (8, .int x)] [] (Wd (xPass X 35 k) Z) (RE X)
  | 0, i, x, f, Z, hi, hx => by
    have h8 := jn8 hI
    have hm := mayDo_k hk
    subst hx
    have hi0 : i = jn (jx X 35) := by omega
    refine er_loc (pc' := 77) rfl rfl rfl ?_
    refine er_loc (pc' := 78) rfl rfl rfl ?_
    refine er_gf (pc' := 81) (.int (X 35 1)) rfl rfl rfl rfl rfl ?_
    rw [show X 35 1 = nI (jn (jx X 35)) from hI.n.1]
    refine er_cm_geT rfl (nI_nlt (by omega) (by omega)) ?_
    refine er_loc (pc' := 108) rfl rfl rfl ?_
    refine er_loc (pc' := 109) rfl rfl rfl ?_
    refine er_loc (pc' := 111) rfl rfl rfl ?_
    refine er_loc (pc' := 113) rfl rfl rfl ?_
    refine er_cIv (pc' := 116) (rest := []) 7 rfl rfl rfl rfl rfl rfl (EC.up (l_unpass d j35 _ _ _ _ _) (by omega)) ?_
    intro Z9
    rw [xUnpass_pass (by omega) (by have := hm.2.1; unfold sDone at this; rw [jx06] at this; exact this)]
    refine er_loc (pc' := 118) rfl rfl rfl ?_
    refine er_iret rfl rfl ?_
    exact RE_of rfl
  | m + 1, i, x, f, Z, hi, hx => by
    have h8 := jn8 hI
    subst hx
    refine er_loc (pc' := 77) rfl rfl rfl ?_
    refine er_loc (pc' := 78) rfl rfl rfl ?_
    refine er_gf (pc' := 81) (.int (X 35 1)) rfl rfl rfl rfl rfl ?_
    rw [show X 35 1 = nI (jn (jx X 35)) from hI.n.1]
    refine er_cm_geF (pc' := 84) rfl (nI_lt (by omega) (by omega)) rfl ?_
    refine er_loc (pc' := 86) rfl rfl rfl ?_
    refine er_loc (pc' := 87) rfl rfl rfl ?_
    refine er_loc (pc' := 89) rfl rfl rfl ?_
    refine er_loc (pc' := 90) rfl rfl rfl ?_
    refine er_loc (pc' := 91) rfl rfl rfl ?_
    refine er_loc (pc' := 93) rfl rfl rfl ?_
    refine er_k (pc' := 94) (nI 1) rfl rfl rfl ?_
    refine er_iadd (pc' := 95) rfl rfl ?_
    rw [nI_add]
    refine er_cSe (pc' := 98) (rest := [_]) rfl rfl rfl (hrec Z i (by omega)) ?_
    intro v Z8
    refine er_iadd (pc' := 99) rfl rfl ?_
    refine er_loc (L' := [(7, _), (0, _), (1, _), (2, _), (3, _), (4, _), (5, _), (6, _), (8, _)]) (pc' := 101) rfl rfl rfl ?_
    refine er_loc (L' := [(8, .int (_ + nI 1)), (7, _), (0, _), (1, _), (2, _), (3, _), (4, _), (5, _), (6, _)]) (pc' := 104) rfl rfl rfl ?_
    refine er_goto rfl ?_
    refine ER_loc [(0, _), (1, _), (2, _), (3, _), (4, _), (5, _), (6, _), (7, _), (8, _)] rfl (List.forall_mem_cons.mpr ⟨rfl, List.forall_mem_cons.mpr ⟨rfl, List.forall_mem_cons.mpr ⟨rfl, List.forall_mem_cons.mpr ⟨rfl, List.forall_mem_cons.mpr ⟨rfl, List.forall_mem_cons.mpr ⟨rfl, List.forall_mem_cons.mpr ⟨rfl, List.forall_mem_cons.mpr ⟨rfl, List.forall_mem_cons.mpr ⟨rfl, fun _ h => absurd h List.not_mem_nil⟩⟩⟩⟩⟩⟩⟩⟩⟩) rfl rfl ?_
    exact l_of_loop d F X ha g dep hI hk hrec m (i + 1) _ _ _ (by omega) (nI_add i 1)
set_option maxRecDepth 100000 in
set_option maxHeartbeats 4000000 in
theorem l_ordersFrom (d : Nat) {a : Nat} (ha : a < 4) (g : Nat) (hg : g ≤ 4) : ∀ (F dep : Nat) (X Z : Nat → Nat → Int32) (k : Nat) (T : Nat), dep + F = g → IJ T (jx X 35) → k < jn (jx X 35) → T + 300 * F < 1000000000 → EC (d + 6 + F + 1) 107 [.ref 35, .int (nI k), .ref (55 + a), .int (nI g), .int (nI dep)] (Wd X Z) (RE X) := by
  intro F
  induction F with
  | zero =>
    intro dep X Z k T hd hI hk hT
    refine er_enter (L := [(0, _), (1, _), (2, _), (3, _), (4, _)]) rfl rfl rfl ?_
    refine er_loc (pc' := 2) rfl rfl rfl ?_
    refine er_if_ltF (pc' := 5) rfl (nI_pos (by omega)) rfl ?_
    refine er_loc (pc' := 7) rfl rfl rfl ?_
    refine er_loc (pc' := 8) rfl rfl rfl ?_
    refine er_cm_geT rfl (nI_nlt (by omega) (by omega)) ?_
    refine er_k (pc' := 27) (nI 0) rfl rfl rfl ?_
    refine er_iret rfl rfl ?_
    exact RE_of rfl
  | succ F ih =>
    intro dep X Z k T hd hI hk hT
    have h8 := jn8 hI
    refine er_enter (L := [(0, _), (1, _), (2, _), (3, _), (4, _)]) rfl rfl rfl ?_
    refine er_loc (pc' := 2) rfl rfl rfl ?_
    refine er_if_ltF (pc' := 5) rfl (nI_pos (by omega)) rfl ?_
    refine er_loc (pc' := 7) rfl rfl rfl ?_
    refine er_loc (pc' := 8) rfl rfl rfl ?_
    refine er_cm_geF (pc' := 11) rfl (nI_lt (by omega) (by omega)) rfl ?_
    refine er_loc (pc' := 13) rfl rfl rfl ?_
    refine er_loc (pc' := 14) rfl rfl rfl ?_
    refine er_al (pc' := 15) rfl (blt_R ha) (cO_R ha _ _) rfl ?_
    refine er_cm_geF (pc' := 18) rfl (nI_lt (by omega) (by omega)) rfl ?_
    refine er_loc (pc' := 19) rfl rfl rfl ?_
    refine er_loc (pc' := 20) rfl rfl rfl ?_
    refine er_cIi (pc' := 23) (rest := []) 7 rfl rfl rfl rfl rfl rfl (EC.up (l_mayBeDone d j35 _ _ hI hk) (by omega)) ?_
    refine er_if_neb (pc' := 26) rfl rfl (fun h23 => ?_) (fun h23 => ?_)
    · refine er_loc (pc' := 29) rfl rfl rfl ?_
      refine er_loc (pc' := 30) rfl rfl rfl ?_
      refine er_cIz (pc' := 33) (rest := []) 7 rfl rfl rfl rfl rfl rfl (EC.up (l_lasts d j35 _ _ hI hk) (by omega)) ?_
      intro Z2
      refine er_loc (pc' := 34) rfl rfl rfl ?_
      refine er_loc (pc' := 36) rfl rfl rfl ?_
      refine er_ia (pc' := 37) (dep) rfl (blt_R ha) (cO_R ha _ _) rfl (by omega) rfl rfl ?_
      refine er_cm_eq (pc' := 40) rfl rfl (fun h37 => ?_) (fun h37 => ?_)
      · refine er_loc (pc' := 44) rfl rfl rfl ?_
        refine er_loc (pc' := 45) rfl rfl rfl ?_
        refine er_k (pc' := 46) (nI 1) rfl rfl rfl ?_
        refine er_isub (pc' := 47) rfl rfl ?_
        refine er_cm_ne (pc' := 50) rfl rfl (fun h47 => ?_) (fun h47 => ?_)
        · refine er_loc (pc' := 53) rfl rfl rfl ?_
          refine er_gf (pc' := 56) (.int (X 35 9)) rfl rfl rfl rfl rfl ?_
          refine er_loc (L' := [(5, _), (0, _), (1, _), (2, _), (3, _), (4, _)]) (pc' := 58) rfl rfl rfl ?_
          refine er_loc (pc' := 59) rfl rfl rfl ?_
          refine er_gf (pc' := 62) (.int (X 35 10)) rfl rfl rfl rfl rfl ?_
          refine er_loc (L' := [(6, _), (5, _), (0, _), (1, _), (2, _), (3, _), (4, _)]) (pc' := 64) rfl rfl rfl ?_
          refine er_k (pc' := 65) (nI 0) rfl rfl rfl ?_
          refine er_loc (L' := [(7, _), (6, _), (5, _), (0, _), (1, _), (2, _), (3, _), (4, _)]) (pc' := 67) rfl rfl rfl ?_
          refine er_loc (pc' := 68) rfl rfl rfl ?_
          refine er_loc (pc' := 69) rfl rfl rfl ?_
          refine er_cIv (pc' := 72) (rest := []) 7 rfl rfl rfl rfl rfl rfl (EC.up (l_pass d j35 _ _ hI hk) (by omega)) ?_
          intro Z7
          refine er_k (pc' := 73) (nI 0) rfl rfl rfl ?_
          refine er_loc (L' := [(8, _), (7, _), (6, _), (5, _), (0, _), (1, _), (2, _), (3, _), (4, _)]) (pc' := 75) rfl rfl rfl ?_
          refine ER_loc [(0, _), (1, _), (2, _), (3, _), (4, _), (5, _), (6, _), (7, _), (8, _)] rfl (List.forall_mem_cons.mpr ⟨rfl, List.forall_mem_cons.mpr ⟨rfl, List.forall_mem_cons.mpr ⟨rfl, List.forall_mem_cons.mpr ⟨rfl, List.forall_mem_cons.mpr ⟨rfl, List.forall_mem_cons.mpr ⟨rfl, List.forall_mem_cons.mpr ⟨rfl, List.forall_mem_cons.mpr ⟨rfl, List.forall_mem_cons.mpr ⟨rfl, fun _ h => absurd h List.not_mem_nil⟩⟩⟩⟩⟩⟩⟩⟩⟩) rfl rfl ?_
          refine l_of_loop d (F + 1) X ha g dep hI h23 ?_ (jn (jx X 35)) 0 _ _ Z7 (by omega) rfl
          intro Z1 i hi
          have hj := jx_xPass (X := X) (b := 35) (k := k) (by omega)
          exact ih (dep + 1) (xPass X 35 k) Z1 i (T + 300) (by omega) (by rw [hj]; exact hI.pass (by omega) h23) (by rw [hj]; exact hi) (by omega)
        · refine er_k (pc' := 51) (nI 1) rfl rfl rfl ?_
          refine er_iret rfl rfl ?_
          exact RE_of rfl
      · refine er_k (pc' := 41) (nI 0) rfl rfl rfl ?_
        refine er_iret rfl rfl ?_
        exact RE_of rfl
    · refine er_k (pc' := 27) (nI 0) rfl rfl rfl ?_
      refine er_iret rfl rfl ?_
      exact RE_of rfl
def OsP (X : Nat → Nat → Int32) : ab_R → Prop := fun r => ∃ v X' Z', r = (some (.int v), Wd X' Z') ∧ (OT X X' ∨ ∃ X1, OT X X1 ∧ X' = xErr X1 2)
set_option maxRecDepth 100000 in
set_option maxHeartbeats 4000000 in
theorem l_os_loop (d : Nat) {X : Nat → Nat → Int32} {T : Nat} (hI : IJ T (jx X 9)) (hT9 : T < 1000000) {a : Nat} (ha : a < 4) (w : Int32) {g : Nat} (hg : X 59 a = nI g) (hg4 : g ≤ 4) (X1 : Nat → Nat → Int32) (ho : OT X X1) (hj : jx X1 35 = jx X 9) (P : ab_R → Prop) (hP : ∀ r, OsP X r → P r) : ∀ (m i : Nat) (x f l : Int32) (Z : Nat → Nat → Int32), i + m = jn (jx X 9) → x = nI i → ER (d + 11) tb_m105 70 [(0, .ref 0), (1, .int (nI a)), (2, .int w), (3, .int f), (4, .int l), (5, .int x)] [] (Wd X1 Z) P
  | 0, i, x, f, l, Z, hi, hx => by
    have h8 := jn8 hI
    subst hx
    refine er_loc (pc' := 72) rfl rfl rfl ?_
    refine er_loc (pc' := 73) rfl rfl rfl ?_
    refine er_gf (pc' := 76) (_) rfl rfl rfl rfl rfl ?_
    refine er_gf (pc' := 79) (.int (X1 9 1)) rfl rfl rfl rfl rfl ?_
    rw [show X1 9 1 = nI (jn (jx X 9)) from by rw [ho 9 (by omega)]; exact hI.n.1]
    refine er_cm_geT rfl (nI_nlt (by omega) (by omega)) ?_
    refine er_loc (pc' := 137) rfl rfl rfl ?_
    refine er_if_ne (pc' := 140) rfl rfl (fun h137 => ?_) (fun h137 => ?_)
    · refine er_loc (pc' := 144) rfl rfl rfl ?_
      refine er_if_lt (pc' := 147) rfl rfl (fun h144 => ?_) (fun h144 => ?_)
      · refine er_loc (pc' := 153) rfl rfl rfl ?_
        refine er_k (pc' := 154) (nI 2) rfl rfl rfl ?_
        refine er_cIz (pc' := 157) (rest := []) 11 rfl rfl rfl rfl rfl rfl (l_error _ _ _ 2 (by decide)) ?_
        intro Z9
        refine er_iret rfl rfl ?_
        exact hP _ ⟨_, _, _, rfl, Or.inr ⟨X1, ho, rfl⟩⟩
      · refine er_loc (pc' := 149) rfl rfl rfl ?_
        refine er_goto rfl ?_
        refine er_iret rfl rfl ?_
        exact hP _ ⟨_, _, _, rfl, Or.inl ho⟩
    · refine er_loc (pc' := 141) rfl rfl rfl ?_
      refine er_iret rfl rfl ?_
      exact hP _ ⟨_, _, _, rfl, Or.inl ho⟩
  | m + 1, i, x, f, l, Z, hi, hx => by
    have h8 := jn8 hI
    subst hx
    refine er_loc (pc' := 72) rfl rfl rfl ?_
    refine er_loc (pc' := 73) rfl rfl rfl ?_
    refine er_gf (pc' := 76) (_) rfl rfl rfl rfl rfl ?_
    refine er_gf (pc' := 79) (.int (X1 9 1)) rfl rfl rfl rfl rfl ?_
    rw [show X1 9 1 = nI (jn (jx X 9)) from by rw [ho 9 (by omega)]; exact hI.n.1]
    refine er_cm_geF (pc' := 82) rfl (nI_lt (by omega) (by omega)) rfl ?_
    refine er_loc (pc' := 83) rfl rfl rfl ?_
    refine er_gf (pc' := 86) (_) rfl rfl rfl rfl rfl ?_
    refine er_loc (pc' := 88) rfl rfl rfl ?_
    refine er_loc (pc' := 89) rfl rfl rfl ?_
    refine er_gf (pc' := 92) (_) rfl rfl rfl rfl rfl ?_
    refine er_loc (pc' := 93) rfl rfl rfl ?_
    refine er_aa (pc' := 94) (a) rfl rfl rfl rfl rfl ha rfl rfl ?_
    refine er_loc (pc' := 95) rfl rfl rfl ?_
    refine er_gf (pc' := 98) (_) rfl rfl rfl rfl rfl ?_
    refine er_loc (pc' := 99) rfl rfl rfl ?_
    refine er_ia (pc' := 100) (a) rfl rfl rfl rfl ha rfl rfl ?_
    rw [show X1 59 a = nI g from by rw [ho 59 (by omega)]; exact hg]
    refine er_k (pc' := 101) (nI 0) rfl rfl rfl ?_
    refine er_cSe (pc' := 104) (rest := []) rfl rfl rfl (EC.up (l_ordersFrom d ha g hg4 g 0 X1 Z i T (by omega) (by rw [hj]; exact hI) (by rw [hj]; omega) (by omega)) (by omega)) ?_
    intro v Z8
    refine er_loc (L' := [(6, _), (0, _), (1, _), (2, _), (3, _), (4, _), (5, _)]) (pc' := 106) rfl rfl rfl ?_
    refine er_loc (pc' := 108) rfl rfl rfl ?_
    refine er_if_ge (pc' := 111) rfl rfl (fun h108 => ?_) (fun h108 => ?_)
    · refine er_loc (pc' := 123) rfl rfl rfl ?_
      refine er_loc (L' := [(4, _), (6, _), (0, _), (1, _), (2, _), (3, _), (5, _)]) (pc' := 125) rfl rfl rfl ?_
      refine er_loc (pc' := 126) rfl rfl rfl ?_
      refine er_loc (pc' := 128) rfl rfl rfl ?_
      refine er_iadd (pc' := 129) rfl rfl ?_
      refine er_loc (L' := [(3, _), (4, _), (6, _), (0, _), (1, _), (2, _), (5, _)]) (pc' := 130) rfl rfl rfl ?_
      refine er_loc (L' := [(5, .int (_ + nI 1)), (3, _), (4, _), (6, _), (0, _), (1, _), (2, _)]) (pc' := 133) rfl rfl rfl ?_
      refine er_goto rfl ?_
      refine ER_loc [(0, _), (1, _), (2, _), (3, _), (4, _), (5, _)] rfl (List.forall_mem_cons.mpr ⟨rfl, List.forall_mem_cons.mpr ⟨rfl, List.forall_mem_cons.mpr ⟨rfl, List.forall_mem_cons.mpr ⟨rfl, List.forall_mem_cons.mpr ⟨rfl, List.forall_mem_cons.mpr ⟨rfl, fun _ h => absurd h List.not_mem_nil⟩⟩⟩⟩⟩⟩) rfl rfl ?_
      exact l_os_loop d hI hT9 ha w hg hg4 X1 ho hj P hP m (i + 1) _ _ _ _ (by omega) (nI_add i 1)
    · refine er_loc (pc' := 113) rfl rfl rfl ?_
      refine er_if_le (pc' := 116) rfl rfl (fun h113 => ?_) (fun h113 => ?_)
      · refine er_loc (pc' := 123) rfl rfl rfl ?_
        refine er_loc (L' := [(4, _), (6, _), (0, _), (1, _), (2, _), (3, _), (5, _)]) (pc' := 125) rfl rfl rfl ?_
        refine er_loc (pc' := 126) rfl rfl rfl ?_
        refine er_loc (pc' := 128) rfl rfl rfl ?_
        refine er_iadd (pc' := 129) rfl rfl ?_
        refine er_loc (L' := [(3, _), (4, _), (6, _), (0, _), (1, _), (2, _), (5, _)]) (pc' := 130) rfl rfl rfl ?_
        refine er_loc (L' := [(5, .int (_ + nI 1)), (3, _), (4, _), (6, _), (0, _), (1, _), (2, _)]) (pc' := 133) rfl rfl rfl ?_
        refine er_goto rfl ?_
        refine ER_loc [(0, _), (1, _), (2, _), (3, _), (4, _), (5, _)] rfl (List.forall_mem_cons.mpr ⟨rfl, List.forall_mem_cons.mpr ⟨rfl, List.forall_mem_cons.mpr ⟨rfl, List.forall_mem_cons.mpr ⟨rfl, List.forall_mem_cons.mpr ⟨rfl, List.forall_mem_cons.mpr ⟨rfl, fun _ h => absurd h List.not_mem_nil⟩⟩⟩⟩⟩⟩) rfl rfl ?_
        exact l_os_loop d hI hT9 ha w hg hg4 X1 ho hj P hP m (i + 1) _ _ _ _ (by omega) (nI_add i 1)
      · refine er_loc (pc' := 118) rfl rfl rfl ?_
        refine er_goto rfl ?_
        refine er_loc (L' := [(4, _), (6, _), (0, _), (1, _), (2, _), (3, _), (5, _)]) (pc' := 125) rfl rfl rfl ?_
        refine er_loc (pc' := 126) rfl rfl rfl ?_
        refine er_loc (pc' := 128) rfl rfl rfl ?_
        refine er_iadd (pc' := 129) rfl rfl ?_
        refine er_loc (L' := [(3, _), (4, _), (6, _), (0, _), (1, _), (2, _), (5, _)]) (pc' := 130) rfl rfl rfl ?_
        refine er_loc (L' := [(5, .int (_ + nI 1)), (3, _), (4, _), (6, _), (0, _), (1, _), (2, _)]) (pc' := 133) rfl rfl rfl ?_
        refine er_goto rfl ?_
        refine ER_loc [(0, _), (1, _), (2, _), (3, _), (4, _), (5, _)] rfl (List.forall_mem_cons.mpr ⟨rfl, List.forall_mem_cons.mpr ⟨rfl, List.forall_mem_cons.mpr ⟨rfl, List.forall_mem_cons.mpr ⟨rfl, List.forall_mem_cons.mpr ⟨rfl, List.forall_mem_cons.mpr ⟨rfl, fun _ h => absurd h List.not_mem_nil⟩⟩⟩⟩⟩⟩) rfl rfl ?_
        exact l_os_loop d hI hT9 ha w hg hg4 X1 ho hj P hP m (i + 1) _ _ _ _ (by omega) (nI_add i 1)
set_option maxRecDepth 100000 in
set_option maxHeartbeats 4000000 in
theorem l_orders_no (d : Nat) (X Z : Nat → Nat → Int32) (s w : Int32) (hs : (sIn s (nI 0) (nI 3) && sIn w (nI 0) (nI 1)) = false) : EC (d + 3) 105 [.ref 0, .int s, .int w] (Wd X Z) (RI (sErr 1) (xErr X 1)) := by
  refine er_enter (L := [(0, _), (1, _), (2, _)]) rfl rfl rfl ?_
  refine er_loc (pc' := 1) rfl rfl rfl ?_
  refine er_cSi (pc' := 4) (rest := []) rfl rfl rfl (l_xSheet _ _ _) ?_
  refine er_if_eqb (pc' := 7) rfl rfl (fun h4 => ?_) (fun h4 => ?_)
  · refine er_loc (pc' := 17) rfl rfl rfl ?_
    refine er_k (pc' := 18) (nI 1) rfl rfl rfl ?_
    refine er_cIz (pc' := 21) (rest := []) 11 rfl rfl rfl rfl rfl rfl (l_error _ _ _ 1 (by decide)) ?_
    intro Z9
    refine er_iret rfl rfl ?_
    exact RI_of rfl rfl
  · refine er_loc (pc' := 8) rfl rfl rfl ?_
    refine er_k (pc' := 9) (nI 0) rfl rfl rfl ?_
    refine er_k (pc' := 10) (nI 1) rfl rfl rfl ?_
    refine er_cSi (pc' := 13) (rest := []) rfl rfl rfl (l_within _ _ _ _ _) ?_
    refine er_if_neb (pc' := 16) rfl rfl (fun h13 => ?_) (fun h13 => ?_)
    · exfalso; rw [h4, h13] at hs; cases hs
    · refine er_loc (pc' := 17) rfl rfl rfl ?_
      refine er_k (pc' := 18) (nI 1) rfl rfl rfl ?_
      refine er_cIz (pc' := 21) (rest := []) 11 rfl rfl rfl rfl rfl rfl (l_error _ _ _ 1 (by decide)) ?_
      intro Z9
      refine er_iret rfl rfl ?_
      exact RI_of rfl rfl
set_option maxRecDepth 100000 in
set_option maxHeartbeats 4000000 in
theorem l_orders (d : Nat) (X Z : Nat → Nat → Int32) {T : Nat} (hI : IJ T (jx X 9)) (hT9 : T < 1000000) {a : Nat} (ha : a < 4) (w : Int32) (hw : sIn w (nI 0) (nI 1) = true) {g : Nat} (hg : X 59 a = nI g) (h40 : g ≤ 40) : EC (d + 12) 105 [.ref 0, .int (nI a), .int w] (Wd X Z) (OsP X) := by
  refine er_enter (L := [(0, _), (1, _), (2, _)]) rfl rfl rfl ?_
  refine er_loc (pc' := 1) rfl rfl rfl ?_
  refine er_cSi (pc' := 4) (rest := []) rfl rfl rfl (l_xSheet _ _ _) ?_
  rw [show sIn (nI a) (nI 0) (nI 3) = true from sIn_t (by omega) (by omega) (by omega)]
  refine er_if_eqF (pc' := 7) rfl (by decide +kernel) rfl ?_
  refine er_loc (pc' := 8) rfl rfl rfl ?_
  refine er_k (pc' := 9) (nI 0) rfl rfl rfl ?_
  refine er_k (pc' := 10) (nI 1) rfl rfl rfl ?_
  refine er_cSi (pc' := 13) (rest := []) rfl rfl rfl (l_within _ _ _ _ _) ?_
  rw [hw]
  refine er_if_neT rfl (by decide +kernel) ?_
  refine er_loc (pc' := 23) rfl rfl rfl ?_
  refine er_gf (pc' := 26) (_) rfl rfl rfl rfl rfl ?_
  refine er_loc (pc' := 27) rfl rfl rfl ?_
  refine er_ia (pc' := 28) (a) rfl rfl rfl rfl ha rfl rfl ?_
  refine er_if_eq (pc' := 31) rfl rfl (fun h28 => ?_) (fun h28 => ?_)
  · refine er_loc (pc' := 46) rfl rfl rfl ?_
    refine er_k (pc' := 47) (nI 2) rfl rfl rfl ?_
    refine er_cIz (pc' := 50) (rest := []) 11 rfl rfl rfl rfl rfl rfl (l_error _ _ _ 2 (by decide)) ?_
    intro Z9
    refine er_iret rfl rfl ?_
    exact ⟨_, _, _, rfl, Or.inr ⟨X, OT.rf X, rfl⟩⟩
  · refine er_loc (pc' := 32) rfl rfl rfl ?_
    refine er_gf (pc' := 35) (_) rfl rfl rfl rfl rfl ?_
    refine er_loc (pc' := 36) rfl rfl rfl ?_
    refine er_ia (pc' := 37) (a) rfl rfl rfl rfl ha rfl rfl ?_
    rw [hg]
    refine er_k (pc' := 38) (nI 1) rfl rfl rfl ?_
    refine er_k (pc' := 39) (nI 4) rfl rfl rfl ?_
    refine er_cSi (pc' := 42) (rest := []) rfl rfl rfl (l_within _ _ _ _ _) ?_
    refine er_if_neb (pc' := 45) rfl rfl (fun h42 => ?_) (fun h42 => ?_)
    · have hg4 : g ≤ 4 := by
        obtain ⟨j, _, h2, h3⟩ := sIn_ex (by omega) (by omega) h42
        have := (nI_eq (by omega) (by omega)).mp h3
        omega
      refine er_k (pc' := 52) (nI 0) rfl rfl rfl ?_
      refine er_loc (pc' := 53) (L' := [(3, _), (0, _), (1, _), (2, _)]) rfl rfl rfl ?_
      refine er_k (pc' := 54) (-1) rfl rfl rfl ?_
      refine er_loc (pc' := 56) (L' := [(4, _), (3, _), (0, _), (1, _), (2, _)]) rfl rfl rfl ?_
      refine er_loc (pc' := 57) rfl rfl rfl ?_
      refine er_gf (pc' := 60) (_) rfl rfl rfl rfl rfl ?_
      refine er_loc (pc' := 61) rfl rfl rfl ?_
      refine er_gf (pc' := 64) (_) rfl rfl rfl rfl rfl ?_
      refine er_cIt (pc' := 67) (rest := []) 7 rfl rfl rfl rfl rfl rfl (l_take_35_9 _ _ _ hI) ?_
      intro X1 Z1 hj1 ho1
      refine er_k (pc' := 68) (nI 0) rfl rfl rfl ?_
      refine er_loc (pc' := 70) (L' := [(5, _), (4, _), (3, _), (0, _), (1, _), (2, _)]) rfl rfl rfl ?_
      refine ER_loc [(0, _), (1, _), (2, _), (3, _), (4, _), (5, _)] rfl (List.forall_mem_cons.mpr ⟨rfl, List.forall_mem_cons.mpr ⟨rfl, List.forall_mem_cons.mpr ⟨rfl, List.forall_mem_cons.mpr ⟨rfl, List.forall_mem_cons.mpr ⟨rfl, List.forall_mem_cons.mpr ⟨rfl, fun _ h => absurd h List.not_mem_nil⟩⟩⟩⟩⟩⟩) rfl rfl ?_
      exact l_os_loop d hI hT9 ha w hg hg4 X1 ho1 hj1 _ (fun _ h => h) (jn (jx X 9)) 0 _ _ _ Z1 (by omega) rfl
    · refine er_loc (pc' := 46) rfl rfl rfl ?_
      refine er_k (pc' := 47) (nI 2) rfl rfl rfl ?_
      refine er_cIz (pc' := 50) (rest := []) 11 rfl rfl rfl rfl rfl rfl (l_error _ _ _ 2 (by decide)) ?_
      intro Z9
      refine er_iret rfl rfl ?_
      exact ⟨_, _, _, rfl, Or.inr ⟨X, OT.rf X, rfl⟩⟩
end
section
/-! VOICES -/
abbrev VT : Type := Nat × (Nat → Int32)
def bg (t : VT) (b : Int32) : VT := if t.1 < 40 then (t.1 + 1, u1 t.2 t.1 b) else t
theorem bg_le {t : VT} {b : Int32} (h : t.1 ≤ 40) : (bg t b).1 ≤ 40 := by
  unfold bg
  split
  · show t.1 + 1 ≤ 40; omega
  · exact h
def XT (X : Nat → Nat → Int32) (t : VT) : Nat → Nat → Int32 := ud (uc X 52 t.2) 51 1 (nI t.1)
theorem XT_bg {X : Nat → Nat → Int32} {t : VT} {b : Int32} (h : t.1 < 40) : ud (ud (XT X t) 52 t.1 b) 51 1 (nI t.1 + nI 1) = XT X (bg t b) := by
  have e : bg t b = (t.1 + 1, u1 t.2 t.1 b) := if_pos h
  rw [e, nI_add]
  unfold XT
  funext i j
  simp only [ud_at, uc]
  by_cases h1 : i = 51
  · subst h1
    by_cases h2 : j = 1
    · subst h2; simp
    · simp [h2]
  · by_cases h3 : i = 52
    · subst h3
      simp [u1]
    · simp [h1, h3]
def vPF (n x : Int32) (t : VT) : Int32 × VT := (x + n, bg t (nI 10))
def vFits (q : Nat) (n x : Int32) (t : VT) : Int32 × VT := if q = 1 ∨ q = 4 then ((vPF n x (bg t (nI 20))).1 * nI 3, (vPF n x (bg t (nI 20))).2) else vPF n x t
def vPE (q : Nat) (n x : Int32) (t : VT) : Int32 × VT := ((vFits q n x (bg t (nI 11))).1 * nI 2, (vFits q n x (bg t (nI 11))).2)
def vPL (m x : Int32) (t : VT) : Int32 × VT := (x - m, bg t (nI 12))
def vHL (m x : Int32) (t : VT) : Int32 × VT := (-(vPL m x (bg t (nI 40))).1, (vPL m x (bg t (nI 40))).2)
def vLooks (q : Nat) (n m x : Int32) (t : VT) : Int32 × VT := if q = 3 then vHL m x t else if q = 6 then ((vHL m x (bg t (nI 70))).1 ^^^ n, (vHL m x (bg t (nI 70))).2) else vPL m x t
def vGE (q : Nat) (n m x : Int32) (t : VT) : Int32 × VT := ((vPE q n x (bg t (nI 30))).1 - (vLooks q n m (nI 1) (vPE q n x (bg t (nI 30))).2).1, (vLooks q n m (nI 1) (vPE q n x (bg t (nI 30))).2).2)
def vErrs (q : Nat) (n m x : Int32) (t : VT) : Int32 × VT := if q = 2 then vGE q n m x t else if q = 5 then vGE q n m (x + nI 1) (bg t (nI 60)) else vPE q n x t
def vPU (q : Nat) (n m x : Int32) (t : VT) : Int32 × VT := ((vErrs q n m x (bg t (nI 13))).1 ^^^ (vLooks q n m x (vErrs q n m x (bg t (nI 13))).2).1, (vLooks q n m x (vErrs q n m x (bg t (nI 13))).2).2)
def vUndoes (q : Nat) (n m x : Int32) (t : VT) : Int32 × VT :=
  if q = 4 then ((vPU q n m x (bg t (nI 50))).1 - (vFits q n (nI 2) (vPU q n m x (bg t (nI 50))).2).1, (vFits q n (nI 2) (vPU q n m x (bg t (nI 50))).2).2)
  else if q = 6 then ((vErrs q n m x (bg t (nI 71))).1 - (vPU q n m x (vErrs q n m x (bg t (nI 71))).2).1, (vPU q n m x (vErrs q n m x (bg t (nI 71))).2).2)
  else vPU q n m x t
section VLE
variable {q : Nat} {n m x : Int32} {t : VT}
theorem vPF_le (h : t.1 ≤ 40) : (vPF n x t).2.1 ≤ 40 := bg_le h
theorem vFits_le (h : t.1 ≤ 40) : (vFits q n x t).2.1 ≤ 40 := by
  unfold vFits
  split
  · exact vPF_le (n := n) (x := x) (bg_le h)
  · exact vPF_le (n := n) (x := x) h
theorem vPE_le (h : t.1 ≤ 40) : (vPE q n x t).2.1 ≤ 40 := vFits_le (q := q) (n := n) (x := x) (bg_le h)
theorem vPL_le (h : t.1 ≤ 40) : (vPL m x t).2.1 ≤ 40 := bg_le h
theorem vHL_le (h : t.1 ≤ 40) : (vHL m x t).2.1 ≤ 40 := vPL_le (m := m) (x := x) (bg_le h)
theorem vLooks_le (h : t.1 ≤ 40) : (vLooks q n m x t).2.1 ≤ 40 := by
  unfold vLooks
  split
  · exact vHL_le (m := m) (x := x) h
  · split
    · exact vHL_le (m := m) (x := x) (bg_le h)
    · exact vPL_le (m := m) (x := x) h
theorem vGE_le (h : t.1 ≤ 40) : (vGE q n m x t).2.1 ≤ 40 := vLooks_le (q := q) (n := n) (m := m) (x := nI 1) (vPE_le (q := q) (n := n) (x := x) (bg_le h))
theorem vErrs_le (h : t.1 ≤ 40) : (vErrs q n m x t).2.1 ≤ 40 := by
  unfold vErrs
  split
  · exact vGE_le (q := q) (n := n) (m := m) (x := x) h
  · split
    · exact vGE_le (q := q) (n := n) (m := m) (x := x + nI 1) (bg_le h)
    · exact vPE_le (q := q) (n := n) (x := x) h
theorem vPU_le (h : t.1 ≤ 40) : (vPU q n m x t).2.1 ≤ 40 := vLooks_le (q := q) (n := n) (m := m) (x := x) (vErrs_le (q := q) (n := n) (m := m) (x := x) (bg_le h))
theorem vUndoes_le (h : t.1 ≤ 40) : (vUndoes q n m x t).2.1 ≤ 40 := by
  unfold vUndoes
  split
  · exact vFits_le (q := q) (n := n) (x := nI 2) (vPU_le (q := q) (n := n) (m := m) (x := x) (bg_le h))
  · split
    · exact vPU_le (q := q) (n := n) (m := m) (x := x) (vErrs_le (q := q) (n := n) (m := m) (x := x) (bg_le h))
    · exact vPU_le (q := q) (n := n) (m := m) (x := x) h
end VLE
set_option maxRecDepth 100000 in
set_option maxHeartbeats 4000000 in
theorem l_begins (d : Nat) (X Z : Nat → Nat → Int32) (t : VT) (ht : t.1 ≤ 40) (b : Int32) : EC (d + 1) 72 [.ref 51, .int b] (Wd (XT X t) Z) (RV (XT X (bg t b))) := by
  refine er_enter (L := [(0, _), (1, _)]) rfl rfl rfl ?_
  refine er_loc (pc' := 1) rfl rfl rfl ?_
  refine er_gf (pc' := 4) (.int (nI t.1)) rfl rfl rfl rfl rfl ?_
  refine er_loc (pc' := 5) rfl rfl rfl ?_
  refine er_gf (pc' := 8) (_) rfl rfl rfl rfl rfl ?_
  refine er_al (pc' := 9) rfl rfl rfl rfl ?_
  refine er_cm_ge (pc' := 12) rfl rfl (fun h9 => ?_) (fun h9 => ?_)
  · have hlt : ¬ t.1 < 40 := fun c => h9 (nI_lt c (by omega))
    refine er_vret rfl rfl ?_
    exact RV_of (by first | exact XT_bg hlt | (show XT X t = _; unfold bg; rw [if_neg hlt]))
  · have hlt : t.1 < 40 := by
      rcases Nat.lt_or_ge t.1 40 with c | c
      · exact c
      · exact absurd h9 (nI_nlt c (by omega))
    refine er_loc (pc' := 13) rfl rfl rfl ?_
    refine er_gf (pc' := 16) (_) rfl rfl rfl rfl rfl ?_
    refine er_loc (pc' := 17) rfl rfl rfl ?_
    refine er_gf (pc' := 20) (.int (nI t.1)) rfl rfl rfl rfl rfl ?_
    refine er_loc (pc' := 21) rfl rfl rfl ?_
    refine er_isX (pc' := 22) (t.1) rfl rfl (fun _ => rfl) rfl hlt rfl rfl ?_
    refine er_loc (pc' := 23) rfl rfl rfl ?_
    refine er_pure (pc' := 24) rfl rfl rfl ?_
    refine er_gf (pc' := 27) (.int (nI t.1)) rfl rfl rfl rfl rfl ?_
    refine er_k (pc' := 28) (nI 1) rfl rfl rfl ?_
    refine er_iadd (pc' := 29) rfl rfl ?_
    refine er_pfIX (pc' := 32) 1 rfl rfl rfl rfl rfl rfl ?_
    refine er_vret rfl rfl ?_
    exact RV_of (by first | exact XT_bg hlt | (show XT X t = _; unfold bg; rw [if_neg hlt]))
set_option maxRecDepth 100000 in
set_option maxHeartbeats 4000000 in
theorem l_v5 (c : Nat) (d : Nat) (X Z : Nat → Nat → Int32) (n m : Int32) (hn : X 51 2 = n) (hm : X 51 3 = m) (t : VT) (ht : t.1 ≤ 40) (x : Int32) : EC (d + 2) 5 [.ref c, .ref 51, .int x] (Wd (XT X t) Z) (RI (vPF n x t).1 (XT X (vPF n x t).2)) := by
  refine er_enter (L := [(0, _), (1, _), (2, _)]) rfl rfl rfl ?_
  unfold vPF
  refine er_loc (pc' := 1) rfl rfl rfl ?_
  refine er_k (pc' := 3) (nI 10) rfl rfl rfl ?_
  refine er_cIv (pc' := 6) (rest := []) 10 rfl rfl rfl rfl rfl rfl (l_begins _ _ _ _ ht _) ?_
  intro Z7
  refine er_loc (pc' := 7) rfl rfl rfl ?_
  refine er_loc (pc' := 8) rfl rfl rfl ?_
  refine er_gf (pc' := 11) (.int (X 51 2)) rfl rfl rfl rfl rfl ?_
  rw [hn]
  refine er_iadd (pc' := 12) rfl rfl ?_
  refine er_iret rfl rfl ?_
  exact RI_of (by dsimp only) (by dsimp only)
set_option maxRecDepth 100000 in
set_option maxHeartbeats 4000000 in
theorem l_v6 (c : Nat) (d : Nat) (X Z : Nat → Nat → Int32) (n m : Int32) (hn : X 51 2 = n) (hm : X 51 3 = m) (t : VT) (ht : t.1 ≤ 40) (x : Int32) : EC (d + 2) 6 [.ref c, .ref 51, .int x] (Wd (XT X t) Z) (RI (vPL m x t).1 (XT X (vPL m x t).2)) := by
  refine er_enter (L := [(0, _), (1, _), (2, _)]) rfl rfl rfl ?_
  unfold vPL
  refine er_loc (pc' := 1) rfl rfl rfl ?_
  refine er_k (pc' := 3) (nI 12) rfl rfl rfl ?_
  refine er_cIv (pc' := 6) (rest := []) 10 rfl rfl rfl rfl rfl rfl (l_begins _ _ _ _ ht _) ?_
  intro Z7
  refine er_loc (pc' := 7) rfl rfl rfl ?_
  refine er_loc (pc' := 8) rfl rfl rfl ?_
  refine er_gf (pc' := 11) (.int (X 51 3)) rfl rfl rfl rfl rfl ?_
  rw [hm]
  refine er_isub (pc' := 12) rfl rfl ?_
  refine er_iret rfl rfl ?_
  exact RI_of (by dsimp only) (by dsimp only)
set_option maxRecDepth 100000 in
set_option maxHeartbeats 4000000 in
theorem l_v11_1 (d : Nat) (X Z : Nat → Nat → Int32) (n m : Int32) (hn : X 51 2 = n) (hm : X 51 3 = m) (t : VT) (ht : t.1 ≤ 40) (x : Int32) : EC (d + 3) 11 [.ref 3, .ref 51, .int x] (Wd (XT X t) Z) (RI (vFits 1 n x t).1 (XT X (vFits 1 n x t).2)) := by
  refine er_enter (L := [(0, _), (1, _), (2, _)]) rfl rfl rfl ?_
  unfold vFits
  rw [if_pos (by omega)]
  refine er_loc (pc' := 1) rfl rfl rfl ?_
  refine er_k (pc' := 3) (nI 20) rfl rfl rfl ?_
  refine er_cIv (pc' := 6) (rest := []) 10 rfl rfl rfl rfl rfl rfl (l_begins _ _ _ _ ht _) ?_
  intro Z7
  refine er_loc (pc' := 7) rfl rfl rfl ?_
  refine er_loc (pc' := 8) rfl rfl rfl ?_
  refine er_loc (pc' := 9) rfl rfl rfl ?_
  refine er_cIz (pc' := 12) (rest := []) 1 rfl rfl rfl rfl rfl rfl (l_v5 _ _ _ _ n m hn hm _ (bg_le ht) _) ?_
  intro Z2
  refine er_k (pc' := 13) (nI 3) rfl rfl rfl ?_
  refine er_imul (pc' := 14) rfl rfl ?_
  refine er_iret rfl rfl ?_
  exact RI_of (by dsimp only) (by dsimp only)
set_option maxRecDepth 100000 in
set_option maxHeartbeats 4000000 in
theorem l_v11_4 (d : Nat) (X Z : Nat → Nat → Int32) (n m : Int32) (hn : X 51 2 = n) (hm : X 51 3 = m) (t : VT) (ht : t.1 ≤ 40) (x : Int32) : EC (d + 3) 11 [.ref 6, .ref 51, .int x] (Wd (XT X t) Z) (RI (vFits 4 n x t).1 (XT X (vFits 4 n x t).2)) := by
  refine er_enter (L := [(0, _), (1, _), (2, _)]) rfl rfl rfl ?_
  unfold vFits
  rw [if_pos (by omega)]
  refine er_loc (pc' := 1) rfl rfl rfl ?_
  refine er_k (pc' := 3) (nI 20) rfl rfl rfl ?_
  refine er_cIv (pc' := 6) (rest := []) 10 rfl rfl rfl rfl rfl rfl (l_begins _ _ _ _ ht _) ?_
  intro Z7
  refine er_loc (pc' := 7) rfl rfl rfl ?_
  refine er_loc (pc' := 8) rfl rfl rfl ?_
  refine er_loc (pc' := 9) rfl rfl rfl ?_
  refine er_cIz (pc' := 12) (rest := []) 4 rfl rfl rfl rfl rfl rfl (l_v5 _ _ _ _ n m hn hm _ (bg_le ht) _) ?_
  intro Z2
  refine er_k (pc' := 13) (nI 3) rfl rfl rfl ?_
  refine er_imul (pc' := 14) rfl rfl ?_
  refine er_iret rfl rfl ?_
  exact RI_of (by dsimp only) (by dsimp only)
def tgF (q : Nat) : Nat := if q = 1 ∨ q = 4 then 11 else 5
theorem l_vFits (d q : Nat) (hq : q < 7) (X Z : Nat → Nat → Int32) (n m : Int32) (hn : X 51 2 = n) (hm : X 51 3 = m) (t : VT) (ht : t.1 ≤ 40) (x : Int32) : EC (d + 3) (tgF q) [.ref (2 + q), .ref 51, .int x] (Wd (XT X t) Z) (RI (vFits q n x t).1 (XT X (vFits q n x t).2)) := by
  rcases lt7 hq with rfl | rfl | rfl | rfl | rfl | rfl | rfl
  · rw [show vFits 0 n x t = vPF n x t from if_neg (by omega)]; exact l_v5 (2 + 0) (d + 1) X Z n m hn hm t ht x
  · exact l_v11_1 d X Z n m hn hm t ht x
  · rw [show vFits 2 n x t = vPF n x t from if_neg (by omega)]; exact l_v5 (2 + 2) (d + 1) X Z n m hn hm t ht x
  · rw [show vFits 3 n x t = vPF n x t from if_neg (by omega)]; exact l_v5 (2 + 3) (d + 1) X Z n m hn hm t ht x
  · exact l_v11_4 d X Z n m hn hm t ht x
  · rw [show vFits 5 n x t = vPF n x t from if_neg (by omega)]; exact l_v5 (2 + 5) (d + 1) X Z n m hn hm t ht x
  · rw [show vFits 6 n x t = vPF n x t from if_neg (by omega)]; exact l_v5 (2 + 6) (d + 1) X Z n m hn hm t ht x
set_option maxRecDepth 100000 in
set_option maxHeartbeats 4000000 in
theorem l_v7_0 (d : Nat) (X Z : Nat → Nat → Int32) (n m : Int32) (hn : X 51 2 = n) (hm : X 51 3 = m) (t : VT) (ht : t.1 ≤ 40) (x : Int32) : EC (d + 4) 7 [.ref 2, .ref 51, .int x] (Wd (XT X t) Z) (RI (vPE 0 n x t).1 (XT X (vPE 0 n x t).2)) := by
  refine er_enter (L := [(0, _), (1, _), (2, _)]) rfl rfl rfl ?_
  unfold vPE
  refine er_loc (pc' := 1) rfl rfl rfl ?_
  refine er_k (pc' := 3) (nI 11) rfl rfl rfl ?_
  refine er_cIv (pc' := 6) (rest := []) 10 rfl rfl rfl rfl rfl rfl (l_begins _ _ _ _ ht _) ?_
  intro Z7
  refine er_loc (pc' := 7) rfl rfl rfl ?_
  refine er_loc (pc' := 8) rfl rfl rfl ?_
  refine er_loc (pc' := 9) rfl rfl rfl ?_
  refine er_cIz (pc' := 12) (rest := []) 0 rfl rfl rfl rfl rfl rfl (l_vFits _ 0 (by omega) _ _ n m hn hm _ (bg_le ht) _) ?_
  intro Z2
  refine er_k (pc' := 13) (nI 2) rfl rfl rfl ?_
  refine er_imul (pc' := 14) rfl rfl ?_
  refine er_iret rfl rfl ?_
  exact RI_of (by dsimp only) (by dsimp only)
set_option maxRecDepth 100000 in
set_option maxHeartbeats 4000000 in
theorem l_v7_1 (d : Nat) (X Z : Nat → Nat → Int32) (n m : Int32) (hn : X 51 2 = n) (hm : X 51 3 = m) (t : VT) (ht : t.1 ≤ 40) (x : Int32) : EC (d + 4) 7 [.ref 3, .ref 51, .int x] (Wd (XT X t) Z) (RI (vPE 1 n x t).1 (XT X (vPE 1 n x t).2)) := by
  refine er_enter (L := [(0, _), (1, _), (2, _)]) rfl rfl rfl ?_
  unfold vPE
  refine er_loc (pc' := 1) rfl rfl rfl ?_
  refine er_k (pc' := 3) (nI 11) rfl rfl rfl ?_
  refine er_cIv (pc' := 6) (rest := []) 10 rfl rfl rfl rfl rfl rfl (l_begins _ _ _ _ ht _) ?_
  intro Z7
  refine er_loc (pc' := 7) rfl rfl rfl ?_
  refine er_loc (pc' := 8) rfl rfl rfl ?_
  refine er_loc (pc' := 9) rfl rfl rfl ?_
  refine er_cIz (pc' := 12) (rest := []) 1 rfl rfl rfl rfl rfl rfl (l_vFits _ 1 (by omega) _ _ n m hn hm _ (bg_le ht) _) ?_
  intro Z2
  refine er_k (pc' := 13) (nI 2) rfl rfl rfl ?_
  refine er_imul (pc' := 14) rfl rfl ?_
  refine er_iret rfl rfl ?_
  exact RI_of (by dsimp only) (by dsimp only)
set_option maxRecDepth 100000 in
set_option maxHeartbeats 4000000 in
theorem l_v7_2 (d : Nat) (X Z : Nat → Nat → Int32) (n m : Int32) (hn : X 51 2 = n) (hm : X 51 3 = m) (t : VT) (ht : t.1 ≤ 40) (x : Int32) : EC (d + 4) 7 [.ref 4, .ref 51, .int x] (Wd (XT X t) Z) (RI (vPE 2 n x t).1 (XT X (vPE 2 n x t).2)) := by
  refine er_enter (L := [(0, _), (1, _), (2, _)]) rfl rfl rfl ?_
  unfold vPE
  refine er_loc (pc' := 1) rfl rfl rfl ?_
  refine er_k (pc' := 3) (nI 11) rfl rfl rfl ?_
  refine er_cIv (pc' := 6) (rest := []) 10 rfl rfl rfl rfl rfl rfl (l_begins _ _ _ _ ht _) ?_
  intro Z7
  refine er_loc (pc' := 7) rfl rfl rfl ?_
  refine er_loc (pc' := 8) rfl rfl rfl ?_
  refine er_loc (pc' := 9) rfl rfl rfl ?_
  refine er_cIz (pc' := 12) (rest := []) 2 rfl rfl rfl rfl rfl rfl (l_vFits _ 2 (by omega) _ _ n m hn hm _ (bg_le ht) _) ?_
  intro Z2
  refine er_k (pc' := 13) (nI 2) rfl rfl rfl ?_
  refine er_imul (pc' := 14) rfl rfl ?_
  refine er_iret rfl rfl ?_
  exact RI_of (by dsimp only) (by dsimp only)
set_option maxRecDepth 100000 in
set_option maxHeartbeats 4000000 in
theorem l_v7_3 (d : Nat) (X Z : Nat → Nat → Int32) (n m : Int32) (hn : X 51 2 = n) (hm : X 51 3 = m) (t : VT) (ht : t.1 ≤ 40) (x : Int32) : EC (d + 4) 7 [.ref 5, .ref 51, .int x] (Wd (XT X t) Z) (RI (vPE 3 n x t).1 (XT X (vPE 3 n x t).2)) := by
  refine er_enter (L := [(0, _), (1, _), (2, _)]) rfl rfl rfl ?_
  unfold vPE
  refine er_loc (pc' := 1) rfl rfl rfl ?_
  refine er_k (pc' := 3) (nI 11) rfl rfl rfl ?_
  refine er_cIv (pc' := 6) (rest := []) 10 rfl rfl rfl rfl rfl rfl (l_begins _ _ _ _ ht _) ?_
  intro Z7
  refine er_loc (pc' := 7) rfl rfl rfl ?_
  refine er_loc (pc' := 8) rfl rfl rfl ?_
  refine er_loc (pc' := 9) rfl rfl rfl ?_
  refine er_cIz (pc' := 12) (rest := []) 3 rfl rfl rfl rfl rfl rfl (l_vFits _ 3 (by omega) _ _ n m hn hm _ (bg_le ht) _) ?_
  intro Z2
  refine er_k (pc' := 13) (nI 2) rfl rfl rfl ?_
  refine er_imul (pc' := 14) rfl rfl ?_
  refine er_iret rfl rfl ?_
  exact RI_of (by dsimp only) (by dsimp only)
set_option maxRecDepth 100000 in
set_option maxHeartbeats 4000000 in
theorem l_v7_4 (d : Nat) (X Z : Nat → Nat → Int32) (n m : Int32) (hn : X 51 2 = n) (hm : X 51 3 = m) (t : VT) (ht : t.1 ≤ 40) (x : Int32) : EC (d + 4) 7 [.ref 6, .ref 51, .int x] (Wd (XT X t) Z) (RI (vPE 4 n x t).1 (XT X (vPE 4 n x t).2)) := by
  refine er_enter (L := [(0, _), (1, _), (2, _)]) rfl rfl rfl ?_
  unfold vPE
  refine er_loc (pc' := 1) rfl rfl rfl ?_
  refine er_k (pc' := 3) (nI 11) rfl rfl rfl ?_
  refine er_cIv (pc' := 6) (rest := []) 10 rfl rfl rfl rfl rfl rfl (l_begins _ _ _ _ ht _) ?_
  intro Z7
  refine er_loc (pc' := 7) rfl rfl rfl ?_
  refine er_loc (pc' := 8) rfl rfl rfl ?_
  refine er_loc (pc' := 9) rfl rfl rfl ?_
  refine er_cIz (pc' := 12) (rest := []) 4 rfl rfl rfl rfl rfl rfl (l_vFits _ 4 (by omega) _ _ n m hn hm _ (bg_le ht) _) ?_
  intro Z2
  refine er_k (pc' := 13) (nI 2) rfl rfl rfl ?_
  refine er_imul (pc' := 14) rfl rfl ?_
  refine er_iret rfl rfl ?_
  exact RI_of (by dsimp only) (by dsimp only)
set_option maxRecDepth 100000 in
set_option maxHeartbeats 4000000 in
theorem l_v7_5 (d : Nat) (X Z : Nat → Nat → Int32) (n m : Int32) (hn : X 51 2 = n) (hm : X 51 3 = m) (t : VT) (ht : t.1 ≤ 40) (x : Int32) : EC (d + 4) 7 [.ref 7, .ref 51, .int x] (Wd (XT X t) Z) (RI (vPE 5 n x t).1 (XT X (vPE 5 n x t).2)) := by
  refine er_enter (L := [(0, _), (1, _), (2, _)]) rfl rfl rfl ?_
  unfold vPE
  refine er_loc (pc' := 1) rfl rfl rfl ?_
  refine er_k (pc' := 3) (nI 11) rfl rfl rfl ?_
  refine er_cIv (pc' := 6) (rest := []) 10 rfl rfl rfl rfl rfl rfl (l_begins _ _ _ _ ht _) ?_
  intro Z7
  refine er_loc (pc' := 7) rfl rfl rfl ?_
  refine er_loc (pc' := 8) rfl rfl rfl ?_
  refine er_loc (pc' := 9) rfl rfl rfl ?_
  refine er_cIz (pc' := 12) (rest := []) 5 rfl rfl rfl rfl rfl rfl (l_vFits _ 5 (by omega) _ _ n m hn hm _ (bg_le ht) _) ?_
  intro Z2
  refine er_k (pc' := 13) (nI 2) rfl rfl rfl ?_
  refine er_imul (pc' := 14) rfl rfl ?_
  refine er_iret rfl rfl ?_
  exact RI_of (by dsimp only) (by dsimp only)
set_option maxRecDepth 100000 in
set_option maxHeartbeats 4000000 in
theorem l_v7_6 (d : Nat) (X Z : Nat → Nat → Int32) (n m : Int32) (hn : X 51 2 = n) (hm : X 51 3 = m) (t : VT) (ht : t.1 ≤ 40) (x : Int32) : EC (d + 4) 7 [.ref 8, .ref 51, .int x] (Wd (XT X t) Z) (RI (vPE 6 n x t).1 (XT X (vPE 6 n x t).2)) := by
  refine er_enter (L := [(0, _), (1, _), (2, _)]) rfl rfl rfl ?_
  unfold vPE
  refine er_loc (pc' := 1) rfl rfl rfl ?_
  refine er_k (pc' := 3) (nI 11) rfl rfl rfl ?_
  refine er_cIv (pc' := 6) (rest := []) 10 rfl rfl rfl rfl rfl rfl (l_begins _ _ _ _ ht _) ?_
  intro Z7
  refine er_loc (pc' := 7) rfl rfl rfl ?_
  refine er_loc (pc' := 8) rfl rfl rfl ?_
  refine er_loc (pc' := 9) rfl rfl rfl ?_
  refine er_cIz (pc' := 12) (rest := []) 6 rfl rfl rfl rfl rfl rfl (l_vFits _ 6 (by omega) _ _ n m hn hm _ (bg_le ht) _) ?_
  intro Z2
  refine er_k (pc' := 13) (nI 2) rfl rfl rfl ?_
  refine er_imul (pc' := 14) rfl rfl ?_
  refine er_iret rfl rfl ?_
  exact RI_of (by dsimp only) (by dsimp only)
set_option maxRecDepth 100000 in
set_option maxHeartbeats 4000000 in
theorem l_v19_3 (d : Nat) (X Z : Nat → Nat → Int32) (n m : Int32) (hn : X 51 2 = n) (hm : X 51 3 = m) (t : VT) (ht : t.1 ≤ 40) (x : Int32) : EC (d + 3) 19 [.ref 5, .ref 51, .int x] (Wd (XT X t) Z) (RI (vHL m x t).1 (XT X (vHL m x t).2)) := by
  refine er_enter (L := [(0, _), (1, _), (2, _)]) rfl rfl rfl ?_
  unfold vHL
  refine er_loc (pc' := 1) rfl rfl rfl ?_
  refine er_k (pc' := 3) (nI 40) rfl rfl rfl ?_
  refine er_cIv (pc' := 6) (rest := []) 10 rfl rfl rfl rfl rfl rfl (l_begins _ _ _ _ ht _) ?_
  intro Z7
  refine er_loc (pc' := 7) rfl rfl rfl ?_
  refine er_loc (pc' := 8) rfl rfl rfl ?_
  refine er_loc (pc' := 9) rfl rfl rfl ?_
  refine er_cIz (pc' := 12) (rest := []) 3 rfl rfl rfl rfl rfl rfl (l_v6 _ _ _ _ n m hn hm _ (bg_le ht) _) ?_
  intro Z2
  refine er_ineg (pc' := 13) rfl rfl ?_
  refine er_iret rfl rfl ?_
  exact RI_of (by dsimp only) (by dsimp only)
set_option maxRecDepth 100000 in
set_option maxHeartbeats 4000000 in
theorem l_v19_6 (d : Nat) (X Z : Nat → Nat → Int32) (n m : Int32) (hn : X 51 2 = n) (hm : X 51 3 = m) (t : VT) (ht : t.1 ≤ 40) (x : Int32) : EC (d + 3) 19 [.ref 8, .ref 51, .int x] (Wd (XT X t) Z) (RI (vHL m x t).1 (XT X (vHL m x t).2)) := by
  refine er_enter (L := [(0, _), (1, _), (2, _)]) rfl rfl rfl ?_
  unfold vHL
  refine er_loc (pc' := 1) rfl rfl rfl ?_
  refine er_k (pc' := 3) (nI 40) rfl rfl rfl ?_
  refine er_cIv (pc' := 6) (rest := []) 10 rfl rfl rfl rfl rfl rfl (l_begins _ _ _ _ ht _) ?_
  intro Z7
  refine er_loc (pc' := 7) rfl rfl rfl ?_
  refine er_loc (pc' := 8) rfl rfl rfl ?_
  refine er_loc (pc' := 9) rfl rfl rfl ?_
  refine er_cIz (pc' := 12) (rest := []) 6 rfl rfl rfl rfl rfl rfl (l_v6 _ _ _ _ n m hn hm _ (bg_le ht) _) ?_
  intro Z2
  refine er_ineg (pc' := 13) rfl rfl ?_
  refine er_iret rfl rfl ?_
  exact RI_of (by dsimp only) (by dsimp only)
set_option maxRecDepth 100000 in
set_option maxHeartbeats 4000000 in
theorem l_v29 (d : Nat) (X Z : Nat → Nat → Int32) (n m : Int32) (hn : X 51 2 = n) (hm : X 51 3 = m) (t : VT) (ht : t.1 ≤ 40) (x : Int32) : EC (d + 4) 29 [.ref 8, .ref 51, .int x] (Wd (XT X t) Z) (RI (vLooks 6 n m x t).1 (XT X (vLooks 6 n m x t).2)) := by
  refine er_enter (L := [(0, _), (1, _), (2, _)]) rfl rfl rfl ?_
  unfold vLooks
  rw [if_neg (by omega), if_pos rfl]
  refine er_loc (pc' := 1) rfl rfl rfl ?_
  refine er_k (pc' := 3) (nI 70) rfl rfl rfl ?_
  refine er_cIv (pc' := 6) (rest := []) 10 rfl rfl rfl rfl rfl rfl (l_begins _ _ _ _ ht _) ?_
  intro Z7
  refine er_loc (pc' := 7) rfl rfl rfl ?_
  refine er_loc (pc' := 8) rfl rfl rfl ?_
  refine er_loc (pc' := 9) rfl rfl rfl ?_
  refine er_cIz (pc' := 12) (rest := []) 6 rfl rfl rfl rfl rfl rfl (l_v19_6 _ _ _ n m hn hm _ (bg_le ht) _) ?_
  intro Z2
  refine er_loc (pc' := 13) rfl rfl rfl ?_
  refine er_gf (pc' := 16) (.int (X 51 2)) rfl rfl rfl rfl rfl ?_
  rw [hn]
  refine er_ixor (pc' := 17) rfl rfl ?_
  refine er_iret rfl rfl ?_
  exact RI_of (by dsimp only) (by dsimp only)
def tgK (q : Nat) : Nat := if q = 3 then 19 else if q = 6 then 29 else 6
theorem l_vLooks (d q : Nat) (hq : q < 7) (X Z : Nat → Nat → Int32) (n m : Int32) (hn : X 51 2 = n) (hm : X 51 3 = m) (t : VT) (ht : t.1 ≤ 40) (x : Int32) : EC (d + 4) (tgK q) [.ref (2 + q), .ref 51, .int x] (Wd (XT X t) Z) (RI (vLooks q n m x t).1 (XT X (vLooks q n m x t).2)) := by
  rcases lt7 hq with rfl | rfl | rfl | rfl | rfl | rfl | rfl
  · rw [show vLooks 0 n m x t = vPL m x t from by unfold vLooks; rw [if_neg (by omega), if_neg (by omega)]]; exact l_v6 (2 + 0) (d + 2) X Z n m hn hm t ht x
  · rw [show vLooks 1 n m x t = vPL m x t from by unfold vLooks; rw [if_neg (by omega), if_neg (by omega)]]; exact l_v6 (2 + 1) (d + 2) X Z n m hn hm t ht x
  · rw [show vLooks 2 n m x t = vPL m x t from by unfold vLooks; rw [if_neg (by omega), if_neg (by omega)]]; exact l_v6 (2 + 2) (d + 2) X Z n m hn hm t ht x
  · rw [show vLooks 3 n m x t = vHL m x t from if_pos rfl]; exact l_v19_3 (d + 1) X Z n m hn hm t ht x
  · rw [show vLooks 4 n m x t = vPL m x t from by unfold vLooks; rw [if_neg (by omega), if_neg (by omega)]]; exact l_v6 (2 + 4) (d + 2) X Z n m hn hm t ht x
  · rw [show vLooks 5 n m x t = vPL m x t from by unfold vLooks; rw [if_neg (by omega), if_neg (by omega)]]; exact l_v6 (2 + 5) (d + 2) X Z n m hn hm t ht x
  · exact l_v29 d X Z n m hn hm t ht x
set_option maxRecDepth 100000 in
set_option maxHeartbeats 4000000 in
theorem l_v15_2 (d : Nat) (X Z : Nat → Nat → Int32) (n m : Int32) (hn : X 51 2 = n) (hm : X 51 3 = m) (t : VT) (ht : t.1 ≤ 40) (x : Int32) : EC (d + 5) 15 [.ref 4, .ref 51, .int x] (Wd (XT X t) Z) (RI (vGE 2 n m x t).1 (XT X (vGE 2 n m x t).2)) := by
  refine er_enter (L := [(0, _), (1, _), (2, _)]) rfl rfl rfl ?_
  unfold vGE
  refine er_loc (pc' := 1) rfl rfl rfl ?_
  refine er_k (pc' := 3) (nI 30) rfl rfl rfl ?_
  refine er_cIv (pc' := 6) (rest := []) 10 rfl rfl rfl rfl rfl rfl (l_begins _ _ _ _ ht _) ?_
  intro Z7
  refine er_loc (pc' := 7) rfl rfl rfl ?_
  refine er_loc (pc' := 8) rfl rfl rfl ?_
  refine er_loc (pc' := 9) rfl rfl rfl ?_
  refine er_cIz (pc' := 12) (rest := []) 2 rfl rfl rfl rfl rfl rfl (l_v7_2 _ _ _ n m hn hm _ (bg_le ht) _) ?_
  intro Z2
  refine er_loc (pc' := 13) rfl rfl rfl ?_
  refine er_loc (pc' := 14) rfl rfl rfl ?_
  refine er_k (pc' := 15) (nI 1) rfl rfl rfl ?_
  refine er_cIz (pc' := 18) (rest := [_]) 2 rfl rfl rfl rfl rfl rfl (l_vLooks _ 2 (by omega) _ _ n m hn hm _ (vPE_le (q := 2) (n := n) (x := x) (bg_le ht)) _) ?_
  intro Z3
  refine er_isub (pc' := 19) rfl rfl ?_
  refine er_iret rfl rfl ?_
  exact RI_of (by dsimp only) (by dsimp only)
set_option maxRecDepth 100000 in
set_option maxHeartbeats 4000000 in
theorem l_v15_5 (d : Nat) (X Z : Nat → Nat → Int32) (n m : Int32) (hn : X 51 2 = n) (hm : X 51 3 = m) (t : VT) (ht : t.1 ≤ 40) (x : Int32) : EC (d + 5) 15 [.ref 7, .ref 51, .int x] (Wd (XT X t) Z) (RI (vGE 5 n m x t).1 (XT X (vGE 5 n m x t).2)) := by
  refine er_enter (L := [(0, _), (1, _), (2, _)]) rfl rfl rfl ?_
  unfold vGE
  refine er_loc (pc' := 1) rfl rfl rfl ?_
  refine er_k (pc' := 3) (nI 30) rfl rfl rfl ?_
  refine er_cIv (pc' := 6) (rest := []) 10 rfl rfl rfl rfl rfl rfl (l_begins _ _ _ _ ht _) ?_
  intro Z7
  refine er_loc (pc' := 7) rfl rfl rfl ?_
  refine er_loc (pc' := 8) rfl rfl rfl ?_
  refine er_loc (pc' := 9) rfl rfl rfl ?_
  refine er_cIz (pc' := 12) (rest := []) 5 rfl rfl rfl rfl rfl rfl (l_v7_5 _ _ _ n m hn hm _ (bg_le ht) _) ?_
  intro Z2
  refine er_loc (pc' := 13) rfl rfl rfl ?_
  refine er_loc (pc' := 14) rfl rfl rfl ?_
  refine er_k (pc' := 15) (nI 1) rfl rfl rfl ?_
  refine er_cIz (pc' := 18) (rest := [_]) 5 rfl rfl rfl rfl rfl rfl (l_vLooks _ 5 (by omega) _ _ n m hn hm _ (vPE_le (q := 5) (n := n) (x := x) (bg_le ht)) _) ?_
  intro Z3
  refine er_isub (pc' := 19) rfl rfl ?_
  refine er_iret rfl rfl ?_
  exact RI_of (by dsimp only) (by dsimp only)
set_option maxRecDepth 100000 in
set_option maxHeartbeats 4000000 in
theorem l_v25 (d : Nat) (X Z : Nat → Nat → Int32) (n m : Int32) (hn : X 51 2 = n) (hm : X 51 3 = m) (t : VT) (ht : t.1 ≤ 40) (x : Int32) : EC (d + 6) 25 [.ref 7, .ref 51, .int x] (Wd (XT X t) Z) (RI (vErrs 5 n m x t).1 (XT X (vErrs 5 n m x t).2)) := by
  refine er_enter (L := [(0, _), (1, _), (2, _)]) rfl rfl rfl ?_
  unfold vErrs
  rw [if_neg (by omega), if_pos rfl]
  refine er_loc (pc' := 1) rfl rfl rfl ?_
  refine er_k (pc' := 3) (nI 60) rfl rfl rfl ?_
  refine er_cIv (pc' := 6) (rest := []) 10 rfl rfl rfl rfl rfl rfl (l_begins _ _ _ _ ht _) ?_
  intro Z7
  refine er_loc (pc' := 7) rfl rfl rfl ?_
  refine er_loc (pc' := 8) rfl rfl rfl ?_
  refine er_loc (pc' := 9) rfl rfl rfl ?_
  refine er_k (pc' := 10) (nI 1) rfl rfl rfl ?_
  refine er_iadd (pc' := 11) rfl rfl ?_
  refine er_cIz (pc' := 14) (rest := []) 5 rfl rfl rfl rfl rfl rfl (l_v15_5 _ _ _ n m hn hm _ (bg_le ht) _) ?_
  intro Z2
  refine er_iret rfl rfl ?_
  exact RI_of (by dsimp only) (by dsimp only)
def tgE (q : Nat) : Nat := if q = 2 then 15 else if q = 5 then 25 else 7
theorem l_vErrs (d q : Nat) (hq : q < 7) (X Z : Nat → Nat → Int32) (n m : Int32) (hn : X 51 2 = n) (hm : X 51 3 = m) (t : VT) (ht : t.1 ≤ 40) (x : Int32) : EC (d + 6) (tgE q) [.ref (2 + q), .ref 51, .int x] (Wd (XT X t) Z) (RI (vErrs q n m x t).1 (XT X (vErrs q n m x t).2)) := by
  rcases lt7 hq with rfl | rfl | rfl | rfl | rfl | rfl | rfl
  · rw [show vErrs 0 n m x t = vPE 0 n x t from by unfold vErrs; rw [if_neg (by omega), if_neg (by omega)]]; exact l_v7_0 (d + 2) X Z n m hn hm t ht x
  · rw [show vErrs 1 n m x t = vPE 1 n x t from by unfold vErrs; rw [if_neg (by omega), if_neg (by omega)]]; exact l_v7_1 (d + 2) X Z n m hn hm t ht x
  · rw [show vErrs 2 n m x t = vGE 2 n m x t from if_pos rfl]; exact l_v15_2 (d + 1) X Z n m hn hm t ht x
  · rw [show vErrs 3 n m x t = vPE 3 n x t from by unfold vErrs; rw [if_neg (by omega), if_neg (by omega)]]; exact l_v7_3 (d + 2) X Z n m hn hm t ht x
  · rw [show vErrs 4 n m x t = vPE 4 n x t from by unfold vErrs; rw [if_neg (by omega), if_neg (by omega)]]; exact l_v7_4 (d + 2) X Z n m hn hm t ht x
  · exact l_v25 d X Z n m hn hm t ht x
  · rw [show vErrs 6 n m x t = vPE 6 n x t from by unfold vErrs; rw [if_neg (by omega), if_neg (by omega)]]; exact l_v7_6 (d + 2) X Z n m hn hm t ht x
set_option maxRecDepth 100000 in
set_option maxHeartbeats 4000000 in
theorem l_v8_0 (d : Nat) (X Z : Nat → Nat → Int32) (n m : Int32) (hn : X 51 2 = n) (hm : X 51 3 = m) (t : VT) (ht : t.1 ≤ 40) (x : Int32) : EC (d + 7) 8 [.ref 2, .ref 51, .int x] (Wd (XT X t) Z) (RI (vPU 0 n m x t).1 (XT X (vPU 0 n m x t).2)) := by
  refine er_enter (L := [(0, _), (1, _), (2, _)]) rfl rfl rfl ?_
  unfold vPU
  refine er_loc (pc' := 1) rfl rfl rfl ?_
  refine er_k (pc' := 3) (nI 13) rfl rfl rfl ?_
  refine er_cIv (pc' := 6) (rest := []) 10 rfl rfl rfl rfl rfl rfl (l_begins _ _ _ _ ht _) ?_
  intro Z7
  refine er_loc (pc' := 7) rfl rfl rfl ?_
  refine er_loc (pc' := 8) rfl rfl rfl ?_
  refine er_loc (pc' := 9) rfl rfl rfl ?_
  refine er_cIz (pc' := 12) (rest := []) 0 rfl rfl rfl rfl rfl rfl (l_vErrs _ 0 (by omega) _ _ n m hn hm _ (bg_le ht) _) ?_
  intro Z2
  refine er_loc (pc' := 13) rfl rfl rfl ?_
  refine er_loc (pc' := 14) rfl rfl rfl ?_
  refine er_loc (pc' := 15) rfl rfl rfl ?_
  refine er_cIz (pc' := 18) (rest := [_]) 0 rfl rfl rfl rfl rfl rfl (l_vLooks _ 0 (by omega) _ _ n m hn hm _ (vErrs_le (q := 0) (n := n) (m := m) (x := x) (bg_le ht)) _) ?_
  intro Z3
  refine er_ixor (pc' := 19) rfl rfl ?_
  refine er_iret rfl rfl ?_
  exact RI_of (by dsimp only) (by dsimp only)
set_option maxRecDepth 100000 in
set_option maxHeartbeats 4000000 in
theorem l_v8_1 (d : Nat) (X Z : Nat → Nat → Int32) (n m : Int32) (hn : X 51 2 = n) (hm : X 51 3 = m) (t : VT) (ht : t.1 ≤ 40) (x : Int32) : EC (d + 7) 8 [.ref 3, .ref 51, .int x] (Wd (XT X t) Z) (RI (vPU 1 n m x t).1 (XT X (vPU 1 n m x t).2)) := by
  refine er_enter (L := [(0, _), (1, _), (2, _)]) rfl rfl rfl ?_
  unfold vPU
  refine er_loc (pc' := 1) rfl rfl rfl ?_
  refine er_k (pc' := 3) (nI 13) rfl rfl rfl ?_
  refine er_cIv (pc' := 6) (rest := []) 10 rfl rfl rfl rfl rfl rfl (l_begins _ _ _ _ ht _) ?_
  intro Z7
  refine er_loc (pc' := 7) rfl rfl rfl ?_
  refine er_loc (pc' := 8) rfl rfl rfl ?_
  refine er_loc (pc' := 9) rfl rfl rfl ?_
  refine er_cIz (pc' := 12) (rest := []) 1 rfl rfl rfl rfl rfl rfl (l_vErrs _ 1 (by omega) _ _ n m hn hm _ (bg_le ht) _) ?_
  intro Z2
  refine er_loc (pc' := 13) rfl rfl rfl ?_
  refine er_loc (pc' := 14) rfl rfl rfl ?_
  refine er_loc (pc' := 15) rfl rfl rfl ?_
  refine er_cIz (pc' := 18) (rest := [_]) 1 rfl rfl rfl rfl rfl rfl (l_vLooks _ 1 (by omega) _ _ n m hn hm _ (vErrs_le (q := 1) (n := n) (m := m) (x := x) (bg_le ht)) _) ?_
  intro Z3
  refine er_ixor (pc' := 19) rfl rfl ?_
  refine er_iret rfl rfl ?_
  exact RI_of (by dsimp only) (by dsimp only)
set_option maxRecDepth 100000 in
set_option maxHeartbeats 4000000 in
theorem l_v8_2 (d : Nat) (X Z : Nat → Nat → Int32) (n m : Int32) (hn : X 51 2 = n) (hm : X 51 3 = m) (t : VT) (ht : t.1 ≤ 40) (x : Int32) : EC (d + 7) 8 [.ref 4, .ref 51, .int x] (Wd (XT X t) Z) (RI (vPU 2 n m x t).1 (XT X (vPU 2 n m x t).2)) := by
  refine er_enter (L := [(0, _), (1, _), (2, _)]) rfl rfl rfl ?_
  unfold vPU
  refine er_loc (pc' := 1) rfl rfl rfl ?_
  refine er_k (pc' := 3) (nI 13) rfl rfl rfl ?_
  refine er_cIv (pc' := 6) (rest := []) 10 rfl rfl rfl rfl rfl rfl (l_begins _ _ _ _ ht _) ?_
  intro Z7
  refine er_loc (pc' := 7) rfl rfl rfl ?_
  refine er_loc (pc' := 8) rfl rfl rfl ?_
  refine er_loc (pc' := 9) rfl rfl rfl ?_
  refine er_cIz (pc' := 12) (rest := []) 2 rfl rfl rfl rfl rfl rfl (l_vErrs _ 2 (by omega) _ _ n m hn hm _ (bg_le ht) _) ?_
  intro Z2
  refine er_loc (pc' := 13) rfl rfl rfl ?_
  refine er_loc (pc' := 14) rfl rfl rfl ?_
  refine er_loc (pc' := 15) rfl rfl rfl ?_
  refine er_cIz (pc' := 18) (rest := [_]) 2 rfl rfl rfl rfl rfl rfl (l_vLooks _ 2 (by omega) _ _ n m hn hm _ (vErrs_le (q := 2) (n := n) (m := m) (x := x) (bg_le ht)) _) ?_
  intro Z3
  refine er_ixor (pc' := 19) rfl rfl ?_
  refine er_iret rfl rfl ?_
  exact RI_of (by dsimp only) (by dsimp only)
set_option maxRecDepth 100000 in
set_option maxHeartbeats 4000000 in
theorem l_v8_3 (d : Nat) (X Z : Nat → Nat → Int32) (n m : Int32) (hn : X 51 2 = n) (hm : X 51 3 = m) (t : VT) (ht : t.1 ≤ 40) (x : Int32) : EC (d + 7) 8 [.ref 5, .ref 51, .int x] (Wd (XT X t) Z) (RI (vPU 3 n m x t).1 (XT X (vPU 3 n m x t).2)) := by
  refine er_enter (L := [(0, _), (1, _), (2, _)]) rfl rfl rfl ?_
  unfold vPU
  refine er_loc (pc' := 1) rfl rfl rfl ?_
  refine er_k (pc' := 3) (nI 13) rfl rfl rfl ?_
  refine er_cIv (pc' := 6) (rest := []) 10 rfl rfl rfl rfl rfl rfl (l_begins _ _ _ _ ht _) ?_
  intro Z7
  refine er_loc (pc' := 7) rfl rfl rfl ?_
  refine er_loc (pc' := 8) rfl rfl rfl ?_
  refine er_loc (pc' := 9) rfl rfl rfl ?_
  refine er_cIz (pc' := 12) (rest := []) 3 rfl rfl rfl rfl rfl rfl (l_vErrs _ 3 (by omega) _ _ n m hn hm _ (bg_le ht) _) ?_
  intro Z2
  refine er_loc (pc' := 13) rfl rfl rfl ?_
  refine er_loc (pc' := 14) rfl rfl rfl ?_
  refine er_loc (pc' := 15) rfl rfl rfl ?_
  refine er_cIz (pc' := 18) (rest := [_]) 3 rfl rfl rfl rfl rfl rfl (l_vLooks _ 3 (by omega) _ _ n m hn hm _ (vErrs_le (q := 3) (n := n) (m := m) (x := x) (bg_le ht)) _) ?_
  intro Z3
  refine er_ixor (pc' := 19) rfl rfl ?_
  refine er_iret rfl rfl ?_
  exact RI_of (by dsimp only) (by dsimp only)
set_option maxRecDepth 100000 in
set_option maxHeartbeats 4000000 in
theorem l_v8_4 (d : Nat) (X Z : Nat → Nat → Int32) (n m : Int32) (hn : X 51 2 = n) (hm : X 51 3 = m) (t : VT) (ht : t.1 ≤ 40) (x : Int32) : EC (d + 7) 8 [.ref 6, .ref 51, .int x] (Wd (XT X t) Z) (RI (vPU 4 n m x t).1 (XT X (vPU 4 n m x t).2)) := by
  refine er_enter (L := [(0, _), (1, _), (2, _)]) rfl rfl rfl ?_
  unfold vPU
  refine er_loc (pc' := 1) rfl rfl rfl ?_
  refine er_k (pc' := 3) (nI 13) rfl rfl rfl ?_
  refine er_cIv (pc' := 6) (rest := []) 10 rfl rfl rfl rfl rfl rfl (l_begins _ _ _ _ ht _) ?_
  intro Z7
  refine er_loc (pc' := 7) rfl rfl rfl ?_
  refine er_loc (pc' := 8) rfl rfl rfl ?_
  refine er_loc (pc' := 9) rfl rfl rfl ?_
  refine er_cIz (pc' := 12) (rest := []) 4 rfl rfl rfl rfl rfl rfl (l_vErrs _ 4 (by omega) _ _ n m hn hm _ (bg_le ht) _) ?_
  intro Z2
  refine er_loc (pc' := 13) rfl rfl rfl ?_
  refine er_loc (pc' := 14) rfl rfl rfl ?_
  refine er_loc (pc' := 15) rfl rfl rfl ?_
  refine er_cIz (pc' := 18) (rest := [_]) 4 rfl rfl rfl rfl rfl rfl (l_vLooks _ 4 (by omega) _ _ n m hn hm _ (vErrs_le (q := 4) (n := n) (m := m) (x := x) (bg_le ht)) _) ?_
  intro Z3
  refine er_ixor (pc' := 19) rfl rfl ?_
  refine er_iret rfl rfl ?_
  exact RI_of (by dsimp only) (by dsimp only)
set_option maxRecDepth 100000 in
set_option maxHeartbeats 4000000 in
theorem l_v8_5 (d : Nat) (X Z : Nat → Nat → Int32) (n m : Int32) (hn : X 51 2 = n) (hm : X 51 3 = m) (t : VT) (ht : t.1 ≤ 40) (x : Int32) : EC (d + 7) 8 [.ref 7, .ref 51, .int x] (Wd (XT X t) Z) (RI (vPU 5 n m x t).1 (XT X (vPU 5 n m x t).2)) := by
  refine er_enter (L := [(0, _), (1, _), (2, _)]) rfl rfl rfl ?_
  unfold vPU
  refine er_loc (pc' := 1) rfl rfl rfl ?_
  refine er_k (pc' := 3) (nI 13) rfl rfl rfl ?_
  refine er_cIv (pc' := 6) (rest := []) 10 rfl rfl rfl rfl rfl rfl (l_begins _ _ _ _ ht _) ?_
  intro Z7
  refine er_loc (pc' := 7) rfl rfl rfl ?_
  refine er_loc (pc' := 8) rfl rfl rfl ?_
  refine er_loc (pc' := 9) rfl rfl rfl ?_
  refine er_cIz (pc' := 12) (rest := []) 5 rfl rfl rfl rfl rfl rfl (l_vErrs _ 5 (by omega) _ _ n m hn hm _ (bg_le ht) _) ?_
  intro Z2
  refine er_loc (pc' := 13) rfl rfl rfl ?_
  refine er_loc (pc' := 14) rfl rfl rfl ?_
  refine er_loc (pc' := 15) rfl rfl rfl ?_
  refine er_cIz (pc' := 18) (rest := [_]) 5 rfl rfl rfl rfl rfl rfl (l_vLooks _ 5 (by omega) _ _ n m hn hm _ (vErrs_le (q := 5) (n := n) (m := m) (x := x) (bg_le ht)) _) ?_
  intro Z3
  refine er_ixor (pc' := 19) rfl rfl ?_
  refine er_iret rfl rfl ?_
  exact RI_of (by dsimp only) (by dsimp only)
set_option maxRecDepth 100000 in
set_option maxHeartbeats 4000000 in
theorem l_v8_6 (d : Nat) (X Z : Nat → Nat → Int32) (n m : Int32) (hn : X 51 2 = n) (hm : X 51 3 = m) (t : VT) (ht : t.1 ≤ 40) (x : Int32) : EC (d + 7) 8 [.ref 8, .ref 51, .int x] (Wd (XT X t) Z) (RI (vPU 6 n m x t).1 (XT X (vPU 6 n m x t).2)) := by
  refine er_enter (L := [(0, _), (1, _), (2, _)]) rfl rfl rfl ?_
  unfold vPU
  refine er_loc (pc' := 1) rfl rfl rfl ?_
  refine er_k (pc' := 3) (nI 13) rfl rfl rfl ?_
  refine er_cIv (pc' := 6) (rest := []) 10 rfl rfl rfl rfl rfl rfl (l_begins _ _ _ _ ht _) ?_
  intro Z7
  refine er_loc (pc' := 7) rfl rfl rfl ?_
  refine er_loc (pc' := 8) rfl rfl rfl ?_
  refine er_loc (pc' := 9) rfl rfl rfl ?_
  refine er_cIz (pc' := 12) (rest := []) 6 rfl rfl rfl rfl rfl rfl (l_vErrs _ 6 (by omega) _ _ n m hn hm _ (bg_le ht) _) ?_
  intro Z2
  refine er_loc (pc' := 13) rfl rfl rfl ?_
  refine er_loc (pc' := 14) rfl rfl rfl ?_
  refine er_loc (pc' := 15) rfl rfl rfl ?_
  refine er_cIz (pc' := 18) (rest := [_]) 6 rfl rfl rfl rfl rfl rfl (l_vLooks _ 6 (by omega) _ _ n m hn hm _ (vErrs_le (q := 6) (n := n) (m := m) (x := x) (bg_le ht)) _) ?_
  intro Z3
  refine er_ixor (pc' := 19) rfl rfl ?_
  refine er_iret rfl rfl ?_
  exact RI_of (by dsimp only) (by dsimp only)
set_option maxRecDepth 100000 in
set_option maxHeartbeats 4000000 in
theorem l_v22 (d : Nat) (X Z : Nat → Nat → Int32) (n m : Int32) (hn : X 51 2 = n) (hm : X 51 3 = m) (t : VT) (ht : t.1 ≤ 40) (x : Int32) : EC (d + 8) 22 [.ref 6, .ref 51, .int x] (Wd (XT X t) Z) (RI (vUndoes 4 n m x t).1 (XT X (vUndoes 4 n m x t).2)) := by
  refine er_enter (L := [(0, _), (1, _), (2, _)]) rfl rfl rfl ?_
  unfold vUndoes
  rw [if_pos rfl]
  refine er_loc (pc' := 1) rfl rfl rfl ?_
  refine er_k (pc' := 3) (nI 50) rfl rfl rfl ?_
  refine er_cIv (pc' := 6) (rest := []) 10 rfl rfl rfl rfl rfl rfl (l_begins _ _ _ _ ht _) ?_
  intro Z7
  refine er_loc (pc' := 7) rfl rfl rfl ?_
  refine er_loc (pc' := 8) rfl rfl rfl ?_
  refine er_loc (pc' := 9) rfl rfl rfl ?_
  refine er_cIz (pc' := 12) (rest := []) 4 rfl rfl rfl rfl rfl rfl (l_v8_4 _ _ _ n m hn hm _ (bg_le ht) _) ?_
  intro Z2
  refine er_loc (pc' := 13) rfl rfl rfl ?_
  refine er_loc (pc' := 14) rfl rfl rfl ?_
  refine er_k (pc' := 15) (nI 2) rfl rfl rfl ?_
  refine er_cIz (pc' := 18) (rest := [_]) 4 rfl rfl rfl rfl rfl rfl (l_vFits _ 4 (by omega) _ _ n m hn hm _ (vPU_le (q := 4) (n := n) (m := m) (x := x) (bg_le ht)) _) ?_
  intro Z3
  refine er_isub (pc' := 19) rfl rfl ?_
  refine er_iret rfl rfl ?_
  exact RI_of (by dsimp only) (by dsimp only)
set_option maxRecDepth 100000 in
set_option maxHeartbeats 4000000 in
theorem l_v30 (d : Nat) (X Z : Nat → Nat → Int32) (n m : Int32) (hn : X 51 2 = n) (hm : X 51 3 = m) (t : VT) (ht : t.1 ≤ 40) (x : Int32) : EC (d + 8) 30 [.ref 8, .ref 51, .int x] (Wd (XT X t) Z) (RI (vUndoes 6 n m x t).1 (XT X (vUndoes 6 n m x t).2)) := by
  refine er_enter (L := [(0, _), (1, _), (2, _)]) rfl rfl rfl ?_
  unfold vUndoes
  rw [if_neg (by omega), if_pos rfl]
  refine er_loc (pc' := 1) rfl rfl rfl ?_
  refine er_k (pc' := 3) (nI 71) rfl rfl rfl ?_
  refine er_cIv (pc' := 6) (rest := []) 10 rfl rfl rfl rfl rfl rfl (l_begins _ _ _ _ ht _) ?_
  intro Z7
  refine er_loc (pc' := 7) rfl rfl rfl ?_
  refine er_loc (pc' := 8) rfl rfl rfl ?_
  refine er_loc (pc' := 9) rfl rfl rfl ?_
  refine er_cIz (pc' := 12) (rest := []) 6 rfl rfl rfl rfl rfl rfl (l_vErrs _ 6 (by omega) _ _ n m hn hm _ (bg_le ht) _) ?_
  intro Z2
  refine er_loc (pc' := 13) rfl rfl rfl ?_
  refine er_loc (pc' := 14) rfl rfl rfl ?_
  refine er_loc (pc' := 15) rfl rfl rfl ?_
  refine er_cIz (pc' := 18) (rest := [_]) 6 rfl rfl rfl rfl rfl rfl (l_v8_6 _ _ _ n m hn hm _ (vErrs_le (q := 6) (n := n) (m := m) (x := x) (bg_le ht)) _) ?_
  intro Z3
  refine er_isub (pc' := 19) rfl rfl ?_
  refine er_iret rfl rfl ?_
  exact RI_of (by dsimp only) (by dsimp only)
def tgU (q : Nat) : Nat := if q = 4 then 22 else if q = 6 then 30 else 8
theorem l_vUndoes (d q : Nat) (hq : q < 7) (X Z : Nat → Nat → Int32) (n m : Int32) (hn : X 51 2 = n) (hm : X 51 3 = m) (t : VT) (ht : t.1 ≤ 40) (x : Int32) : EC (d + 8) (tgU q) [.ref (2 + q), .ref 51, .int x] (Wd (XT X t) Z) (RI (vUndoes q n m x t).1 (XT X (vUndoes q n m x t).2)) := by
  rcases lt7 hq with rfl | rfl | rfl | rfl | rfl | rfl | rfl
  · rw [show vUndoes 0 n m x t = vPU 0 n m x t from by unfold vUndoes; rw [if_neg (by omega), if_neg (by omega)]]; exact l_v8_0 (d + 1) X Z n m hn hm t ht x
  · rw [show vUndoes 1 n m x t = vPU 1 n m x t from by unfold vUndoes; rw [if_neg (by omega), if_neg (by omega)]]; exact l_v8_1 (d + 1) X Z n m hn hm t ht x
  · rw [show vUndoes 2 n m x t = vPU 2 n m x t from by unfold vUndoes; rw [if_neg (by omega), if_neg (by omega)]]; exact l_v8_2 (d + 1) X Z n m hn hm t ht x
  · rw [show vUndoes 3 n m x t = vPU 3 n m x t from by unfold vUndoes; rw [if_neg (by omega), if_neg (by omega)]]; exact l_v8_3 (d + 1) X Z n m hn hm t ht x
  · exact l_v22 d X Z n m hn hm t ht x
  · rw [show vUndoes 5 n m x t = vPU 5 n m x t from by unfold vUndoes; rw [if_neg (by omega), if_neg (by omega)]]; exact l_v8_5 (d + 1) X Z n m hn hm t ht x
  · exact l_v30 d X Z n m hn hm t ht x
def xStart (X : Nat → Nat → Int32) (n m : Int32) : Nat → Nat → Int32 := ud (ud (ud X 51 1 (nI 0)) 51 2 n) 51 3 m
theorem XT_id {X : Nat → Nat → Int32} {g : Nat} (h : X 51 1 = nI g) : XT X (g, X 52) = X := by
  unfold XT
  rw [uc_id, ← h, ud_id]
theorem XT_start {X : Nat → Nat → Int32} {n m : Int32} : XT (xStart X n m) (0, X 52) = xStart X n m := by
  have e : X 52 = xStart X n m 52 := by
    unfold xStart
    rw [ud_ne (by omega), ud_ne (by omega), ud_ne (by omega)]
  rw [e]
  exact XT_id rfl
def sVoice (q k : Nat) (m w x : Int32) (t : VT) : Int32 × VT := if w = 0 then vFits q (nI k) x t else if w = 1 then vErrs q (nI k) m x t else if w = 2 then vLooks q (nI k) m x t else vUndoes q (nI k) m x t
set_option maxRecDepth 100000 in
set_option maxHeartbeats 4000000 in
theorem l_start (d : Nat) (X Z : Nat → Nat → Int32) (n m : Int32) : EC (d + 1) 71 [.ref 51, .int n, .int m] (Wd X Z) (RV (xStart X n m)) := by
  refine er_enter (L := [(0, _), (1, _), (2, _)]) rfl rfl rfl ?_
  refine er_loc (pc' := 1) rfl rfl rfl ?_
  refine er_k (pc' := 2) (nI 0) rfl rfl rfl ?_
  refine er_pfIX (pc' := 5) 1 rfl rfl rfl rfl rfl rfl ?_
  refine er_loc (pc' := 6) rfl rfl rfl ?_
  refine er_loc (pc' := 7) rfl rfl rfl ?_
  refine er_pfIX (pc' := 10) 2 rfl rfl rfl rfl rfl rfl ?_
  refine er_loc (pc' := 11) rfl rfl rfl ?_
  refine er_loc (pc' := 12) rfl rfl rfl ?_
  refine er_pfIX (pc' := 15) 3 rfl rfl rfl rfl rfl rfl ?_
  refine er_vret rfl rfl ?_
  exact RV_of rfl
set_option maxRecDepth 100000 in
set_option maxHeartbeats 4000000 in
theorem l_voice (d : Nat) (X Z : Nat → Nat → Int32) {T : Nat} (hI : IJ T (jx X 9)) {k : Nat} (hk : k < jn (jx X 9)) (w x : Int32) : EC (d + 9) 110 [.ref 0, .int (nI k), .int w, .int x] (Wd X Z) (fun r => if sIn w (nI 0) (nI 3) = true then RI (sVoice (sKind (jx X 9) k) k (jx X 9 2 k) w x (0, X 52)).1 (XT (xStart X (nI k) (jx X 9 2 k)) (sVoice (sKind (jx X 9) k) k (jx X 9 2 k) w x (0, X 52)).2) r else RI (sErr 1) (xErr X 1) r) := by
  refine er_enter (L := [(0, _), (1, _), (2, _), (3, _)]) rfl rfl rfl ?_
  have h8 := jn8 hI
  have hk8 : k < 8 := by omega
  have hq := kind7 hI k
  refine er_loc (pc' := 1) rfl rfl rfl ?_
  refine er_gf (pc' := 4) (_) rfl rfl rfl rfl rfl ?_
  refine er_loc (pc' := 5) rfl rfl rfl ?_
  refine er_cIi (pc' := 8) (rest := []) 7 rfl rfl rfl rfl rfl rfl (l_has_t _ j9 _ _ hI hk) ?_
  refine er_if_eqF (pc' := 11) rfl (by decide +kernel) rfl ?_
  refine er_loc (pc' := 12) rfl rfl rfl ?_
  refine er_k (pc' := 13) (nI 0) rfl rfl rfl ?_
  refine er_k (pc' := 14) (nI 3) rfl rfl rfl ?_
  refine er_cSi (pc' := 17) (rest := []) rfl rfl rfl (l_within _ _ _ _ _) ?_
  refine er_if_neb (pc' := 20) rfl rfl (fun h17 => ?_) (fun h17 => ?_)
  · refine er_loc (pc' := 27) rfl rfl rfl ?_
    refine er_gf (pc' := 30) (_) rfl rfl rfl rfl rfl ?_
    refine er_loc (pc' := 31) rfl rfl rfl ?_
    refine er_loc (pc' := 32) rfl rfl rfl ?_
    refine er_gf (pc' := 35) (_) rfl rfl rfl rfl rfl ?_
    refine er_gf (pc' := 38) (_) rfl rfl rfl rfl rfl ?_
    refine er_loc (pc' := 39) rfl rfl rfl ?_
    refine er_ia (pc' := 40) (k) rfl rfl rfl rfl hk8 rfl rfl ?_
    refine er_cIv (pc' := 43) (rest := []) 10 rfl rfl rfl rfl rfl rfl (l_start _ _ _ _ _) ?_
    intro Z6
    have hjS : jx (xStart X (nI k) (X 11 k)) 9 = jx X 9 := jx_off (fun c _ hc => by unfold xStart; rw [ud_ne (by omega), ud_ne (by omega), ud_ne (by omega)])
    refine er_loc (pc' := 44) rfl rfl rfl ?_
    refine er_gf (pc' := 47) (_) rfl rfl rfl rfl rfl ?_
    refine er_loc (pc' := 48) rfl rfl rfl ?_
    refine er_cIr (pc' := 51) (rest := []) 7 rfl rfl rfl rfl rfl rfl (l_kindOf _ j9 _ _ (by rw [hjS]; exact hI) (by rw [hjS]; exact hk)) ?_
    rw [hjS, ← XT_start]
    refine er_loc (pc' := 53) (L' := [(4, _), (0, _), (1, _), (2, _), (3, _)]) rfl rfl rfl ?_
    refine er_loc (pc' := 54) rfl rfl rfl ?_
    refine er_sw (0) rfl rfl (fun s54_0 => ?_) (fun s54_0 => ?_)
    · refine er_loc (pc' := 82) rfl rfl rfl ?_
      refine er_loc (pc' := 83) rfl rfl rfl ?_
      refine er_gf (pc' := 86) (_) rfl rfl rfl rfl rfl ?_
      refine er_loc (pc' := 87) rfl rfl rfl ?_
      refine er_cIz (pc' := 90) (rest := []) (sKind (jx X 9) k) rfl rfl (by rcases lt7 hq with e | e | e | e | e | e | e <;> rw [e] <;> rfl) (blt_S hq) (cO_S hq _ _) rfl (l_vFits _ (sKind (jx X 9) k) hq _ _ (nI k) (X 11 k) rfl rfl (0, X 52) (by omega) _) ?_
      intro Z3
      refine er_iret rfl rfl ?_
      rw [if_pos h17]
      have e : sVoice (sKind (jx X 9) k) k (jx X 9 2 k) w x (0, X 52) = vFits (sKind (jx X 9) k) (nI k) x (0, X 52) := by
        unfold sVoice
        rw [jx2 hk8]
        rw [if_pos s54_0]
      rw [e, jx2 hk8]
      exact RI_of rfl rfl
    refine er_sw (1) rfl rfl (fun s54_1 => ?_) (fun s54_1 => ?_)
    · refine er_loc (pc' := 93) rfl rfl rfl ?_
      refine er_loc (pc' := 94) rfl rfl rfl ?_
      refine er_gf (pc' := 97) (_) rfl rfl rfl rfl rfl ?_
      refine er_loc (pc' := 98) rfl rfl rfl ?_
      refine er_cIz (pc' := 101) (rest := []) (sKind (jx X 9) k) rfl rfl (by rcases lt7 hq with e | e | e | e | e | e | e <;> rw [e] <;> rfl) (blt_S hq) (cO_S hq _ _) rfl (l_vErrs _ (sKind (jx X 9) k) hq _ _ (nI k) (X 11 k) rfl rfl (0, X 52) (by omega) _) ?_
      intro Z3
      refine er_iret rfl rfl ?_
      rw [if_pos h17]
      have e : sVoice (sKind (jx X 9) k) k (jx X 9 2 k) w x (0, X 52) = vErrs (sKind (jx X 9) k) (nI k) (X 11 k) x (0, X 52) := by
        unfold sVoice
        rw [jx2 hk8]
        rw [if_neg s54_0, if_pos s54_1]
      rw [e, jx2 hk8]
      exact RI_of rfl rfl
    refine er_sw (2) rfl rfl (fun s54_2 => ?_) (fun s54_2 => ?_)
    · refine er_loc (pc' := 104) rfl rfl rfl ?_
      refine er_loc (pc' := 105) rfl rfl rfl ?_
      refine er_gf (pc' := 108) (_) rfl rfl rfl rfl rfl ?_
      refine er_loc (pc' := 109) rfl rfl rfl ?_
      refine er_cIz (pc' := 112) (rest := []) (sKind (jx X 9) k) rfl rfl (by rcases lt7 hq with e | e | e | e | e | e | e <;> rw [e] <;> rfl) (blt_S hq) (cO_S hq _ _) rfl (l_vLooks _ (sKind (jx X 9) k) hq _ _ (nI k) (X 11 k) rfl rfl (0, X 52) (by omega) _) ?_
      intro Z3
      refine er_iret rfl rfl ?_
      rw [if_pos h17]
      have e : sVoice (sKind (jx X 9) k) k (jx X 9 2 k) w x (0, X 52) = vLooks (sKind (jx X 9) k) (nI k) (X 11 k) x (0, X 52) := by
        unfold sVoice
        rw [jx2 hk8]
        rw [if_neg s54_0, if_neg s54_1, if_pos s54_2]
      rw [e, jx2 hk8]
      exact RI_of rfl rfl
    refine er_tsD [0, 1, 2] rfl rfl rfl rfl (List.forall_mem_cons.mpr ⟨ne_toInt s54_0 rfl, List.forall_mem_cons.mpr ⟨ne_toInt s54_1 rfl, List.forall_mem_cons.mpr ⟨ne_toInt s54_2 rfl, fun _ h => absurd h List.not_mem_nil⟩⟩⟩) ?_
    refine er_loc (pc' := 115) rfl rfl rfl ?_
    refine er_loc (pc' := 116) rfl rfl rfl ?_
    refine er_gf (pc' := 119) (_) rfl rfl rfl rfl rfl ?_
    refine er_loc (pc' := 120) rfl rfl rfl ?_
    refine er_cIz (pc' := 123) (rest := []) (sKind (jx X 9) k) rfl rfl (by rcases lt7 hq with e | e | e | e | e | e | e <;> rw [e] <;> rfl) (blt_S hq) (cO_S hq _ _) rfl (l_vUndoes _ (sKind (jx X 9) k) hq _ _ (nI k) (X 11 k) rfl rfl (0, X 52) (by omega) _) ?_
    intro Z3
    refine er_iret rfl rfl ?_
    rw [if_pos h17]
    have e : sVoice (sKind (jx X 9) k) k (jx X 9 2 k) w x (0, X 52) = vUndoes (sKind (jx X 9) k) (nI k) (X 11 k) x (0, X 52) := by
      unfold sVoice
      rw [jx2 hk8]
      rw [if_neg s54_0, if_neg s54_1, if_neg s54_2]
    rw [e, jx2 hk8]
    exact RI_of rfl rfl
  · refine er_loc (pc' := 21) rfl rfl rfl ?_
    refine er_k (pc' := 22) (nI 1) rfl rfl rfl ?_
    refine er_cIz (pc' := 25) (rest := []) 11 rfl rfl rfl rfl rfl rfl (l_error _ _ _ 1 (by decide)) ?_
    intro Z9
    refine er_iret rfl rfl ?_
    rw [if_neg (by rw [h17]; decide)]
    exact RI_of rfl rfl
end
section
/-! TEXTS of names: which of them a byte is -/
def nmI (u : Nat) (b : Nat) : Int32 := if u = 0 then (if b = 115 then nI 0 else if b = 109 then nI 1 else if b = 116 then nI 2 else -1) else (if b = 109 then nI 0 else if b = 116 then nI 1 else if b = 107 then nI 2 else -1)
theorem i8_eq {b c : Nat} (hb : b ≤ 255) (hc : c ≤ 127) : (nI b).toInt8.toInt32 = nI c ↔ b = c := by
  have h := fin_le (m := 255) (p := fun b => (nI b).toInt8.toInt32 = if b ≤ 127 then nI b else nI b - nI 256) hb (by decide +kernel)
  rw [h]
  split
  · exact nI_eq (by omega) (by omega)
  · constructor
    · intro e
      have e2 : (nI b - nI 256).toInt = (nI c).toInt := by rw [e]
      have e3 := fin_le (m := 255) (p := fun b => (nI b - nI 256).toInt < 0) hb (by decide +kernel)
      rw [e2, nI_toInt (by omega)] at e3
      omega
    · intro e; omega
theorem i2c_b {b : Nat} (hb : b ≤ 255) : ((nI b).toUInt32 % 65536).toInt32 = nI b := fin_le (m := 255) (p := fun b => ((nI b).toUInt32 % 65536).toInt32 = nI b) hb (by decide +kernel)
set_option maxRecDepth 100000 in
set_option maxHeartbeats 4000000 in
theorem l_canEncode (d : Nat) (b : Nat) (hb : b ≤ 255) (w : ab_W) : EC (d + 1) 233 [.int (nI b)] w (PI (bI true) w) := by
  refine er_enter (L := [(0, _)]) rfl rfl rfl ?_
  refine er_loc (pc' := 1) rfl rfl rfl ?_
  refine er_if_ltF (pc' := 4) rfl (nI_pos (by omega)) rfl ?_
  refine er_loc (pc' := 5) rfl rfl rfl ?_
  refine er_k (pc' := 8) (nI 255) rfl rfl rfl ?_
  refine er_cm_gtF (pc' := 11) rfl (nI_nlt (by omega) (by omega)) rfl ?_
  refine er_k (pc' := 12) (nI 1) rfl rfl rfl ?_
  refine er_goto rfl ?_
  refine er_ret _ rfl rfl ?_
  exact PI_of rfl
set_option maxRecDepth 100000 in
set_option maxHeartbeats 4000000 in
theorem l_isLatin_0 (d : Nat) (w : ab_W) : EC (d + 1) 229 [.ref 1000101] w (PI (bI true) w) := by
  refine er_enter (L := [(0, _)]) rfl rfl rfl ?_
  refine er_heap (pc' := 3) (st' := [.int (nI 1)]) rfl rfl rfl ?_
  refine er_if_eqF (pc' := 6) rfl (by decide +kernel) rfl ?_
  refine er_loc (pc' := 7) rfl rfl rfl ?_
  refine er_heap (pc' := 10) (st' := [.int (nI 0)]) rfl rfl rfl ?_
  refine er_if_neF (pc' := 13) rfl (by decide +kernel) rfl ?_
  refine er_k (pc' := 14) (nI 1) rfl rfl rfl ?_
  refine er_goto rfl ?_
  refine er_ret _ rfl rfl ?_
  exact PI_of rfl
set_option maxRecDepth 100000 in
set_option maxHeartbeats 4000000 in
theorem l_coder_0 (d : Nat) (w : ab_W) : EC (d + 1) 231 [.ref 1000101] w (PI (nI 0) w) := by
  refine er_enter (L := [(0, _)]) rfl rfl rfl ?_
  refine er_heap (pc' := 3) (st' := [.int (nI 1)]) rfl rfl rfl ?_
  refine er_if_eqF (pc' := 6) rfl (by decide +kernel) rfl ?_
  refine er_loc (pc' := 7) rfl rfl rfl ?_
  refine er_heap (pc' := 10) (st' := [.int (nI 0)]) rfl rfl rfl ?_
  refine er_goto rfl ?_
  refine er_ret _ rfl rfl ?_
  exact PI_of rfl
set_option maxRecDepth 100000 in
set_option maxHeartbeats 4000000 in
theorem l_length_0 (d : Nat) (w : ab_W) : EC (d + 2) 230 [.ref 1000101] w (PI (nI 3) w) := by
  refine er_enter (L := [(0, _)]) rfl rfl rfl ?_
  refine er_loc (pc' := 1) rfl rfl rfl ?_
  refine er_heap (pc' := 4) (st' := [.ref 1000201]) rfl rfl rfl ?_
  refine er_heap (pc' := 5) (st' := [.int (nI 3)]) rfl rfl rfl ?_
  refine er_loc (pc' := 6) rfl rfl rfl ?_
  refine er_cT (pc' := 9) rfl rfl rfl (l_coder_0 _ _) ?_
  refine er_ishr (pc' := 10) rfl rfl ?_
  refine er_iret rfl rfl ?_
  exact PI_of (by decide +kernel)
set_option maxRecDepth 100000 in
set_option maxHeartbeats 4000000 in
theorem l_idxChar_0 (d : Nat) (b : Nat) (hb : b ≤ 255) (w : ab_W) : EC (d + 1) 234 [.ref 1000201, .int (nI b), .int (nI 0), .int (nI 3)] w (PI (nmI 0 b) w) := by
  refine er_enter (L := [(0, _), (1, _), (2, _), (3, _)]) rfl rfl rfl ?_
  refine er_loc (pc' := 1) rfl rfl rfl ?_
  refine er_i2b (pc' := 2) rfl rfl ?_
  refine er_loc (L' := [(4, _), (0, _), (1, _), (2, _), (3, _)]) (pc' := 4) rfl rfl rfl ?_
  refine er_loc (pc' := 5) rfl rfl rfl ?_
  refine er_loc (L' := [(5, _), (4, _), (0, _), (1, _), (2, _), (3, _)]) (pc' := 7) rfl rfl rfl ?_
  refine er_loc (pc' := 9) rfl rfl rfl ?_
  refine er_loc (pc' := 10) rfl rfl rfl ?_
  refine er_cm_geF (pc' := 13) rfl (by decide +kernel) rfl ?_
  refine er_loc (pc' := 14) rfl rfl rfl ?_
  refine er_loc (pc' := 16) rfl rfl rfl ?_
  refine er_heap (pc' := 17) (st' := [.int (nI 115)]) rfl rfl rfl ?_
  refine er_loc (pc' := 19) rfl rfl rfl ?_
  refine er_cm_ne (pc' := 22) rfl rfl (fun h0 => ?_) (fun h0 => ?_)
  rotate_left
  · have e := (i8_eq hb (by omega)).mp h0.symm
    refine er_loc (pc' := 24) rfl rfl rfl ?_
    refine er_iret rfl rfl ?_
    subst e
    exact PI_of (by decide +kernel)
  have n0 : ¬ b = 115 := fun e => h0 ((i8_eq hb (by omega)).mpr e).symm
  refine er_loc (L' := [(5, .int (_ + nI 1)), (4, _), (0, _), (1, _), (2, _), (3, _)]) (pc' := 28) rfl rfl rfl ?_
  refine er_goto rfl ?_
  rw [nI_add]
  refine er_loc (pc' := 9) rfl rfl rfl ?_
  refine er_loc (pc' := 10) rfl rfl rfl ?_
  refine er_cm_geF (pc' := 13) rfl (by decide +kernel) rfl ?_
  refine er_loc (pc' := 14) rfl rfl rfl ?_
  refine er_loc (pc' := 16) rfl rfl rfl ?_
  refine er_heap (pc' := 17) (st' := [.int (nI 109)]) rfl rfl rfl ?_
  refine er_loc (pc' := 19) rfl rfl rfl ?_
  refine er_cm_ne (pc' := 22) rfl rfl (fun h1 => ?_) (fun h1 => ?_)
  rotate_left
  · have e := (i8_eq hb (by omega)).mp h1.symm
    refine er_loc (pc' := 24) rfl rfl rfl ?_
    refine er_iret rfl rfl ?_
    subst e
    exact PI_of (by decide +kernel)
  have n1 : ¬ b = 109 := fun e => h1 ((i8_eq hb (by omega)).mpr e).symm
  refine er_loc (L' := [(5, .int (_ + nI 1)), (4, _), (0, _), (1, _), (2, _), (3, _)]) (pc' := 28) rfl rfl rfl ?_
  refine er_goto rfl ?_
  rw [nI_add]
  refine er_loc (pc' := 9) rfl rfl rfl ?_
  refine er_loc (pc' := 10) rfl rfl rfl ?_
  refine er_cm_geF (pc' := 13) rfl (by decide +kernel) rfl ?_
  refine er_loc (pc' := 14) rfl rfl rfl ?_
  refine er_loc (pc' := 16) rfl rfl rfl ?_
  refine er_heap (pc' := 17) (st' := [.int (nI 116)]) rfl rfl rfl ?_
  refine er_loc (pc' := 19) rfl rfl rfl ?_
  refine er_cm_ne (pc' := 22) rfl rfl (fun h2 => ?_) (fun h2 => ?_)
  rotate_left
  · have e := (i8_eq hb (by omega)).mp h2.symm
    refine er_loc (pc' := 24) rfl rfl rfl ?_
    refine er_iret rfl rfl ?_
    subst e
    exact PI_of (by decide +kernel)
  have n2 : ¬ b = 116 := fun e => h2 ((i8_eq hb (by omega)).mpr e).symm
  refine er_loc (L' := [(5, .int (_ + nI 1)), (4, _), (0, _), (1, _), (2, _), (3, _)]) (pc' := 28) rfl rfl rfl ?_
  refine er_goto rfl ?_
  rw [nI_add]
  refine er_loc (pc' := 9) rfl rfl rfl ?_
  refine er_loc (pc' := 10) rfl rfl rfl ?_
  refine er_cm_geT rfl (by decide +kernel) ?_
  refine er_k (pc' := 32) (-1) rfl rfl rfl ?_
  refine er_iret rfl rfl ?_
  exact PI_of (by simp [nmI, n0, n1, n2])
set_option maxRecDepth 100000 in
set_option maxHeartbeats 4000000 in
theorem l_idxL_0 (d : Nat) (b : Nat) (hb : b ≤ 255) (w : ab_W) : EC (d + 2) 232 [.ref 1000201, .int (nI b), .int (nI 0), .int (nI 3)] w (PI (nmI 0 b) w) := by
  refine er_enter (L := [(0, _), (1, _), (2, _), (3, _)]) rfl rfl rfl ?_
  refine er_loc (pc' := 1) rfl rfl rfl ?_
  refine er_cSi (pc' := 4) (rest := []) rfl rfl rfl (l_canEncode _ b hb _) ?_
  refine er_if_neT rfl (by decide +kernel) ?_
  refine er_loc (pc' := 10) rfl rfl rfl ?_
  refine er_k (pc' := 11) (nI 0) rfl rfl rfl ?_
  refine er_max (pc' := 14) rfl rfl rfl rfl ?_
  rw [show (if nI 0 < nI 0 then nI 0 else nI 0) = nI 0 from by decide +kernel]
  refine er_loc (L' := [(2, _), (0, _), (1, _), (3, _)]) (pc' := 15) rfl rfl rfl ?_
  refine er_loc (pc' := 16) rfl rfl rfl ?_
  refine er_loc (pc' := 17) rfl rfl rfl ?_
  refine er_heap (pc' := 18) (st' := [.int (nI 3), .int (nI 3)]) rfl rfl rfl ?_
  refine er_min (pc' := 21) rfl rfl rfl rfl ?_
  rw [show (if nI 3 < nI 3 then nI 3 else nI 3) = nI 3 from by decide +kernel]
  refine er_loc (L' := [(3, _), (2, _), (0, _), (1, _)]) (pc' := 22) rfl rfl rfl ?_
  refine er_loc (pc' := 23) rfl rfl rfl ?_
  refine er_loc (pc' := 24) rfl rfl rfl ?_
  refine er_cm_ltT rfl (by decide +kernel) ?_
  refine er_loc (pc' := 30) rfl rfl rfl ?_
  refine er_loc (pc' := 31) rfl rfl rfl ?_
  refine er_loc (pc' := 32) rfl rfl rfl ?_
  refine er_loc (pc' := 33) rfl rfl rfl ?_
  refine er_cSi (pc' := 36) (rest := []) rfl rfl rfl (l_idxChar_0 _ b hb _) ?_
  refine er_iret rfl rfl ?_
  exact PI_of rfl
set_option maxRecDepth 100000 in
set_option maxHeartbeats 4000000 in
theorem l_idx2_0 (d : Nat) (b : Nat) (hb : b ≤ 255) (w : ab_W) : EC (d + 3) 228 [.ref 1000101, .int (nI b), .int (nI 0)] w (PI (nmI 0 b) w) := by
  refine er_enter (L := [(0, _), (1, _), (2, _)]) rfl rfl rfl ?_
  refine er_loc (pc' := 1) rfl rfl rfl ?_
  refine er_cT (pc' := 4) rfl rfl rfl (l_isLatin_0 _ _) ?_
  refine er_if_eqF (pc' := 7) rfl (by decide +kernel) rfl ?_
  refine er_loc (pc' := 8) rfl rfl rfl ?_
  refine er_heap (pc' := 11) (st' := [.ref 1000201]) rfl rfl rfl ?_
  refine er_loc (pc' := 12) rfl rfl rfl ?_
  refine er_loc (pc' := 13) rfl rfl rfl ?_
  refine er_loc (pc' := 14) rfl rfl rfl ?_
  refine er_cT (pc' := 17) rfl rfl rfl (l_length_0 _ _) ?_
  refine er_cSi (pc' := 20) (rest := []) rfl rfl rfl (l_idxL_0 _ b hb _) ?_
  refine er_goto rfl ?_
  refine er_iret rfl rfl ?_
  exact PI_of rfl
set_option maxRecDepth 100000 in
set_option maxHeartbeats 4000000 in
theorem l_idx_0 (d : Nat) (b : Nat) (hb : b ≤ 255) (w : ab_W) : EC (d + 4) 227 [.ref 1000101, .int (nI b)] w (PI (nmI 0 b) w) := by
  refine er_enter (L := [(0, _), (1, _)]) rfl rfl rfl ?_
  refine er_loc (pc' := 1) rfl rfl rfl ?_
  refine er_loc (pc' := 2) rfl rfl rfl ?_
  refine er_k (pc' := 3) (nI 0) rfl rfl rfl ?_
  refine er_cT (pc' := 6) rfl rfl rfl (l_idx2_0 _ b hb _) ?_
  refine er_iret rfl rfl ?_
  exact PI_of rfl
set_option maxRecDepth 100000 in
set_option maxHeartbeats 4000000 in
theorem l_isLatin_1 (d : Nat) (w : ab_W) : EC (d + 1) 229 [.ref 1000102] w (PI (bI true) w) := by
  refine er_enter (L := [(0, _)]) rfl rfl rfl ?_
  refine er_heap (pc' := 3) (st' := [.int (nI 1)]) rfl rfl rfl ?_
  refine er_if_eqF (pc' := 6) rfl (by decide +kernel) rfl ?_
  refine er_loc (pc' := 7) rfl rfl rfl ?_
  refine er_heap (pc' := 10) (st' := [.int (nI 0)]) rfl rfl rfl ?_
  refine er_if_neF (pc' := 13) rfl (by decide +kernel) rfl ?_
  refine er_k (pc' := 14) (nI 1) rfl rfl rfl ?_
  refine er_goto rfl ?_
  refine er_ret _ rfl rfl ?_
  exact PI_of rfl
set_option maxRecDepth 100000 in
set_option maxHeartbeats 4000000 in
theorem l_coder_1 (d : Nat) (w : ab_W) : EC (d + 1) 231 [.ref 1000102] w (PI (nI 0) w) := by
  refine er_enter (L := [(0, _)]) rfl rfl rfl ?_
  refine er_heap (pc' := 3) (st' := [.int (nI 1)]) rfl rfl rfl ?_
  refine er_if_eqF (pc' := 6) rfl (by decide +kernel) rfl ?_
  refine er_loc (pc' := 7) rfl rfl rfl ?_
  refine er_heap (pc' := 10) (st' := [.int (nI 0)]) rfl rfl rfl ?_
  refine er_goto rfl ?_
  refine er_ret _ rfl rfl ?_
  exact PI_of rfl
set_option maxRecDepth 100000 in
set_option maxHeartbeats 4000000 in
theorem l_length_1 (d : Nat) (w : ab_W) : EC (d + 2) 230 [.ref 1000102] w (PI (nI 3) w) := by
  refine er_enter (L := [(0, _)]) rfl rfl rfl ?_
  refine er_loc (pc' := 1) rfl rfl rfl ?_
  refine er_heap (pc' := 4) (st' := [.ref 1000202]) rfl rfl rfl ?_
  refine er_heap (pc' := 5) (st' := [.int (nI 3)]) rfl rfl rfl ?_
  refine er_loc (pc' := 6) rfl rfl rfl ?_
  refine er_cT (pc' := 9) rfl rfl rfl (l_coder_1 _ _) ?_
  refine er_ishr (pc' := 10) rfl rfl ?_
  refine er_iret rfl rfl ?_
  exact PI_of (by decide +kernel)
set_option maxRecDepth 100000 in
set_option maxHeartbeats 4000000 in
theorem l_idxChar_1 (d : Nat) (b : Nat) (hb : b ≤ 255) (w : ab_W) : EC (d + 1) 234 [.ref 1000202, .int (nI b), .int (nI 0), .int (nI 3)] w (PI (nmI 1 b) w) := by
  refine er_enter (L := [(0, _), (1, _), (2, _), (3, _)]) rfl rfl rfl ?_
  refine er_loc (pc' := 1) rfl rfl rfl ?_
  refine er_i2b (pc' := 2) rfl rfl ?_
  refine er_loc (L' := [(4, _), (0, _), (1, _), (2, _), (3, _)]) (pc' := 4) rfl rfl rfl ?_
  refine er_loc (pc' := 5) rfl rfl rfl ?_
  refine er_loc (L' := [(5, _), (4, _), (0, _), (1, _), (2, _), (3, _)]) (pc' := 7) rfl rfl rfl ?_
  refine er_loc (pc' := 9) rfl rfl rfl ?_
  refine er_loc (pc' := 10) rfl rfl rfl ?_
  refine er_cm_geF (pc' := 13) rfl (by decide +kernel) rfl ?_
  refine er_loc (pc' := 14) rfl rfl rfl ?_
  refine er_loc (pc' := 16) rfl rfl rfl ?_
  refine er_heap (pc' := 17) (st' := [.int (nI 109)]) rfl rfl rfl ?_
  refine er_loc (pc' := 19) rfl rfl rfl ?_
  refine er_cm_ne (pc' := 22) rfl rfl (fun h0 => ?_) (fun h0 => ?_)
  rotate_left
  · have e := (i8_eq hb (by omega)).mp h0.symm
    refine er_loc (pc' := 24) rfl rfl rfl ?_
    refine er_iret rfl rfl ?_
    subst e
    exact PI_of (by decide +kernel)
  have n0 : ¬ b = 109 := fun e => h0 ((i8_eq hb (by omega)).mpr e).symm
  refine er_loc (L' := [(5, .int (_ + nI 1)), (4, _), (0, _), (1, _), (2, _), (3, _)]) (pc' := 28) rfl rfl rfl ?_
  refine er_goto rfl ?_
  rw [nI_add]
  refine er_loc (pc' := 9) rfl rfl rfl ?_
  refine er_loc (pc' := 10) rfl rfl rfl ?_
  refine er_cm_geF (pc' := 13) rfl (by decide +kernel) rfl ?_
  refine er_loc (pc' := 14) rfl rfl rfl ?_
  refine er_loc (pc' := 16) rfl rfl rfl ?_
  refine er_heap (pc' := 17) (st' := [.int (nI 116)]) rfl rfl rfl ?_
  refine er_loc (pc' := 19) rfl rfl rfl ?_
  refine er_cm_ne (pc' := 22) rfl rfl (fun h1 => ?_) (fun h1 => ?_)
  rotate_left
  · have e := (i8_eq hb (by omega)).mp h1.symm
    refine er_loc (pc' := 24) rfl rfl rfl ?_
    refine er_iret rfl rfl ?_
    subst e
    exact PI_of (by decide +kernel)
  have n1 : ¬ b = 116 := fun e => h1 ((i8_eq hb (by omega)).mpr e).symm
  refine er_loc (L' := [(5, .int (_ + nI 1)), (4, _), (0, _), (1, _), (2, _), (3, _)]) (pc' := 28) rfl rfl rfl ?_
  refine er_goto rfl ?_
  rw [nI_add]
  refine er_loc (pc' := 9) rfl rfl rfl ?_
  refine er_loc (pc' := 10) rfl rfl rfl ?_
  refine er_cm_geF (pc' := 13) rfl (by decide +kernel) rfl ?_
  refine er_loc (pc' := 14) rfl rfl rfl ?_
  refine er_loc (pc' := 16) rfl rfl rfl ?_
  refine er_heap (pc' := 17) (st' := [.int (nI 107)]) rfl rfl rfl ?_
  refine er_loc (pc' := 19) rfl rfl rfl ?_
  refine er_cm_ne (pc' := 22) rfl rfl (fun h2 => ?_) (fun h2 => ?_)
  rotate_left
  · have e := (i8_eq hb (by omega)).mp h2.symm
    refine er_loc (pc' := 24) rfl rfl rfl ?_
    refine er_iret rfl rfl ?_
    subst e
    exact PI_of (by decide +kernel)
  have n2 : ¬ b = 107 := fun e => h2 ((i8_eq hb (by omega)).mpr e).symm
  refine er_loc (L' := [(5, .int (_ + nI 1)), (4, _), (0, _), (1, _), (2, _), (3, _)]) (pc' := 28) rfl rfl rfl ?_
  refine er_goto rfl ?_
  rw [nI_add]
  refine er_loc (pc' := 9) rfl rfl rfl ?_
  refine er_loc (pc' := 10) rfl rfl rfl ?_
  refine er_cm_geT rfl (by decide +kernel) ?_
  refine er_k (pc' := 32) (-1) rfl rfl rfl ?_
  refine er_iret rfl rfl ?_
  exact PI_of (by simp [nmI, n0, n1, n2])
set_option maxRecDepth 100000 in
set_option maxHeartbeats 4000000 in
theorem l_idxL_1 (d : Nat) (b : Nat) (hb : b ≤ 255) (w : ab_W) : EC (d + 2) 232 [.ref 1000202, .int (nI b), .int (nI 0), .int (nI 3)] w (PI (nmI 1 b) w) := by
  refine er_enter (L := [(0, _), (1, _), (2, _), (3, _)]) rfl rfl rfl ?_
  refine er_loc (pc' := 1) rfl rfl rfl ?_
  refine er_cSi (pc' := 4) (rest := []) rfl rfl rfl (l_canEncode _ b hb _) ?_
  refine er_if_neT rfl (by decide +kernel) ?_
  refine er_loc (pc' := 10) rfl rfl rfl ?_
  refine er_k (pc' := 11) (nI 0) rfl rfl rfl ?_
  refine er_max (pc' := 14) rfl rfl rfl rfl ?_
  rw [show (if nI 0 < nI 0 then nI 0 else nI 0) = nI 0 from by decide +kernel]
  refine er_loc (L' := [(2, _), (0, _), (1, _), (3, _)]) (pc' := 15) rfl rfl rfl ?_
  refine er_loc (pc' := 16) rfl rfl rfl ?_
  refine er_loc (pc' := 17) rfl rfl rfl ?_
  refine er_heap (pc' := 18) (st' := [.int (nI 3), .int (nI 3)]) rfl rfl rfl ?_
  refine er_min (pc' := 21) rfl rfl rfl rfl ?_
  rw [show (if nI 3 < nI 3 then nI 3 else nI 3) = nI 3 from by decide +kernel]
  refine er_loc (L' := [(3, _), (2, _), (0, _), (1, _)]) (pc' := 22) rfl rfl rfl ?_
  refine er_loc (pc' := 23) rfl rfl rfl ?_
  refine er_loc (pc' := 24) rfl rfl rfl ?_
  refine er_cm_ltT rfl (by decide +kernel) ?_
  refine er_loc (pc' := 30) rfl rfl rfl ?_
  refine er_loc (pc' := 31) rfl rfl rfl ?_
  refine er_loc (pc' := 32) rfl rfl rfl ?_
  refine er_loc (pc' := 33) rfl rfl rfl ?_
  refine er_cSi (pc' := 36) (rest := []) rfl rfl rfl (l_idxChar_1 _ b hb _) ?_
  refine er_iret rfl rfl ?_
  exact PI_of rfl
set_option maxRecDepth 100000 in
set_option maxHeartbeats 4000000 in
theorem l_idx2_1 (d : Nat) (b : Nat) (hb : b ≤ 255) (w : ab_W) : EC (d + 3) 228 [.ref 1000102, .int (nI b), .int (nI 0)] w (PI (nmI 1 b) w) := by
  refine er_enter (L := [(0, _), (1, _), (2, _)]) rfl rfl rfl ?_
  refine er_loc (pc' := 1) rfl rfl rfl ?_
  refine er_cT (pc' := 4) rfl rfl rfl (l_isLatin_1 _ _) ?_
  refine er_if_eqF (pc' := 7) rfl (by decide +kernel) rfl ?_
  refine er_loc (pc' := 8) rfl rfl rfl ?_
  refine er_heap (pc' := 11) (st' := [.ref 1000202]) rfl rfl rfl ?_
  refine er_loc (pc' := 12) rfl rfl rfl ?_
  refine er_loc (pc' := 13) rfl rfl rfl ?_
  refine er_loc (pc' := 14) rfl rfl rfl ?_
  refine er_cT (pc' := 17) rfl rfl rfl (l_length_1 _ _) ?_
  refine er_cSi (pc' := 20) (rest := []) rfl rfl rfl (l_idxL_1 _ b hb _) ?_
  refine er_goto rfl ?_
  refine er_iret rfl rfl ?_
  exact PI_of rfl
set_option maxRecDepth 100000 in
set_option maxHeartbeats 4000000 in
theorem l_idx_1 (d : Nat) (b : Nat) (hb : b ≤ 255) (w : ab_W) : EC (d + 4) 227 [.ref 1000102, .int (nI b)] w (PI (nmI 1 b) w) := by
  refine er_enter (L := [(0, _), (1, _)]) rfl rfl rfl ?_
  refine er_loc (pc' := 1) rfl rfl rfl ?_
  refine er_loc (pc' := 2) rfl rfl rfl ?_
  refine er_k (pc' := 3) (nI 0) rfl rfl rfl ?_
  refine er_cT (pc' := 6) rfl rfl rfl (l_idx2_1 _ b hb _) ?_
  refine er_iret rfl rfl ?_
  exact PI_of rfl
end
section
/-! READING a text: small things -/
abbrev PS : Type := Nat × Nat × (Nat → Int32)
abbrev PT : Type := Nat ⊕ PS
def pk (tp : Nat → Int32) (e p : Nat) : Int32 := if p < e then tp p else -1
def dg (b : Int32) : Bool := !decide (b < nI 48) && !decide (nI 57 < b)
def wrC (s : Nat × (Nat → Int32)) (g : Int32) : Nat × (Nat → Int32) := if s.1 < 50 then (s.1 + 1, u1 s.2 s.1 g) else s
def jn2 (rk : Nat) (b : Int32) : Bool := match rk with
  | 0 => decide (b = nI 124)
  | 1 => decide (b = nI 38)
  | 2 => decide (b = nI 60) || (decide (b = nI 61) || decide (b = nI 62))
  | 3 => decide (b = nI 43) || decide (b = nI 45)
  | _ => decide (b = nI 42) || (decide (b = nI 47) || decide (b = nI 37))
def pNum (tp : Nat → Int32) (e : Nat) : Nat → Nat → Int32 → Nat × Int32
  | 0, p, v => (p, v)
  | m + 1, p, v => if dg (pk tp e p) = true then pNum tp e m (p + 1) (v * nI 10 + pk tp e p - nI 48) else (p, v)
def rzf (u e p : Nat) (bad : Bool) (w : Nat) : Nat → Int32 := fun k => match k with
  | 0 => nI 20
  | 1 => nI e
  | 2 => nI (1000101 + u)
  | 3 => nI p
  | 4 => bI bad
  | 6 => nI w
  | _ => 0
def RZ (Z : Nat → Nat → Int32) (u e p : Nat) (bad : Bool) (s : Nat × (Nat → Int32)) : Nat → Nat → Int32 := uc (uc Z 48 (rzf u e p bad s.1)) 50 s.2
theorem rzf_p {u e p q w : Nat} {bad : Bool} : u1 (rzf u e p bad w) 3 (nI q) = rzf u e q bad w := by
  funext k
  match k with
  | 0 => rfl
  | 1 => rfl
  | 2 => rfl
  | 3 => rfl
  | 4 => rfl
  | 5 => rfl
  | 6 => rfl
  | k + 7 => simp [u1, rzf]
theorem rzf_b {u e p w : Nat} {bad : Bool} : u1 (rzf u e p bad w) 4 (nI 1) = rzf u e p true w := by
  funext k
  match k with
  | 0 => rfl
  | 1 => rfl
  | 2 => rfl
  | 3 => rfl
  | 4 => rfl
  | 5 => rfl
  | 6 => rfl
  | k + 7 => simp [u1, rzf]
theorem rzf_w {u e p w q : Nat} {bad : Bool} : u1 (rzf u e p bad w) 6 (nI q) = rzf u e p bad q := by
  funext k
  match k with
  | 0 => rfl
  | 1 => rfl
  | 2 => rfl
  | 3 => rfl
  | 4 => rfl
  | 5 => rfl
  | 6 => rfl
  | k + 7 => simp [u1, rzf]
section RZS
variable {Z : Nat → Nat → Int32} {u e p q : Nat} {bad : Bool} {s : Nat × (Nat → Int32)}
theorem RZ_48 : RZ Z u e p bad s 48 = rzf u e p bad s.1 := by unfold RZ; rw [uc_ne (by omega), uc_same]
theorem RZ_50 : RZ Z u e p bad s 50 = s.2 := by unfold RZ; rw [uc_same]
theorem RZ_u48 {f : Nat → Int32} {w : Nat} {bad' : Bool} (h : f = rzf u e q bad' w) : uc (RZ Z u e p bad s) 48 f = RZ Z u e q bad' (w, s.2) := by
  unfold RZ
  rw [uc_comm (show 50 ≠ 48 by omega), uc_uc, h]
theorem RZ_p : ud (RZ Z u e p bad s) 48 3 (nI q) = RZ Z u e q bad s := by
  unfold ud
  exact RZ_u48 (by rw [RZ_48, rzf_p])
theorem RZ_b : ud (RZ Z u e p bad s) 48 4 (nI 1) = RZ Z u e p true s := by
  unfold ud
  exact RZ_u48 (by rw [RZ_48, rzf_b])
theorem RZ_wr {g : Int32} (h : s.1 < 50) : ud (ud (RZ Z u e p bad s) 50 s.1 g) 48 6 (nI (s.1 + 1)) = RZ Z u e p bad (wrC s g) := by
  have e1 : wrC s g = (s.1 + 1, u1 s.2 s.1 g) := if_pos h
  rw [e1]
  have e2 : ud (RZ Z u e p bad s) 50 s.1 g = RZ Z u e p bad (s.1, u1 s.2 s.1 g) := by
    unfold ud
    rw [RZ_50]
    unfold RZ
    rw [uc_uc]
  rw [e2]
  unfold ud
  exact RZ_u48 (by rw [RZ_48, rzf_w])
theorem wrC_le {g : Int32} (h : s.1 ≤ 50) : (wrC s g).1 ≤ 50 := by
  unfold wrC
  split
  · show s.1 + 1 ≤ 50; omega
  · exact h
end RZS
def PN (X Z : Nat → Nat → Int32) : ab_R → Prop := fun r => r = (none, Wd X Z)
section ERX
variable {d pc pc' lk : Nat} {M : ab_M} {L L' : ab_Lo} {st : List Value} {w : ab_W} {P : ab_R → Prop} {X Z : Nat → Nat → Int32}
theorem er_cIn (cls : Nat) {c j : Nat} {Z' : Nat → Nat → Int32} {ins : Instr} {fs As rest : List Value} (hf : ab_fetch M.2.2.2.2.2.2.2 pc = some (ins, lk)) (hi : isCI ins = true) (hq : qI lk cls st = some (c, j, As, rest)) (hc : Nat.blt c 79 = true) (ho : cO c (X c) (Z c) = .inl (cls, fs)) (hp : pc + 3 = pc') (h : EC d j As (Wd X Z) (PN X Z')) (k : ER d M pc' L rest (Wd X Z') P) : ER d M pc L st (Wd X Z) P :=
  er_cI cls hf hi hq hc ho hp h (fun r hr => by cases hr; exact k)
end ERX
theorem PN_of {X Z Z' : Nat → Nat → Int32} (h : Z' = Z) : PN X Z (none, Wd X Z') := by rw [h]; rfl
set_option maxRecDepth 100000 in
set_option maxHeartbeats 4000000 in
theorem l_isDigit (d : Nat) (b : Int32) (w : ab_W) : EC (d + 1) 65 [.int b] w (PI (bI (dg b)) w) := by
  refine er_enter (L := [(0, _)]) rfl rfl rfl ?_
  refine er_loc (pc' := 1) rfl rfl rfl ?_
  refine er_k (pc' := 3) (nI 48) rfl rfl rfl ?_
  refine er_cm_lt (pc' := 6) rfl rfl (fun h3 => ?_) (fun h3 => ?_)
  · refine er_k (pc' := 17) (nI 0) rfl rfl rfl ?_
    refine er_ret _ rfl rfl ?_
    exact PI_of (bI_eq0 (by simp [dg, *]))
  · refine er_loc (pc' := 7) rfl rfl rfl ?_
    refine er_k (pc' := 9) (nI 57) rfl rfl rfl ?_
    refine er_cm_gt (pc' := 12) rfl rfl (fun h9 => ?_) (fun h9 => ?_)
    · refine er_k (pc' := 17) (nI 0) rfl rfl rfl ?_
      refine er_ret _ rfl rfl ?_
      exact PI_of (bI_eq0 (by simp [dg, *]))
    · refine er_k (pc' := 13) (nI 1) rfl rfl rfl ?_
      refine er_goto rfl ?_
      refine er_ret _ rfl rfl ?_
      exact PI_of (bI_eq1 (by simp [dg, *]))
set_option maxRecDepth 100000 in
set_option maxHeartbeats 4000000 in
theorem l_joins0 (d : Nat) (b : Int32) (w : ab_W) : EC (d + 1) 69 [.int (nI 0), .int b] w (PI (bI (jn2 0 b)) w) := by
  refine er_enter (L := [(0, _), (1, _)]) rfl rfl rfl ?_
  refine er_loc (pc' := 1) rfl rfl rfl ?_
  refine er_br (pc' := 32) rfl rfl ?_
  refine er_loc (pc' := 33) rfl rfl rfl ?_
  refine er_k (pc' := 35) (nI 124) rfl rfl rfl ?_
  refine er_cm_ne (pc' := 38) rfl rfl (fun h35 => ?_) (fun h35 => ?_)
  · refine er_k (pc' := 43) (nI 0) rfl rfl rfl ?_
    refine er_ret _ rfl rfl ?_
    exact PI_of (bI_eq0 (by simp [jn2, *]))
  · refine er_k (pc' := 39) (nI 1) rfl rfl rfl ?_
    refine er_goto rfl ?_
    refine er_ret _ rfl rfl ?_
    exact PI_of (bI_eq1 (by simp [jn2, *]))
set_option maxRecDepth 100000 in
set_option maxHeartbeats 4000000 in
theorem l_joins1 (d : Nat) (b : Int32) (w : ab_W) : EC (d + 1) 69 [.int (nI 1), .int b] w (PI (bI (jn2 1 b)) w) := by
  refine er_enter (L := [(0, _), (1, _)]) rfl rfl rfl ?_
  refine er_loc (pc' := 1) rfl rfl rfl ?_
  refine er_br (pc' := 44) rfl rfl ?_
  refine er_loc (pc' := 45) rfl rfl rfl ?_
  refine er_k (pc' := 47) (nI 38) rfl rfl rfl ?_
  refine er_cm_ne (pc' := 50) rfl rfl (fun h47 => ?_) (fun h47 => ?_)
  · refine er_k (pc' := 55) (nI 0) rfl rfl rfl ?_
    refine er_ret _ rfl rfl ?_
    exact PI_of (bI_eq0 (by simp [jn2, *]))
  · refine er_k (pc' := 51) (nI 1) rfl rfl rfl ?_
    refine er_goto rfl ?_
    refine er_ret _ rfl rfl ?_
    exact PI_of (bI_eq1 (by simp [jn2, *]))
set_option maxRecDepth 100000 in
set_option maxHeartbeats 4000000 in
theorem l_joins2 (d : Nat) (b : Int32) (w : ab_W) : EC (d + 1) 69 [.int (nI 2), .int b] w (PI (bI (jn2 2 b)) w) := by
  refine er_enter (L := [(0, _), (1, _)]) rfl rfl rfl ?_
  refine er_loc (pc' := 1) rfl rfl rfl ?_
  refine er_br (pc' := 56) rfl rfl ?_
  refine er_loc (pc' := 57) rfl rfl rfl ?_
  refine er_k (pc' := 59) (nI 60) rfl rfl rfl ?_
  refine er_cm_eq (pc' := 62) rfl rfl (fun h59 => ?_) (fun h59 => ?_)
  · refine er_k (pc' := 75) (nI 1) rfl rfl rfl ?_
    refine er_goto rfl ?_
    refine er_ret _ rfl rfl ?_
    exact PI_of (bI_eq1 (by simp [jn2, *]))
  · refine er_loc (pc' := 63) rfl rfl rfl ?_
    refine er_k (pc' := 65) (nI 61) rfl rfl rfl ?_
    refine er_cm_eq (pc' := 68) rfl rfl (fun h65 => ?_) (fun h65 => ?_)
    · refine er_k (pc' := 75) (nI 1) rfl rfl rfl ?_
      refine er_goto rfl ?_
      refine er_ret _ rfl rfl ?_
      exact PI_of (bI_eq1 (by simp [jn2, *]))
    · refine er_loc (pc' := 69) rfl rfl rfl ?_
      refine er_k (pc' := 71) (nI 62) rfl rfl rfl ?_
      refine er_cm_ne (pc' := 74) rfl rfl (fun h71 => ?_) (fun h71 => ?_)
      · refine er_k (pc' := 79) (nI 0) rfl rfl rfl ?_
        refine er_ret _ rfl rfl ?_
        exact PI_of (bI_eq0 (by simp [jn2, *]))
      · refine er_k (pc' := 75) (nI 1) rfl rfl rfl ?_
        refine er_goto rfl ?_
        refine er_ret _ rfl rfl ?_
        exact PI_of (bI_eq1 (by simp [jn2, *]))
set_option maxRecDepth 100000 in
set_option maxHeartbeats 4000000 in
theorem l_joins3 (d : Nat) (b : Int32) (w : ab_W) : EC (d + 1) 69 [.int (nI 3), .int b] w (PI (bI (jn2 3 b)) w) := by
  refine er_enter (L := [(0, _), (1, _)]) rfl rfl rfl ?_
  refine er_loc (pc' := 1) rfl rfl rfl ?_
  refine er_br (pc' := 80) rfl rfl ?_
  refine er_loc (pc' := 81) rfl rfl rfl ?_
  refine er_k (pc' := 83) (nI 43) rfl rfl rfl ?_
  refine er_cm_eq (pc' := 86) rfl rfl (fun h83 => ?_) (fun h83 => ?_)
  · refine er_k (pc' := 93) (nI 1) rfl rfl rfl ?_
    refine er_goto rfl ?_
    refine er_ret _ rfl rfl ?_
    exact PI_of (bI_eq1 (by simp [jn2, *]))
  · refine er_loc (pc' := 87) rfl rfl rfl ?_
    refine er_k (pc' := 89) (nI 45) rfl rfl rfl ?_
    refine er_cm_ne (pc' := 92) rfl rfl (fun h89 => ?_) (fun h89 => ?_)
    · refine er_k (pc' := 97) (nI 0) rfl rfl rfl ?_
      refine er_ret _ rfl rfl ?_
      exact PI_of (bI_eq0 (by simp [jn2, *]))
    · refine er_k (pc' := 93) (nI 1) rfl rfl rfl ?_
      refine er_goto rfl ?_
      refine er_ret _ rfl rfl ?_
      exact PI_of (bI_eq1 (by simp [jn2, *]))
set_option maxRecDepth 100000 in
set_option maxHeartbeats 4000000 in
theorem l_joins4 (d : Nat) (b : Int32) (w : ab_W) : EC (d + 1) 69 [.int (nI 4), .int b] w (PI (bI (jn2 4 b)) w) := by
  refine er_enter (L := [(0, _), (1, _)]) rfl rfl rfl ?_
  refine er_loc (pc' := 1) rfl rfl rfl ?_
  refine er_br (pc' := 98) rfl rfl ?_
  refine er_loc (pc' := 99) rfl rfl rfl ?_
  refine er_k (pc' := 101) (nI 42) rfl rfl rfl ?_
  refine er_cm_eq (pc' := 104) rfl rfl (fun h101 => ?_) (fun h101 => ?_)
  · refine er_k (pc' := 117) (nI 1) rfl rfl rfl ?_
    refine er_goto rfl ?_
    refine er_ret _ rfl rfl ?_
    exact PI_of (bI_eq1 (by simp [jn2, *]))
  · refine er_loc (pc' := 105) rfl rfl rfl ?_
    refine er_k (pc' := 107) (nI 47) rfl rfl rfl ?_
    refine er_cm_eq (pc' := 110) rfl rfl (fun h107 => ?_) (fun h107 => ?_)
    · refine er_k (pc' := 117) (nI 1) rfl rfl rfl ?_
      refine er_goto rfl ?_
      refine er_ret _ rfl rfl ?_
      exact PI_of (bI_eq1 (by simp [jn2, *]))
    · refine er_loc (pc' := 111) rfl rfl rfl ?_
      refine er_k (pc' := 113) (nI 37) rfl rfl rfl ?_
      refine er_cm_ne (pc' := 116) rfl rfl (fun h113 => ?_) (fun h113 => ?_)
      · refine er_k (pc' := 121) (nI 0) rfl rfl rfl ?_
        refine er_ret _ rfl rfl ?_
        exact PI_of (bI_eq0 (by simp [jn2, *]))
      · refine er_k (pc' := 117) (nI 1) rfl rfl rfl ?_
        refine er_goto rfl ?_
        refine er_ret _ rfl rfl ?_
        exact PI_of (bI_eq1 (by simp [jn2, *]))
theorem lt5 {q : Nat} (h : q < 5) : q = 0 ∨ q = 1 ∨ q = 2 ∨ q = 3 ∨ q = 4 := by omega
theorem l_joins (d rk : Nat) (h : rk < 5) (b : Int32) (w : ab_W) : EC (d + 1) 69 [.int (nI rk), .int b] w (PI (bI (jn2 rk b)) w) := by
  rcases lt5 h with rfl | rfl | rfl | rfl | rfl
  · exact l_joins0 d b w
  · exact l_joins1 d b w
  · exact l_joins2 d b w
  · exact l_joins3 d b w
  · exact l_joins4 d b w
def ahd (tp : Nat → Int32) (e p : Nat) (bad : Bool) : Int32 := if bad = true then -1 else pk tp e p
set_option maxRecDepth 100000 in
set_option maxHeartbeats 4000000 in
theorem l_ahead (d : Nat) (X Z : Nat → Nat → Int32) {u e p : Nat} {bad : Bool} {s : Nat × (Nat → Int32)} (he50 : e ≤ 50) (hpe : p ≤ e) : EC (d + 1) 64 [.ref 48] (Wd X (RZ Z u e p bad s)) (PI (ahd (X 20) e p bad) (Wd X (RZ Z u e p bad s))) := by
  refine er_enter (L := [(0, _)]) rfl rfl rfl ?_
  refine er_loc (pc' := 1) rfl rfl rfl ?_
  refine er_gf (pc' := 4) (.int (bI bad)) rfl rfl rfl rfl rfl ?_
  refine er_if_neb (pc' := 7) rfl rfl (fun h4 => ?_) (fun h4 => ?_)
  · refine er_k (pc' := 19) (-1) rfl rfl rfl ?_
    refine er_goto rfl ?_
    refine er_iret rfl rfl ?_
    refine PI_of ?_
    unfold ahd pk
    first | rw [if_pos h4] | (rw [if_neg (by rw [h4]; decide)]; first | rw [if_pos hlt] | rw [if_neg hlt])
  · refine er_loc (pc' := 8) rfl rfl rfl ?_
    refine er_gf (pc' := 11) (.int (nI p)) rfl rfl rfl rfl rfl ?_
    refine er_loc (pc' := 12) rfl rfl rfl ?_
    refine er_gf (pc' := 15) (.int (nI e)) rfl rfl rfl rfl rfl ?_
    refine er_cm_lt (pc' := 18) rfl rfl (fun h15 => ?_) (fun h15 => ?_)
    · have hlt : p < e := (nI_ltI (by omega) (by omega)).mp h15
      have hlt50 : p < 50 := by omega
      refine er_loc (pc' := 23) rfl rfl rfl ?_
      refine er_gf (pc' := 26) (.ref 20) rfl rfl rfl rfl rfl ?_
      refine er_loc (pc' := 27) rfl rfl rfl ?_
      refine er_gf (pc' := 30) (.int (nI p)) rfl rfl rfl rfl rfl ?_
      refine er_ia (pc' := 31) (p) rfl rfl rfl rfl hlt50 rfl rfl ?_
      refine er_iret rfl rfl ?_
      refine PI_of ?_
      unfold ahd pk
      first | rw [if_pos h4] | (rw [if_neg (by rw [h4]; decide)]; first | rw [if_pos hlt] | rw [if_neg hlt])
    · have hlt : ¬ p < e := fun c => h15 (nI_lt c (by omega))
      refine er_k (pc' := 19) (-1) rfl rfl rfl ?_
      refine er_goto rfl ?_
      refine er_iret rfl rfl ?_
      refine PI_of ?_
      unfold ahd pk
      first | rw [if_pos h4] | (rw [if_neg (by rw [h4]; decide)]; first | rw [if_pos hlt] | rw [if_neg hlt])
set_option maxRecDepth 100000 in
set_option maxHeartbeats 4000000 in
theorem l_write (d : Nat) (X Z : Nat → Nat → Int32) {u e p : Nat} {bad : Bool} {s : Nat × (Nat → Int32)} (hw : s.1 ≤ 50) (g : Int32) : EC (d + 1) 67 [.ref 48, .int g] (Wd X (RZ Z u e p bad s)) (PN X (RZ Z u e p bad (wrC s g))) := by
  refine er_enter (L := [(0, _), (1, _)]) rfl rfl rfl ?_
  refine er_loc (pc' := 1) rfl rfl rfl ?_
  refine er_gf (pc' := 4) (.int (nI s.1)) rfl rfl rfl rfl rfl ?_
  refine er_loc (pc' := 5) rfl rfl rfl ?_
  refine er_gf (pc' := 8) (_) rfl rfl rfl rfl rfl ?_
  refine er_al (pc' := 9) rfl rfl rfl rfl ?_
  refine er_cm_ge (pc' := 12) rfl rfl (fun h9 => ?_) (fun h9 => ?_)
  · have hlt : ¬ s.1 < 50 := fun c => h9 (nI_lt c (by omega))
    refine er_vret rfl rfl ?_
    exact PN_of (by first | exact RZ_wr hlt | (show RZ Z u e p bad s = RZ Z u e p bad (wrC s g); unfold wrC; rw [if_neg hlt]))
  · have hlt : s.1 < 50 := by
      rcases Nat.lt_or_ge s.1 50 with c | c
      · exact c
      · exact absurd h9 (nI_nlt c (by omega))
    refine er_loc (pc' := 13) rfl rfl rfl ?_
    refine er_gf (pc' := 16) (_) rfl rfl rfl rfl rfl ?_
    refine er_loc (pc' := 17) rfl rfl rfl ?_
    refine er_gf (pc' := 20) (.int (nI s.1)) rfl rfl rfl rfl rfl ?_
    refine er_loc (pc' := 21) rfl rfl rfl ?_
    refine er_isZ (pc' := 22) (s.1) rfl rfl (fun _ => rfl) rfl hlt rfl rfl ?_
    refine er_loc (pc' := 23) rfl rfl rfl ?_
    refine er_pure (pc' := 24) rfl rfl rfl ?_
    refine er_gf (pc' := 27) (.int (nI s.1)) rfl rfl rfl rfl rfl ?_
    refine er_k (pc' := 28) (nI 1) rfl rfl rfl ?_
    refine er_iadd (pc' := 29) rfl rfl ?_
    rw [nI_add]
    refine er_pfIZ (pc' := 32) 6 rfl rfl rfl rfl rfl rfl ?_
    refine er_vret rfl rfl ?_
    exact PN_of (by first | exact RZ_wr hlt | (show RZ Z u e p bad s = RZ Z u e p bad (wrC s g); unfold wrC; rw [if_neg hlt]))
def clo (tp : Nat → Int32) (e p : Nat) (bad : Bool) : Nat × Bool := if ahd tp e p bad = nI 41 then (p + 1, bad) else (p, true)
set_option maxRecDepth 100000 in
set_option maxHeartbeats 4000000 in
theorem l_close (d : Nat) (X Z : Nat → Nat → Int32) {u e p : Nat} {bad : Bool} {s : Nat × (Nat → Int32)} (he50 : e ≤ 50) (hpe : p ≤ e) : EC (d + 2) 68 [.ref 48] (Wd X (RZ Z u e p bad s)) (PN X (RZ Z u e (clo (X 20) e p bad).1 (clo (X 20) e p bad).2 s)) := by
  refine er_enter (L := [(0, _)]) rfl rfl rfl ?_
  refine er_loc (pc' := 1) rfl rfl rfl ?_
  refine er_cIi (pc' := 4) (rest := []) 9 rfl rfl rfl rfl rfl rfl (l_ahead _ _ _ he50 hpe) ?_
  refine er_k (pc' := 6) (nI 41) rfl rfl rfl ?_
  refine er_cm_ne (pc' := 9) rfl rfl (fun h6 => ?_) (fun h6 => ?_)
  · refine er_loc (pc' := 23) rfl rfl rfl ?_
    refine er_k (pc' := 24) (nI 1) rfl rfl rfl ?_
    refine er_pfIZ (pc' := 27) 4 rfl rfl rfl rfl rfl rfl ?_
    refine er_vret rfl rfl ?_
    exact PN_of (by unfold clo; first | (rw [if_pos h6]; exact RZ_p) | (rw [if_neg h6]; exact RZ_b))
  · refine er_loc (pc' := 10) rfl rfl rfl ?_
    refine er_pure (pc' := 11) rfl rfl rfl ?_
    refine er_gf (pc' := 14) (.int (nI p)) rfl rfl rfl rfl rfl ?_
    refine er_k (pc' := 15) (nI 1) rfl rfl rfl ?_
    refine er_iadd (pc' := 16) rfl rfl ?_
    rw [nI_add]
    refine er_pfIZ (pc' := 19) 3 rfl rfl rfl rfl rfl rfl ?_
    refine er_goto rfl ?_
    refine er_vret rfl rfl ?_
    exact PN_of (by unfold clo; first | (rw [if_pos h6]; exact RZ_p) | (rw [if_neg h6]; exact RZ_b))
theorem dg_lt {tp : Nat → Int32} {e p : Nat} (h : dg (pk tp e p) = true) : p + 1 ≤ e := by
  rcases Nat.lt_or_ge p e with c | c
  · omega
  · unfold pk at h
    rw [if_neg (by omega)] at h
    exact absurd h (by decide +kernel)
set_option maxRecDepth 100000 in
set_option maxHeartbeats 4000000 in
theorem l_num_loop (d : Nat) (X Z : Nat → Nat → Int32) {u e : Nat} {s : Nat × (Nat → Int32)} (he50 : e ≤ 50) (hw : s.1 ≤ 50) : ∀ (m i p : Nat) (v x : Int32), i + m = 4 → x = nI i → p ≤ e → ER (d + 1) tb_m66 4 [(0, .ref 48), (1, .int v), (2, .int x)] [] (Wd X (RZ Z u e p false s)) (PN X (RZ Z u e (pNum (X 20) e m p v).1 false (wrC s (pNum (X 20) e m p v).2)))
  | 0, i, p, v, x, hi, hx, hpe => by
    have hi0 : i = 4 := by omega
    subst hx
    subst hi0
    refine er_loc (pc' := 5) rfl rfl rfl ?_
    refine er_k (pc' := 6) (nI 4) rfl rfl rfl ?_
    refine er_cm_geT rfl (nI_nlt (by omega) (by omega)) ?_
    refine er_loc (pc' := 49) rfl rfl rfl ?_
    refine er_loc (pc' := 50) rfl rfl rfl ?_
    refine er_cIn (pc' := 53) (rest := []) 9 rfl rfl rfl rfl rfl rfl (l_write _ _ _ hw _) ?_
    refine er_vret rfl rfl ?_
    exact PN_of rfl
  | m + 1, i, p, v, x, hi, hx, hpe => by
    subst hx
    refine er_loc (pc' := 5) rfl rfl rfl ?_
    refine er_k (pc' := 6) (nI 4) rfl rfl rfl ?_
    refine er_cm_geF (pc' := 9) rfl (nI_lt (by omega) (by omega)) rfl ?_
    refine er_loc (pc' := 10) rfl rfl rfl ?_
    refine er_cIi (pc' := 13) (rest := []) 9 rfl rfl rfl rfl rfl rfl (l_ahead _ _ _ he50 hpe) ?_
    rw [show ahd (X 20) e p false = pk (X 20) e p from rfl]
    refine er_cSi (pc' := 16) (rest := []) rfl rfl rfl (l_isDigit _ _ _) ?_
    refine er_if_eqb (pc' := 19) rfl rfl (fun h16 => ?_) (fun h16 => ?_)
    · refine er_loc (pc' := 49) rfl rfl rfl ?_
      refine er_loc (pc' := 50) rfl rfl rfl ?_
      refine er_cIn (pc' := 53) (rest := []) 9 rfl rfl rfl rfl rfl rfl (l_write _ _ _ hw _) ?_
      refine er_vret rfl rfl ?_
      have e2 : pNum (X 20) e (m + 1) p v = (p, v) := by
        show (if _ then _ else _) = _
        rw [if_neg (by rw [h16]; decide)]
      exact PN_of (by rw [e2])
    · refine er_loc (pc' := 20) rfl rfl rfl ?_
      refine er_k (pc' := 22) (nI 10) rfl rfl rfl ?_
      refine er_imul (pc' := 23) rfl rfl ?_
      refine er_loc (pc' := 24) rfl rfl rfl ?_
      refine er_cIi (pc' := 27) (rest := [_]) 9 rfl rfl rfl rfl rfl rfl (l_ahead _ _ _ he50 hpe) ?_
      rw [show ahd (X 20) e p false = pk (X 20) e p from rfl]
      refine er_iadd (pc' := 28) rfl rfl ?_
      refine er_k (pc' := 30) (nI 48) rfl rfl rfl ?_
      refine er_isub (pc' := 31) rfl rfl ?_
      refine er_loc (pc' := 32) (L' := [(1, _), (0, _), (2, _)]) rfl rfl rfl ?_
      refine er_loc (pc' := 33) rfl rfl rfl ?_
      refine er_pure (pc' := 34) rfl rfl rfl ?_
      refine er_gf (pc' := 37) (.int (nI p)) rfl rfl rfl rfl rfl ?_
      refine er_k (pc' := 38) (nI 1) rfl rfl rfl ?_
      refine er_iadd (pc' := 39) rfl rfl ?_
      refine er_pfIZ (pc' := 42) 3 rfl rfl rfl rfl rfl rfl ?_
      rw [nI_add, RZ_p]
      refine er_loc (L' := [(2, .int (_ + nI 1)), (1, _), (0, _)]) rfl rfl rfl ?_
      refine er_goto rfl ?_
      refine ER_loc [(0, _), (1, _), (2, _)] rfl (List.forall_mem_cons.mpr ⟨rfl, List.forall_mem_cons.mpr ⟨rfl, List.forall_mem_cons.mpr ⟨rfl, fun _ h => absurd h List.not_mem_nil⟩⟩⟩) rfl rfl ?_
      have e2 : pNum (X 20) e (m + 1) p v = pNum (X 20) e m (p + 1) (v * nI 10 + pk (X 20) e p - nI 48) := by
        show (if _ then _ else _) = _
        rw [if_pos h16]
      rw [e2]
      exact l_num_loop d X Z he50 hw m (i + 1) (p + 1) _ _ (by omega) (nI_add i 1) (dg_lt h16)
set_option maxRecDepth 100000 in
set_option maxHeartbeats 4000000 in
theorem l_readNumber (d : Nat) (X Z : Nat → Nat → Int32) {u e p : Nat} {s : Nat × (Nat → Int32)} (he50 : e ≤ 50) (hw : s.1 ≤ 50) (hpe : p ≤ e) : EC (d + 2) 66 [.ref 48] (Wd X (RZ Z u e p false s)) (PN X (RZ Z u e (pNum (X 20) e 4 p (nI 0)).1 false (wrC s (pNum (X 20) e 4 p (nI 0)).2))) := by
  refine er_enter (L := [(0, _)]) rfl rfl rfl ?_
  refine er_k (pc' := 1) (nI 0) rfl rfl rfl ?_
  refine er_loc (pc' := 2) (L' := [(1, _), (0, _)]) rfl rfl rfl ?_
  refine er_k (pc' := 3) (nI 0) rfl rfl rfl ?_
  refine er_loc (pc' := 4) (L' := [(2, _), (1, _), (0, _)]) rfl rfl rfl ?_
  refine ER_loc [(0, _), (1, _), (2, _)] rfl (List.forall_mem_cons.mpr ⟨rfl, List.forall_mem_cons.mpr ⟨rfl, List.forall_mem_cons.mpr ⟨rfl, fun _ h => absurd h List.not_mem_nil⟩⟩⟩) rfl rfl ?_
  exact l_num_loop d X Z he50 hw 4 0 p _ _ (by omega) rfl hpe
end
section
/-! READING a text: rank by rank -/
def qL (f : PS → PT) (tp : Nat → Int32) (e rk : Nat) : Nat → PS → PT
  | 0, s => .inr s
  | m + 1, s => if jn2 rk (pk tp e s.1) = true then (match f (s.1 + 1, s.2) with
    | .inl x => .inl x
    | .inr s' => qL f tp e rk m (s'.1, wrC s'.2 (-(pk tp e s.1)))) else .inr s
theorem qL_no {f : PS → PT} {tp : Nat → Int32} {e rk m p : Nat} {s : Nat × (Nat → Int32)} (h : ¬ jn2 rk (pk tp e p) = true) : qL f tp e rk (m + 1) (p, s) = .inr (p, s) := by
  show (if _ then _ else _) = _
  rw [if_neg h]
theorem qL_inl {f : PS → PT} {tp : Nat → Int32} {e rk m p x : Nat} {s : Nat × (Nat → Int32)} (h : jn2 rk (pk tp e p) = true) (hf : f (p + 1, s) = .inl x) : qL f tp e rk (m + 1) (p, s) = .inl x := by
  show (if _ then _ else _) = _
  rw [if_pos h]
  show (match f (p + 1, s) with | .inl x => _ | .inr s' => _) = _
  rw [hf]
theorem qL_inr {f : PS → PT} {tp : Nat → Int32} {e rk m p : Nat} {s : Nat × (Nat → Int32)} {s' : PS} (h : jn2 rk (pk tp e p) = true) (hf : f (p + 1, s) = .inr s') : qL f tp e rk (m + 1) (p, s) = qL f tp e rk m (s'.1, wrC s'.2 (-(pk tp e p))) := by
  show (if _ then _ else _) = _
  rw [if_pos h]
  show (match f (p + 1, s) with | .inl x => _ | .inr s' => _) = _
  rw [hf]
def nmQ (u : Nat) (b : Int32) : Int32 := if b < 0 then -1 else nmI u (nN b)
def qP (tp : Nat → Int32) (e u : Nat) (f : Nat → Nat → PS → PT) (op : Nat) (s : PS) : PT :=
  if dg (pk tp e s.1) = true then .inr ((pNum tp e 4 s.1 (nI 0)).1, wrC s.2 (pNum tp e 4 s.1 (nI 0)).2)
  else if ¬ nmQ u (pk tp e s.1) < 0 then .inr (s.1 + 1, wrC s.2 (-1 - nmQ u (pk tp e s.1)))
  else if pk tp e s.1 = nI 33 ∧ op < 5 then (match f 5 (op + 1) (s.1 + 1, s.2) with
    | .inl x => .inl x
    | .inr s' => .inr (s'.1, wrC s'.2 (-33)))
  else if pk tp e s.1 = nI 40 ∧ op < 5 then (match f 0 (op + 1) (s.1 + 1, s.2) with
    | .inl x => .inl x
    | .inr s' => if pk tp e s'.1 = nI 41 then .inr (s'.1 + 1, s'.2) else .inl s'.1)
  else .inl s.1
def qR (tp : Nat → Int32) (e : Nat) (f : Nat → Nat → PS → PT) (rk op : Nat) (s : PS) : PT := match f (rk + 1) op s with
  | .inl x => .inl x
  | .inr s' => qL (f (rk + 1) op) tp e rk (if rk = 2 then 1 else 50) s'
def qSt (tp : Nat → Int32) (e u : Nat) (f : Nat → Nat → PS → PT) (rk op : Nat) (s : PS) : PT := if rk < 5 then qR tp e f rk op s else qP tp e u f op s
def itF {α : Type} (f : α → α) (a : α) : Nat → α
  | 0 => a
  | n + 1 => f (itF f a n)
theorem itF_succ {α : Type} {f : α → α} {a : α} {n : Nat} : itF f a (n + 1) = f (itF f a n) := rfl
def qq (tp : Nat → Int32) (e u F : Nat) : Nat → Nat → PS → PT := itF (qSt tp e u) (fun _ _ s => .inl s.1) F
theorem qq_R {tp : Nat → Int32} {e u F rk op : Nat} {s : PS} (h : rk < 5) : qq tp e u (F + 1) rk op s = qR tp e (qq tp e u F) rk op s := by
  unfold qq
  rw [itF_succ]
  exact if_pos h
theorem qq_P {tp : Nat → Int32} {e u F op : Nat} {s : PS} : qq tp e u (F + 1) 5 op s = qP tp e u (qq tp e u F) op s := by
  unfold qq
  rw [itF_succ]
  exact if_neg (by omega)
def PQ (X Z : Nat → Nat → Int32) (u e : Nat) (t : PT) : ab_R → Prop := fun r => match t with
  | .inl f => ∃ s' : Nat × (Nat → Int32), s'.1 ≤ 50 ∧ f ≤ e ∧ r = (none, Wd X (RZ Z u e f true s'))
  | .inr s => s.1 ≤ e ∧ s.2.1 ≤ 50 ∧ r = (none, Wd X (RZ Z u e s.1 false s.2))
theorem PQ_inl {X Z : Nat → Nat → Int32} {u e f : Nat} {t : PT} {s' : Nat × (Nat → Int32)} (ht : t = .inl f) (h1 : s'.1 ≤ 50) (h2 : f ≤ e) : PQ X Z u e t (none, Wd X (RZ Z u e f true s')) := by
  subst ht
  exact ⟨s', h1, h2, rfl⟩
theorem PQ_inr {X Z : Nat → Nat → Int32} {u e p : Nat} {t : PT} {s : Nat × (Nat → Int32)} (ht : t = .inr (p, s)) (h1 : p ≤ e) (h2 : s.1 ≤ 50) : PQ X Z u e t (none, Wd X (RZ Z u e p false s)) := by
  subst ht
  exact ⟨h1, h2, rfl⟩
theorem jn_bad {rk : Nat} (h : rk < 5) : jn2 rk (-1) = false := by
  rcases lt5 h with rfl | rfl | rfl | rfl | rfl <;> decide +kernel
theorem jn_lt {tp : Nat → Int32} {e p rk : Nat} (hr : rk < 5) (h : jn2 rk (pk tp e p) = true) : p + 1 ≤ e := by
  rcases Nat.lt_or_ge p e with c | c
  · omega
  · unfold pk at h
    rw [if_neg (by omega), jn_bad hr] at h
    cases h
theorem pkq_lt {tp : Nat → Int32} {e p : Nat} {b : Int32} (h : pk tp e p = b) (hb : ¬ b = -1) : p + 1 ≤ e := by
  rcases Nat.lt_or_ge p e with c | c
  · omega
  · unfold pk at h
    rw [if_neg (by omega)] at h
    exact absurd h.symm hb
theorem pNum_le {tp : Nat → Int32} {e : Nat} : ∀ (m p : Nat) (v : Int32), p ≤ e → (pNum tp e m p v).1 ≤ e
  | 0, p, v, h => h
  | m + 1, p, v, h => by
    show (if _ then _ else _ : Nat × Int32).1 ≤ e
    split
    · rename_i c
      exact pNum_le m _ _ (dg_lt c)
    · exact h
theorem pk_isN {tp : Nat → Int32} {e p : Nat} (ht : ∀ k, isN (tp k) 255) (h : ¬ pk tp e p < 0) : (∃ b, b ≤ 255 ∧ pk tp e p = nI b) ∧ p + 1 ≤ e := by
  unfold pk at h ⊢
  split
  · rename_i c
    exact ⟨⟨nN (tp p), (ht p).2, (ht p).1⟩, by omega⟩
  · rename_i c
    rw [if_neg c] at h
    exact absurd (by decide +kernel) h
set_option maxRecDepth 100000 in
set_option maxHeartbeats 4000000 in
theorem l_q_bad (d : Nat) (X Z : Nat → Nat → Int32) {u e : Nat} {rk op p : Nat} {s : Nat × (Nat → Int32)} (hrk : rk < 5) (he50 : e ≤ 50) (hpe : p ≤ e) (hs : s.1 ≤ 50) (y x : Int32) : ER (d + 2) tb_m62 34 [(0, .ref 48), (1, .int (nI rk)), (2, .int (nI op)), (3, .int y), (4, .int x)] [] (Wd X (RZ Z u e p true s)) (PQ X Z u e (.inl p)) := by
  refine er_loc (pc' := 36) rfl rfl rfl ?_
  refine er_loc (pc' := 37) rfl rfl rfl ?_
  refine er_cm_ge (pc' := 40) rfl rfl (fun h37 => ?_) (fun h37 => ?_)
  · refine er_vret rfl rfl ?_
    exact PQ_inl rfl hs hpe
  · refine er_loc (pc' := 41) rfl rfl rfl ?_
    refine er_loc (pc' := 42) rfl rfl rfl ?_
    refine er_cIi (pc' := 45) (rest := [_]) 9 rfl rfl rfl rfl rfl rfl (l_ahead _ _ _ he50 hpe) ?_
    rw [show ahd (X 20) e p true = -1 from rfl]
    refine er_cSi (pc' := 48) (rest := []) rfl rfl rfl (l_joins _ rk hrk _ _) ?_
    rw [jn_bad hrk]
    refine er_if_eqT rfl (rfl) ?_
    refine er_vret rfl rfl ?_
    exact PQ_inl rfl hs hpe
set_option maxRecDepth 100000 in
set_option maxHeartbeats 4000000 in
theorem l_q_loop (d : Nat) (X Z : Nat → Nat → Int32) {u e : Nat} {rk op most : Nat} {f : PS → PT} (hrk : rk < 5) (he50 : e ≤ 50) (hmo : most ≤ 50) (H : ∀ (p : Nat) (s : Nat × (Nat → Int32)), p ≤ e → s.1 ≤ 50 → EC (d + 2) 62 [.ref 48, .int (nI (rk + 1)), .int (nI op)] (Wd X (RZ Z u e p false s)) (PQ X Z u e (f (p, s)))) : ∀ (m i p : Nat) (s : Nat × (Nat → Int32)) (x : Int32), i + m = most → x = nI i → p ≤ e → s.1 ≤ 50 → ER (d + 2) tb_m62 34 [(0, .ref 48), (1, .int (nI rk)), (2, .int (nI op)), (3, .int (nI most)), (4, .int x)] [] (Wd X (RZ Z u e p false s)) (PQ X Z u e (qL f (X 20) e rk m (p, s)))
  | 0, i, p, s, x, hi, hx, hpe, hs => by
    have hi0 : i = most := by omega
    subst hx
    subst hi0
    refine er_loc (pc' := 36) rfl rfl rfl ?_
    refine er_loc (pc' := 37) rfl rfl rfl ?_
    refine er_cm_geT rfl (nI_nlt (by omega) (by omega)) ?_
    refine er_vret rfl rfl ?_
    exact PQ_inr rfl hpe hs
  | m + 1, i, p, s, x, hi, hx, hpe, hs => by
    subst hx
    refine er_loc (pc' := 36) rfl rfl rfl ?_
    refine er_loc (pc' := 37) rfl rfl rfl ?_
    refine er_cm_geF (pc' := 40) rfl (nI_lt (by omega) (by omega)) rfl ?_
    refine er_loc (pc' := 41) rfl rfl rfl ?_
    refine er_loc (pc' := 42) rfl rfl rfl ?_
    refine er_cIi (pc' := 45) (rest := [_]) 9 rfl rfl rfl rfl rfl rfl (l_ahead _ _ _ he50 hpe) ?_
    rw [show ahd (X 20) e p false = pk (X 20) e p from rfl]
    refine er_cSi (pc' := 48) (rest := []) rfl rfl rfl (l_joins _ rk hrk _ _) ?_
    refine er_if_eqb (pc' := 51) rfl rfl (fun h48 => ?_) (fun h48 => ?_)
    · refine er_vret rfl rfl ?_
      exact PQ_inr (qL_no (by rw [h48]; decide)) hpe hs
    · refine er_loc (pc' := 52) rfl rfl rfl ?_
      refine er_cIi (pc' := 55) (rest := []) 9 rfl rfl rfl rfl rfl rfl (l_ahead _ _ _ he50 hpe) ?_
      rw [show ahd (X 20) e p false = pk (X 20) e p from rfl]
      refine er_loc (pc' := 57) (L' := [(5, _), (0, _), (1, _), (2, _), (3, _), (4, _)]) rfl rfl rfl ?_
      refine er_loc (pc' := 58) rfl rfl rfl ?_
      refine er_pure (pc' := 59) rfl rfl rfl ?_
      refine er_gf (pc' := 62) (.int (nI p)) rfl rfl rfl rfl rfl ?_
      refine er_k (pc' := 63) (nI 1) rfl rfl rfl ?_
      refine er_iadd (pc' := 64) rfl rfl ?_
      rw [nI_add]
      refine er_pfIZ (pc' := 67) 3 rfl rfl rfl rfl rfl rfl ?_
      rw [RZ_p]
      refine er_loc (pc' := 68) rfl rfl rfl ?_
      refine er_loc (pc' := 69) rfl rfl rfl ?_
      refine er_k (pc' := 70) (nI 1) rfl rfl rfl ?_
      refine er_iadd (pc' := 71) rfl rfl ?_
      rw [nI_add]
      refine er_loc (pc' := 72) rfl rfl rfl ?_
      refine er_cS (pc' := 75) (rest := []) rfl rfl rfl (H (p + 1) s (jn_lt hrk h48) hs) (fun r hr => ?_)
      cases hf : f (p + 1, s) with
      | inl y =>
        rw [hf] at hr
        obtain ⟨s', g1, g2, rfl⟩ := hr
        change ER _ _ _ _ [] (Wd X (RZ Z u e y true s')) _
        rw [qL_inl h48 hf]
        refine er_loc (pc' := 76) rfl rfl rfl ?_
        refine er_loc (pc' := 78) rfl rfl rfl ?_
        refine er_ineg (pc' := 79) rfl rfl ?_
        refine er_cIn (pc' := 82) (rest := []) 9 rfl rfl rfl rfl rfl rfl (l_write _ _ _ g1 _) ?_
        refine er_loc (pc' := 85) (L' := [(4, .int (_ + nI 1)), (5, _), (0, _), (1, _), (2, _), (3, _)]) rfl rfl rfl ?_
        refine er_goto rfl ?_
        refine ER_loc [(0, _), (1, _), (2, _), (3, _), (4, _)] rfl (List.forall_mem_cons.mpr ⟨rfl, List.forall_mem_cons.mpr ⟨rfl, List.forall_mem_cons.mpr ⟨rfl, List.forall_mem_cons.mpr ⟨rfl, List.forall_mem_cons.mpr ⟨rfl, fun _ h => absurd h List.not_mem_nil⟩⟩⟩⟩⟩) rfl rfl ?_
        exact l_q_bad d X Z hrk he50 g2 (wrC_le g1) _ _
      | inr s' =>
        rw [hf] at hr
        obtain ⟨g1, g2, rfl⟩ := hr
        change ER _ _ _ _ [] (Wd X (RZ Z u e s'.1 false s'.2)) _
        rw [qL_inr h48 hf]
        refine er_loc (pc' := 76) rfl rfl rfl ?_
        refine er_loc (pc' := 78) rfl rfl rfl ?_
        refine er_ineg (pc' := 79) rfl rfl ?_
        refine er_cIn (pc' := 82) (rest := []) 9 rfl rfl rfl rfl rfl rfl (l_write _ _ _ g2 _) ?_
        refine er_loc (pc' := 85) (L' := [(4, .int (_ + nI 1)), (5, _), (0, _), (1, _), (2, _), (3, _)]) rfl rfl rfl ?_
        refine er_goto rfl ?_
        refine ER_loc [(0, _), (1, _), (2, _), (3, _), (4, _)] rfl (List.forall_mem_cons.mpr ⟨rfl, List.forall_mem_cons.mpr ⟨rfl, List.forall_mem_cons.mpr ⟨rfl, List.forall_mem_cons.mpr ⟨rfl, List.forall_mem_cons.mpr ⟨rfl, fun _ h => absurd h List.not_mem_nil⟩⟩⟩⟩⟩) rfl rfl ?_
        exact l_q_loop d X Z hrk he50 hmo H m (i + 1) s'.1 _ _ (by omega) (nI_add i 1) g1 (wrC_le g2)
set_option maxRecDepth 100000 in
set_option maxHeartbeats 4000000 in
theorem l_q_rank (d : Nat) (X Z : Nat → Nat → Int32) {u e : Nat} {rk op p : Nat} {f : Nat → Nat → PS → PT} {s : Nat × (Nat → Int32)} (hrk : rk < 5) (he50 : e ≤ 50) (hpe : p ≤ e) (hs : s.1 ≤ 50) (H : ∀ (p : Nat) (s : Nat × (Nat → Int32)), p ≤ e → s.1 ≤ 50 → EC (d + 2) 62 [.ref 48, .int (nI (rk + 1)), .int (nI op)] (Wd X (RZ Z u e p false s)) (PQ X Z u e (f (rk + 1) op (p, s)))) : EC (d + 3) 62 [.ref 48, .int (nI rk), .int (nI op)] (Wd X (RZ Z u e p false s)) (PQ X Z u e (qR (X 20) e f rk op (p, s))) := by
  refine er_enter (L := [(0, _), (1, _), (2, _)]) rfl rfl rfl ?_
  refine er_loc (pc' := 1) rfl rfl rfl ?_
  refine er_k (pc' := 2) (nI 5) rfl rfl rfl ?_
  refine er_cm_ltT rfl (nI_lt (by omega) (by omega)) ?_
  refine er_loc (pc' := 12) rfl rfl rfl ?_
  refine er_loc (pc' := 13) rfl rfl rfl ?_
  refine er_k (pc' := 14) (nI 1) rfl rfl rfl ?_
  refine er_iadd (pc' := 15) rfl rfl ?_
  rw [nI_add]
  refine er_loc (pc' := 16) rfl rfl rfl ?_
  refine er_cS (pc' := 19) (rest := []) rfl rfl rfl (H p s hpe hs) (fun r hr => ?_)
  cases hf : f (rk + 1) op (p, s) with
  | inl y =>
    rw [hf] at hr
    obtain ⟨s', g1, g2, rfl⟩ := hr
    change ER _ _ _ _ [] (Wd X (RZ Z u e y true s')) _
    rw [show qR (X 20) e f rk op (p, s) = .inl y from by unfold qR; rw [hf]]
    refine er_loc (pc' := 20) rfl rfl rfl ?_
    refine er_k (pc' := 21) (nI 2) rfl rfl rfl ?_
    refine er_cm_ne (pc' := 24) rfl rfl (fun h21 => ?_) (fun h21 => ?_)
    · have hr2 : ¬ rk = 2 := fun c => h21 (by rw [c])
      refine er_k (pc' := 30) (nI 50) rfl rfl rfl ?_
      refine er_loc (pc' := 31) (L' := [(3, _), (0, _), (1, _), (2, _)]) rfl rfl rfl ?_
      refine er_k (pc' := 32) (nI 0) rfl rfl rfl ?_
      refine er_loc (pc' := 34) (L' := [(4, _), (3, _), (0, _), (1, _), (2, _)]) rfl rfl rfl ?_
      refine ER_loc [(0, _), (1, _), (2, _), (3, _), (4, _)] rfl (List.forall_mem_cons.mpr ⟨rfl, List.forall_mem_cons.mpr ⟨rfl, List.forall_mem_cons.mpr ⟨rfl, List.forall_mem_cons.mpr ⟨rfl, List.forall_mem_cons.mpr ⟨rfl, fun _ h => absurd h List.not_mem_nil⟩⟩⟩⟩⟩) rfl rfl ?_
      exact l_q_bad d X Z hrk he50 g2 g1 _ _
    · have hr2 : rk = 2 := (nI_eq (by omega) (by omega)).mp h21
      refine er_k (pc' := 25) (nI 1) rfl rfl rfl ?_
      refine er_goto rfl ?_
      refine er_loc (pc' := 31) (L' := [(3, _), (0, _), (1, _), (2, _)]) rfl rfl rfl ?_
      refine er_k (pc' := 32) (nI 0) rfl rfl rfl ?_
      refine er_loc (pc' := 34) (L' := [(4, _), (3, _), (0, _), (1, _), (2, _)]) rfl rfl rfl ?_
      refine ER_loc [(0, _), (1, _), (2, _), (3, _), (4, _)] rfl (List.forall_mem_cons.mpr ⟨rfl, List.forall_mem_cons.mpr ⟨rfl, List.forall_mem_cons.mpr ⟨rfl, List.forall_mem_cons.mpr ⟨rfl, List.forall_mem_cons.mpr ⟨rfl, fun _ h => absurd h List.not_mem_nil⟩⟩⟩⟩⟩) rfl rfl ?_
      exact l_q_bad d X Z hrk he50 g2 g1 _ _
  | inr s' =>
    rw [hf] at hr
    obtain ⟨g1, g2, rfl⟩ := hr
    change ER _ _ _ _ [] (Wd X (RZ Z u e s'.1 false s'.2)) _
    rw [show qR (X 20) e f rk op (p, s) = qL (f (rk + 1) op) (X 20) e rk (if rk = 2 then 1 else 50) s' from by unfold qR; rw [hf]]
    refine er_loc (pc' := 20) rfl rfl rfl ?_
    refine er_k (pc' := 21) (nI 2) rfl rfl rfl ?_
    refine er_cm_ne (pc' := 24) rfl rfl (fun h21 => ?_) (fun h21 => ?_)
    · have hr2 : ¬ rk = 2 := fun c => h21 (by rw [c])
      rw [if_neg hr2]
      refine er_k (pc' := 30) (nI 50) rfl rfl rfl ?_
      refine er_loc (pc' := 31) (L' := [(3, _), (0, _), (1, _), (2, _)]) rfl rfl rfl ?_
      refine er_k (pc' := 32) (nI 0) rfl rfl rfl ?_
      refine er_loc (pc' := 34) (L' := [(4, _), (3, _), (0, _), (1, _), (2, _)]) rfl rfl rfl ?_
      refine ER_loc [(0, _), (1, _), (2, _), (3, _), (4, _)] rfl (List.forall_mem_cons.mpr ⟨rfl, List.forall_mem_cons.mpr ⟨rfl, List.forall_mem_cons.mpr ⟨rfl, List.forall_mem_cons.mpr ⟨rfl, List.forall_mem_cons.mpr ⟨rfl, fun _ h => absurd h List.not_mem_nil⟩⟩⟩⟩⟩) rfl rfl ?_
      exact l_q_loop d X Z hrk he50 (by omega) H _ 0 s'.1 s'.2 _ (by omega) rfl g1 g2
    · have hr2 : rk = 2 := (nI_eq (by omega) (by omega)).mp h21
      rw [if_pos hr2]
      refine er_k (pc' := 25) (nI 1) rfl rfl rfl ?_
      refine er_goto rfl ?_
      refine er_loc (pc' := 31) (L' := [(3, _), (0, _), (1, _), (2, _)]) rfl rfl rfl ?_
      refine er_k (pc' := 32) (nI 0) rfl rfl rfl ?_
      refine er_loc (pc' := 34) (L' := [(4, _), (3, _), (0, _), (1, _), (2, _)]) rfl rfl rfl ?_
      refine ER_loc [(0, _), (1, _), (2, _), (3, _), (4, _)] rfl (List.forall_mem_cons.mpr ⟨rfl, List.forall_mem_cons.mpr ⟨rfl, List.forall_mem_cons.mpr ⟨rfl, List.forall_mem_cons.mpr ⟨rfl, List.forall_mem_cons.mpr ⟨rfl, fun _ h => absurd h List.not_mem_nil⟩⟩⟩⟩⟩) rfl rfl ?_
      exact l_q_loop d X Z hrk he50 (by omega) H _ 0 s'.1 s'.2 _ (by omega) rfl g1 g2
set_option maxRecDepth 100000 in
set_option maxHeartbeats 4000000 in
theorem l_q_rank5 (d : Nat) (X Z : Nat → Nat → Int32) {u e : Nat} {op p : Nat} {t : PT} {s : Nat × (Nat → Int32)} (H : EC d 63 [.ref 48, .int (nI op)] (Wd X (RZ Z u e p false s)) (PQ X Z u e t)) : EC (d + 1) 62 [.ref 48, .int (nI 5), .int (nI op)] (Wd X (RZ Z u e p false s)) (PQ X Z u e t) := by
  refine er_enter (L := [(0, _), (1, _), (2, _)]) rfl rfl rfl ?_
  refine er_loc (pc' := 1) rfl rfl rfl ?_
  refine er_k (pc' := 2) (nI 5) rfl rfl rfl ?_
  refine er_cm_ltF (pc' := 5) rfl (nI_nlt (by omega) (by omega)) rfl ?_
  refine er_loc (pc' := 6) rfl rfl rfl ?_
  refine er_loc (pc' := 7) rfl rfl rfl ?_
  refine er_cS (pc' := 10) (rest := []) rfl rfl rfl H (fun r hr => ?_)
  have e9 : r = (none, r.2) := by
    cases t with
    | inl f => obtain ⟨s', _, _, rfl⟩ := hr; rfl
    | inr s' => obtain ⟨_, _, rfl⟩ := hr; rfl
  rw [e9] at hr ⊢
  refine er_vret rfl rfl ?_
  exact hr
set_option maxRecDepth 100000 in
set_option maxHeartbeats 4000000 in
theorem l_q_part0 (d : Nat) (X Z : Nat → Nat → Int32) {e op p : Nat} {f : Nat → Nat → PS → PT} {s : Nat × (Nat → Int32)} (ht : ∀ k, isN (X 20 k) 255) (hop : op ≤ 5) (he50 : e ≤ 50) (hpe : p ≤ e) (hs : s.1 ≤ 50) (H0 : op < 5 → ∀ (p : Nat) (s : Nat × (Nat → Int32)), p ≤ e → s.1 ≤ 50 → EC (d + 4) 62 [.ref 48, .int (nI 0), .int (nI (op + 1))] (Wd X (RZ Z 0 e p false s)) (PQ X Z 0 e (f 0 (op + 1) (p, s)))) (H5 : op < 5 → ∀ (p : Nat) (s : Nat × (Nat → Int32)), p ≤ e → s.1 ≤ 50 → EC (d + 4) 63 [.ref 48, .int (nI (op + 1))] (Wd X (RZ Z 0 e p false s)) (PQ X Z 0 e (f 5 (op + 1) (p, s)))) : EC (d + 5) 63 [.ref 48, .int (nI op)] (Wd X (RZ Z 0 e p false s)) (PQ X Z 0 e (qP (X 20) e 0 f op (p, s))) := by
  refine er_enter (L := [(0, _), (1, _)]) rfl rfl rfl ?_
  refine er_loc (pc' := 1) rfl rfl rfl ?_
  refine er_cIi (pc' := 4) (rest := []) 9 rfl rfl rfl rfl rfl rfl (l_ahead _ _ _ he50 hpe) ?_
  rw [show ahd (X 20) e p false = pk (X 20) e p from rfl]
  refine er_loc (pc' := 5) (L' := [(2, _), (0, _), (1, _)]) rfl rfl rfl ?_
  refine er_loc (pc' := 6) rfl rfl rfl ?_
  refine er_if_ge (pc' := 9) rfl rfl (fun h6 => ?_) (fun h6 => ?_)
  · have hb0 : ¬ pk (X 20) e p < 0 := h6
    obtain ⟨⟨b, hb1, hb2⟩, hp1⟩ := pk_isN ht hb0
    refine er_loc (pc' := 14) rfl rfl rfl ?_
    refine er_gf (pc' := 17) (.ref 1000101) rfl rfl rfl rfl rfl ?_
    refine er_loc (pc' := 18) rfl rfl rfl ?_
    refine er_i2c (pc' := 19) rfl rfl ?_
    rw [hb2, i2c_b hb1]
    refine er_cT (pc' := 22) rfl rfl rfl (l_idx_0 _ b hb1 _) ?_
    have hn : nmI 0 b = nmQ 0 (pk (X 20) e p) := by
      unfold nmQ
      rw [hb2, if_neg (nI_pos (by omega)), nN_nI (by omega)]
    rw [hn, ← hb2]
    refine er_loc (pc' := 23) (L' := [(3, _), (2, _), (0, _), (1, _)]) rfl rfl rfl ?_
    refine er_loc (pc' := 24) rfl rfl rfl ?_
    refine er_cSi (pc' := 27) (rest := []) rfl rfl rfl (l_isDigit _ _ _) ?_
    refine er_if_eqb (pc' := 30) rfl rfl (fun h27 => ?_) (fun h27 => ?_)
    · have n27 : ¬ dg (pk (X 20) e p) = true := by rw [h27]; decide
      refine er_loc (pc' := 38) rfl rfl rfl ?_
      refine er_if_lt (pc' := 41) rfl rfl (fun h38 => ?_) (fun h38 => ?_)
      · have n38 : nmQ 0 (pk (X 20) e p) < 0 := h38
        refine er_loc (pc' := 62) rfl rfl rfl ?_
        refine er_k (pc' := 64) (nI 33) rfl rfl rfl ?_
        refine er_cm_ne (pc' := 67) rfl rfl (fun h64 => ?_) (fun h64 => ?_)
        · have n64 : ¬ (pk (X 20) e p = nI 33 ∧ op < 5) := fun c => h64 c.1
          refine er_loc (pc' := 99) rfl rfl rfl ?_
          refine er_k (pc' := 101) (nI 40) rfl rfl rfl ?_
          refine er_cm_ne (pc' := 104) rfl rfl (fun h101 => ?_) (fun h101 => ?_)
          · have n101 : ¬ (pk (X 20) e p = nI 40 ∧ op < 5) := fun c => h101 c.1
            refine er_loc (pc' := 135) rfl rfl rfl ?_
            refine er_k (pc' := 136) (nI 1) rfl rfl rfl ?_
            refine er_pfIZ (pc' := 139) 4 rfl rfl rfl rfl rfl rfl ?_
            rw [RZ_b]
            have hq : qP (X 20) e 0 f op (p, s) = .inl p := by
              unfold qP
              rw [if_neg n27, if_neg (fun c => c n38), if_neg n64, if_neg n101]
            refine er_vret rfl rfl ?_
            exact PQ_inl hq hs hpe
          · have hp1 := pkq_lt h101 (by decide +kernel)
            refine er_loc (pc' := 105) rfl rfl rfl ?_
            refine er_k (pc' := 106) (nI 5) rfl rfl rfl ?_
            refine er_cm_ge (pc' := 109) rfl rfl (fun h106 => ?_) (fun h106 => ?_)
            · have n101 : ¬ (pk (X 20) e p = nI 40 ∧ op < 5) := fun c => h106 (nI_lt c.2 (by omega))
              refine er_loc (pc' := 135) rfl rfl rfl ?_
              refine er_k (pc' := 136) (nI 1) rfl rfl rfl ?_
              refine er_pfIZ (pc' := 139) 4 rfl rfl rfl rfl rfl rfl ?_
              rw [RZ_b]
              have hq : qP (X 20) e 0 f op (p, s) = .inl p := by
                unfold qP
                rw [if_neg n27, if_neg (fun c => c n38), if_neg n64, if_neg n101]
              refine er_vret rfl rfl ?_
              exact PQ_inl hq hs hpe
            · have ho5 : op < 5 := (nI_ltI (by omega) (by omega)).mp h106
              have hq : qP (X 20) e 0 f op (p, s) = (match f 0 (op + 1) (p + 1, s) with
                | .inl x => .inl x
                | .inr s' => if pk (X 20) e s'.1 = nI 41 then .inr (s'.1 + 1, s'.2) else .inl s'.1) := by
                unfold qP
                rw [if_neg n27, if_neg (fun c => c n38), if_neg n64, if_pos ⟨h101, ho5⟩]
              refine er_loc (pc' := 110) rfl rfl rfl ?_
              refine er_pure (pc' := 111) rfl rfl rfl ?_
              refine er_gf (pc' := 114) (.int (nI p)) rfl rfl rfl rfl rfl ?_
              refine er_k (pc' := 115) (nI 1) rfl rfl rfl ?_
              refine er_iadd (pc' := 116) rfl rfl ?_
              rw [nI_add]
              refine er_pfIZ (pc' := 119) 3 rfl rfl rfl rfl rfl rfl ?_
              rw [RZ_p]
              refine er_loc (pc' := 120) rfl rfl rfl ?_
              refine er_k (pc' := 121) (nI 0) rfl rfl rfl ?_
              refine er_loc (pc' := 122) rfl rfl rfl ?_
              refine er_k (pc' := 123) (nI 1) rfl rfl rfl ?_
              refine er_iadd (pc' := 124) rfl rfl ?_
              rw [nI_add]
              refine er_cS (pc' := 127) (rest := []) rfl rfl rfl (H0 ho5 (p + 1) s hp1 hs) (fun r hr => ?_)
              cases hf : f 0 (op + 1) (p + 1, s) with
              | inl y =>
                rw [hf] at hr
                obtain ⟨s', g1, g2, rfl⟩ := hr
                change ER _ _ _ _ [] (Wd X (RZ Z 0 e y true s')) _
                refine er_loc (pc' := 128) rfl rfl rfl ?_
                refine er_cIn (pc' := 131) (rest := []) 9 rfl rfl rfl rfl rfl rfl (l_close _ _ _ he50 g2) ?_
                rw [show clo (X 20) e y true = (y, true) from rfl]
                refine er_goto rfl ?_
                refine er_vret rfl rfl ?_
                exact PQ_inl (by rw [hq, hf]) g1 g2
              | inr s' =>
                rw [hf] at hr
                obtain ⟨g1, g2, rfl⟩ := hr
                change ER _ _ _ _ [] (Wd X (RZ Z 0 e s'.1 false s'.2)) _
                refine er_loc (pc' := 128) rfl rfl rfl ?_
                refine er_cIn (pc' := 131) (rest := []) 9 rfl rfl rfl rfl rfl rfl (l_close _ _ _ he50 g1) ?_
                by_cases hc : pk (X 20) e s'.1 = nI 41
                · rw [show clo (X 20) e s'.1 false = (s'.1 + 1, false) from if_pos hc]
                  refine er_goto rfl ?_
                  refine er_vret rfl rfl ?_
                  exact PQ_inr (by rw [hq, hf]; exact if_pos hc) (pkq_lt hc (by decide +kernel)) g2
                rw [show clo (X 20) e s'.1 false = (s'.1, true) from if_neg hc]
                refine er_goto rfl ?_
                refine er_vret rfl rfl ?_
                exact PQ_inl (by rw [hq, hf]; exact if_neg hc) g2 g1
        · have hp1 := pkq_lt h64 (by decide +kernel)
          refine er_loc (pc' := 68) rfl rfl rfl ?_
          refine er_k (pc' := 69) (nI 5) rfl rfl rfl ?_
          refine er_cm_ge (pc' := 72) rfl rfl (fun h69 => ?_) (fun h69 => ?_)
          · have n64 : ¬ (pk (X 20) e p = nI 33 ∧ op < 5) := fun c => h69 (nI_lt c.2 (by omega))
            refine er_loc (pc' := 99) rfl rfl rfl ?_
            refine er_k (pc' := 101) (nI 40) rfl rfl rfl ?_
            refine er_cm_ne (pc' := 104) rfl rfl (fun h101 => ?_) (fun h101 => ?_)
            · have n101 : ¬ (pk (X 20) e p = nI 40 ∧ op < 5) := fun c => h101 c.1
              refine er_loc (pc' := 135) rfl rfl rfl ?_
              refine er_k (pc' := 136) (nI 1) rfl rfl rfl ?_
              refine er_pfIZ (pc' := 139) 4 rfl rfl rfl rfl rfl rfl ?_
              rw [RZ_b]
              have hq : qP (X 20) e 0 f op (p, s) = .inl p := by
                unfold qP
                rw [if_neg n27, if_neg (fun c => c n38), if_neg n64, if_neg n101]
              refine er_vret rfl rfl ?_
              exact PQ_inl hq hs hpe
            · have hp1 := pkq_lt h101 (by decide +kernel)
              refine er_loc (pc' := 105) rfl rfl rfl ?_
              refine er_k (pc' := 106) (nI 5) rfl rfl rfl ?_
              refine er_cm_ge (pc' := 109) rfl rfl (fun h106 => ?_) (fun h106 => ?_)
              · have n101 : ¬ (pk (X 20) e p = nI 40 ∧ op < 5) := fun c => h106 (nI_lt c.2 (by omega))
                refine er_loc (pc' := 135) rfl rfl rfl ?_
                refine er_k (pc' := 136) (nI 1) rfl rfl rfl ?_
                refine er_pfIZ (pc' := 139) 4 rfl rfl rfl rfl rfl rfl ?_
                rw [RZ_b]
                have hq : qP (X 20) e 0 f op (p, s) = .inl p := by
                  unfold qP
                  rw [if_neg n27, if_neg (fun c => c n38), if_neg n64, if_neg n101]
                refine er_vret rfl rfl ?_
                exact PQ_inl hq hs hpe
              · have ho5 : op < 5 := (nI_ltI (by omega) (by omega)).mp h106
                have hq : qP (X 20) e 0 f op (p, s) = (match f 0 (op + 1) (p + 1, s) with
                  | .inl x => .inl x
                  | .inr s' => if pk (X 20) e s'.1 = nI 41 then .inr (s'.1 + 1, s'.2) else .inl s'.1) := by
                  unfold qP
                  rw [if_neg n27, if_neg (fun c => c n38), if_neg n64, if_pos ⟨h101, ho5⟩]
                refine er_loc (pc' := 110) rfl rfl rfl ?_
                refine er_pure (pc' := 111) rfl rfl rfl ?_
                refine er_gf (pc' := 114) (.int (nI p)) rfl rfl rfl rfl rfl ?_
                refine er_k (pc' := 115) (nI 1) rfl rfl rfl ?_
                refine er_iadd (pc' := 116) rfl rfl ?_
                rw [nI_add]
                refine er_pfIZ (pc' := 119) 3 rfl rfl rfl rfl rfl rfl ?_
                rw [RZ_p]
                refine er_loc (pc' := 120) rfl rfl rfl ?_
                refine er_k (pc' := 121) (nI 0) rfl rfl rfl ?_
                refine er_loc (pc' := 122) rfl rfl rfl ?_
                refine er_k (pc' := 123) (nI 1) rfl rfl rfl ?_
                refine er_iadd (pc' := 124) rfl rfl ?_
                rw [nI_add]
                refine er_cS (pc' := 127) (rest := []) rfl rfl rfl (H0 ho5 (p + 1) s hp1 hs) (fun r hr => ?_)
                cases hf : f 0 (op + 1) (p + 1, s) with
                | inl y =>
                  rw [hf] at hr
                  obtain ⟨s', g1, g2, rfl⟩ := hr
                  change ER _ _ _ _ [] (Wd X (RZ Z 0 e y true s')) _
                  refine er_loc (pc' := 128) rfl rfl rfl ?_
                  refine er_cIn (pc' := 131) (rest := []) 9 rfl rfl rfl rfl rfl rfl (l_close _ _ _ he50 g2) ?_
                  rw [show clo (X 20) e y true = (y, true) from rfl]
                  refine er_goto rfl ?_
                  refine er_vret rfl rfl ?_
                  exact PQ_inl (by rw [hq, hf]) g1 g2
                | inr s' =>
                  rw [hf] at hr
                  obtain ⟨g1, g2, rfl⟩ := hr
                  change ER _ _ _ _ [] (Wd X (RZ Z 0 e s'.1 false s'.2)) _
                  refine er_loc (pc' := 128) rfl rfl rfl ?_
                  refine er_cIn (pc' := 131) (rest := []) 9 rfl rfl rfl rfl rfl rfl (l_close _ _ _ he50 g1) ?_
                  by_cases hc : pk (X 20) e s'.1 = nI 41
                  · rw [show clo (X 20) e s'.1 false = (s'.1 + 1, false) from if_pos hc]
                    refine er_goto rfl ?_
                    refine er_vret rfl rfl ?_
                    exact PQ_inr (by rw [hq, hf]; exact if_pos hc) (pkq_lt hc (by decide +kernel)) g2
                  rw [show clo (X 20) e s'.1 false = (s'.1, true) from if_neg hc]
                  refine er_goto rfl ?_
                  refine er_vret rfl rfl ?_
                  exact PQ_inl (by rw [hq, hf]; exact if_neg hc) g2 g1
          · have ho5 : op < 5 := (nI_ltI (by omega) (by omega)).mp h69
            have hq : qP (X 20) e 0 f op (p, s) = (match f 5 (op + 1) (p + 1, s) with
              | .inl x => .inl x
              | .inr s' => .inr (s'.1, wrC s'.2 (-33))) := by
              unfold qP
              rw [if_neg n27, if_neg (fun c => c n38), if_pos ⟨h64, ho5⟩]
            refine er_loc (pc' := 73) rfl rfl rfl ?_
            refine er_pure (pc' := 74) rfl rfl rfl ?_
            refine er_gf (pc' := 77) (.int (nI p)) rfl rfl rfl rfl rfl ?_
            refine er_k (pc' := 78) (nI 1) rfl rfl rfl ?_
            refine er_iadd (pc' := 79) rfl rfl ?_
            rw [nI_add]
            refine er_pfIZ (pc' := 82) 3 rfl rfl rfl rfl rfl rfl ?_
            rw [RZ_p]
            refine er_loc (pc' := 83) rfl rfl rfl ?_
            refine er_loc (pc' := 84) rfl rfl rfl ?_
            refine er_k (pc' := 85) (nI 1) rfl rfl rfl ?_
            refine er_iadd (pc' := 86) rfl rfl ?_
            rw [nI_add]
            refine er_cS (pc' := 89) (rest := []) rfl rfl rfl (H5 ho5 (p + 1) s hp1 hs) (fun r hr => ?_)
            cases hf : f 5 (op + 1) (p + 1, s) with
            | inl y =>
              rw [hf] at hr
              obtain ⟨s', g1, g2, rfl⟩ := hr
              change ER _ _ _ _ [] (Wd X (RZ Z 0 e y true s')) _
              refine er_loc (pc' := 90) rfl rfl rfl ?_
              refine er_k (pc' := 92) (-33) rfl rfl rfl ?_
              refine er_cIn (pc' := 95) (rest := []) 9 rfl rfl rfl rfl rfl rfl (l_write _ _ _ g1 _) ?_
              refine er_goto rfl ?_
              refine er_vret rfl rfl ?_
              exact PQ_inl (by rw [hq, hf]) (wrC_le g1) g2
            | inr s' =>
              rw [hf] at hr
              obtain ⟨g1, g2, rfl⟩ := hr
              change ER _ _ _ _ [] (Wd X (RZ Z 0 e s'.1 false s'.2)) _
              refine er_loc (pc' := 90) rfl rfl rfl ?_
              refine er_k (pc' := 92) (-33) rfl rfl rfl ?_
              refine er_cIn (pc' := 95) (rest := []) 9 rfl rfl rfl rfl rfl rfl (l_write _ _ _ g2 _) ?_
              refine er_goto rfl ?_
              refine er_vret rfl rfl ?_
              exact PQ_inr (by rw [hq, hf]) g1 (wrC_le g2)
      · have n38 : ¬ nmQ 0 (pk (X 20) e p) < 0 := h38
        have hp1 : p + 1 ≤ e := (pk_isN ht (fun c => n38 (by rw [show nmQ 0 (pk (X 20) e p) = -1 from if_pos c]; decide +kernel))).2
        have hq : qP (X 20) e 0 f op (p, s) = .inr (p + 1, wrC s (-1 - nmQ 0 (pk (X 20) e p))) := by
          unfold qP
          rw [if_neg n27, if_pos n38]
        refine er_loc (pc' := 42) rfl rfl rfl ?_
        refine er_pure (pc' := 43) rfl rfl rfl ?_
        refine er_gf (pc' := 46) (.int (nI p)) rfl rfl rfl rfl rfl ?_
        refine er_k (pc' := 47) (nI 1) rfl rfl rfl ?_
        refine er_iadd (pc' := 48) rfl rfl ?_
        rw [nI_add]
        refine er_pfIZ (pc' := 51) 3 rfl rfl rfl rfl rfl rfl ?_
        rw [RZ_p]
        refine er_loc (pc' := 52) rfl rfl rfl ?_
        refine er_k (pc' := 53) (-1) rfl rfl rfl ?_
        refine er_loc (pc' := 54) rfl rfl rfl ?_
        refine er_isub (pc' := 55) rfl rfl ?_
        refine er_cIn (pc' := 58) (rest := []) 9 rfl rfl rfl rfl rfl rfl (l_write _ _ _ hs _) ?_
        refine er_goto rfl ?_
        refine er_vret rfl rfl ?_
        exact PQ_inr hq hp1 (wrC_le hs)
    · have hq : qP (X 20) e 0 f op (p, s) = .inr ((pNum (X 20) e 4 p (nI 0)).1, wrC s (pNum (X 20) e 4 p (nI 0)).2) := if_pos h27
      refine er_loc (pc' := 31) rfl rfl rfl ?_
      refine er_cIn (pc' := 34) (rest := []) 9 rfl rfl rfl rfl rfl rfl (l_readNumber _ _ _ he50 hs hpe) ?_
      refine er_goto rfl ?_
      refine er_vret rfl rfl ?_
      exact PQ_inr hq (pNum_le _ _ _ hpe) (wrC_le hs)
  · have hb0 : pk (X 20) e p < 0 := h6
    have hn : (-1 : Int32) = nmQ 0 (pk (X 20) e p) := (if_pos hb0).symm
    refine er_k (pc' := 10) (-1) rfl rfl rfl ?_
    rw [hn]
    refine er_goto rfl ?_
    refine er_loc (pc' := 23) (L' := [(3, _), (2, _), (0, _), (1, _)]) rfl rfl rfl ?_
    refine er_loc (pc' := 24) rfl rfl rfl ?_
    refine er_cSi (pc' := 27) (rest := []) rfl rfl rfl (l_isDigit _ _ _) ?_
    refine er_if_eqb (pc' := 30) rfl rfl (fun h27 => ?_) (fun h27 => ?_)
    · have n27 : ¬ dg (pk (X 20) e p) = true := by rw [h27]; decide
      refine er_loc (pc' := 38) rfl rfl rfl ?_
      refine er_if_lt (pc' := 41) rfl rfl (fun h38 => ?_) (fun h38 => ?_)
      · have n38 : nmQ 0 (pk (X 20) e p) < 0 := h38
        refine er_loc (pc' := 62) rfl rfl rfl ?_
        refine er_k (pc' := 64) (nI 33) rfl rfl rfl ?_
        refine er_cm_ne (pc' := 67) rfl rfl (fun h64 => ?_) (fun h64 => ?_)
        · have n64 : ¬ (pk (X 20) e p = nI 33 ∧ op < 5) := fun c => h64 c.1
          refine er_loc (pc' := 99) rfl rfl rfl ?_
          refine er_k (pc' := 101) (nI 40) rfl rfl rfl ?_
          refine er_cm_ne (pc' := 104) rfl rfl (fun h101 => ?_) (fun h101 => ?_)
          · have n101 : ¬ (pk (X 20) e p = nI 40 ∧ op < 5) := fun c => h101 c.1
            refine er_loc (pc' := 135) rfl rfl rfl ?_
            refine er_k (pc' := 136) (nI 1) rfl rfl rfl ?_
            refine er_pfIZ (pc' := 139) 4 rfl rfl rfl rfl rfl rfl ?_
            rw [RZ_b]
            have hq : qP (X 20) e 0 f op (p, s) = .inl p := by
              unfold qP
              rw [if_neg n27, if_neg (fun c => c n38), if_neg n64, if_neg n101]
            refine er_vret rfl rfl ?_
            exact PQ_inl hq hs hpe
          · have hp1 := pkq_lt h101 (by decide +kernel)
            refine er_loc (pc' := 105) rfl rfl rfl ?_
            refine er_k (pc' := 106) (nI 5) rfl rfl rfl ?_
            refine er_cm_ge (pc' := 109) rfl rfl (fun h106 => ?_) (fun h106 => ?_)
            · have n101 : ¬ (pk (X 20) e p = nI 40 ∧ op < 5) := fun c => h106 (nI_lt c.2 (by omega))
              refine er_loc (pc' := 135) rfl rfl rfl ?_
              refine er_k (pc' := 136) (nI 1) rfl rfl rfl ?_
              refine er_pfIZ (pc' := 139) 4 rfl rfl rfl rfl rfl rfl ?_
              rw [RZ_b]
              have hq : qP (X 20) e 0 f op (p, s) = .inl p := by
                unfold qP
                rw [if_neg n27, if_neg (fun c => c n38), if_neg n64, if_neg n101]
              refine er_vret rfl rfl ?_
              exact PQ_inl hq hs hpe
            · have ho5 : op < 5 := (nI_ltI (by omega) (by omega)).mp h106
              have hq : qP (X 20) e 0 f op (p, s) = (match f 0 (op + 1) (p + 1, s) with
                | .inl x => .inl x
                | .inr s' => if pk (X 20) e s'.1 = nI 41 then .inr (s'.1 + 1, s'.2) else .inl s'.1) := by
                unfold qP
                rw [if_neg n27, if_neg (fun c => c n38), if_neg n64, if_pos ⟨h101, ho5⟩]
              refine er_loc (pc' := 110) rfl rfl rfl ?_
              refine er_pure (pc' := 111) rfl rfl rfl ?_
              refine er_gf (pc' := 114) (.int (nI p)) rfl rfl rfl rfl rfl ?_
              refine er_k (pc' := 115) (nI 1) rfl rfl rfl ?_
              refine er_iadd (pc' := 116) rfl rfl ?_
              rw [nI_add]
              refine er_pfIZ (pc' := 119) 3 rfl rfl rfl rfl rfl rfl ?_
              rw [RZ_p]
              refine er_loc (pc' := 120) rfl rfl rfl ?_
              refine er_k (pc' := 121) (nI 0) rfl rfl rfl ?_
              refine er_loc (pc' := 122) rfl rfl rfl ?_
              refine er_k (pc' := 123) (nI 1) rfl rfl rfl ?_
              refine er_iadd (pc' := 124) rfl rfl ?_
              rw [nI_add]
              refine er_cS (pc' := 127) (rest := []) rfl rfl rfl (H0 ho5 (p + 1) s hp1 hs) (fun r hr => ?_)
              cases hf : f 0 (op + 1) (p + 1, s) with
              | inl y =>
                rw [hf] at hr
                obtain ⟨s', g1, g2, rfl⟩ := hr
                change ER _ _ _ _ [] (Wd X (RZ Z 0 e y true s')) _
                refine er_loc (pc' := 128) rfl rfl rfl ?_
                refine er_cIn (pc' := 131) (rest := []) 9 rfl rfl rfl rfl rfl rfl (l_close _ _ _ he50 g2) ?_
                rw [show clo (X 20) e y true = (y, true) from rfl]
                refine er_goto rfl ?_
                refine er_vret rfl rfl ?_
                exact PQ_inl (by rw [hq, hf]) g1 g2
              | inr s' =>
                rw [hf] at hr
                obtain ⟨g1, g2, rfl⟩ := hr
                change ER _ _ _ _ [] (Wd X (RZ Z 0 e s'.1 false s'.2)) _
                refine er_loc (pc' := 128) rfl rfl rfl ?_
                refine er_cIn (pc' := 131) (rest := []) 9 rfl rfl rfl rfl rfl rfl (l_close _ _ _ he50 g1) ?_
                by_cases hc : pk (X 20) e s'.1 = nI 41
                · rw [show clo (X 20) e s'.1 false = (s'.1 + 1, false) from if_pos hc]
                  refine er_goto rfl ?_
                  refine er_vret rfl rfl ?_
                  exact PQ_inr (by rw [hq, hf]; exact if_pos hc) (pkq_lt hc (by decide +kernel)) g2
                rw [show clo (X 20) e s'.1 false = (s'.1, true) from if_neg hc]
                refine er_goto rfl ?_
                refine er_vret rfl rfl ?_
                exact PQ_inl (by rw [hq, hf]; exact if_neg hc) g2 g1
        · have hp1 := pkq_lt h64 (by decide +kernel)
          refine er_loc (pc' := 68) rfl rfl rfl ?_
          refine er_k (pc' := 69) (nI 5) rfl rfl rfl ?_
          refine er_cm_ge (pc' := 72) rfl rfl (fun h69 => ?_) (fun h69 => ?_)
          · have n64 : ¬ (pk (X 20) e p = nI 33 ∧ op < 5) := fun c => h69 (nI_lt c.2 (by omega))
            refine er_loc (pc' := 99) rfl rfl rfl ?_
            refine er_k (pc' := 101) (nI 40) rfl rfl rfl ?_
            refine er_cm_ne (pc' := 104) rfl rfl (fun h101 => ?_) (fun h101 => ?_)
            · have n101 : ¬ (pk (X 20) e p = nI 40 ∧ op < 5) := fun c => h101 c.1
              refine er_loc (pc' := 135) rfl rfl rfl ?_
              refine er_k (pc' := 136) (nI 1) rfl rfl rfl ?_
              refine er_pfIZ (pc' := 139) 4 rfl rfl rfl rfl rfl rfl ?_
              rw [RZ_b]
              have hq : qP (X 20) e 0 f op (p, s) = .inl p := by
                unfold qP
                rw [if_neg n27, if_neg (fun c => c n38), if_neg n64, if_neg n101]
              refine er_vret rfl rfl ?_
              exact PQ_inl hq hs hpe
            · have hp1 := pkq_lt h101 (by decide +kernel)
              refine er_loc (pc' := 105) rfl rfl rfl ?_
              refine er_k (pc' := 106) (nI 5) rfl rfl rfl ?_
              refine er_cm_ge (pc' := 109) rfl rfl (fun h106 => ?_) (fun h106 => ?_)
              · have n101 : ¬ (pk (X 20) e p = nI 40 ∧ op < 5) := fun c => h106 (nI_lt c.2 (by omega))
                refine er_loc (pc' := 135) rfl rfl rfl ?_
                refine er_k (pc' := 136) (nI 1) rfl rfl rfl ?_
                refine er_pfIZ (pc' := 139) 4 rfl rfl rfl rfl rfl rfl ?_
                rw [RZ_b]
                have hq : qP (X 20) e 0 f op (p, s) = .inl p := by
                  unfold qP
                  rw [if_neg n27, if_neg (fun c => c n38), if_neg n64, if_neg n101]
                refine er_vret rfl rfl ?_
                exact PQ_inl hq hs hpe
              · have ho5 : op < 5 := (nI_ltI (by omega) (by omega)).mp h106
                have hq : qP (X 20) e 0 f op (p, s) = (match f 0 (op + 1) (p + 1, s) with
                  | .inl x => .inl x
                  | .inr s' => if pk (X 20) e s'.1 = nI 41 then .inr (s'.1 + 1, s'.2) else .inl s'.1) := by
                  unfold qP
                  rw [if_neg n27, if_neg (fun c => c n38), if_neg n64, if_pos ⟨h101, ho5⟩]
                refine er_loc (pc' := 110) rfl rfl rfl ?_
                refine er_pure (pc' := 111) rfl rfl rfl ?_
                refine er_gf (pc' := 114) (.int (nI p)) rfl rfl rfl rfl rfl ?_
                refine er_k (pc' := 115) (nI 1) rfl rfl rfl ?_
                refine er_iadd (pc' := 116) rfl rfl ?_
                rw [nI_add]
                refine er_pfIZ (pc' := 119) 3 rfl rfl rfl rfl rfl rfl ?_
                rw [RZ_p]
                refine er_loc (pc' := 120) rfl rfl rfl ?_
                refine er_k (pc' := 121) (nI 0) rfl rfl rfl ?_
                refine er_loc (pc' := 122) rfl rfl rfl ?_
                refine er_k (pc' := 123) (nI 1) rfl rfl rfl ?_
                refine er_iadd (pc' := 124) rfl rfl ?_
                rw [nI_add]
                refine er_cS (pc' := 127) (rest := []) rfl rfl rfl (H0 ho5 (p + 1) s hp1 hs) (fun r hr => ?_)
                cases hf : f 0 (op + 1) (p + 1, s) with
                | inl y =>
                  rw [hf] at hr
                  obtain ⟨s', g1, g2, rfl⟩ := hr
                  change ER _ _ _ _ [] (Wd X (RZ Z 0 e y true s')) _
                  refine er_loc (pc' := 128) rfl rfl rfl ?_
                  refine er_cIn (pc' := 131) (rest := []) 9 rfl rfl rfl rfl rfl rfl (l_close _ _ _ he50 g2) ?_
                  rw [show clo (X 20) e y true = (y, true) from rfl]
                  refine er_goto rfl ?_
                  refine er_vret rfl rfl ?_
                  exact PQ_inl (by rw [hq, hf]) g1 g2
                | inr s' =>
                  rw [hf] at hr
                  obtain ⟨g1, g2, rfl⟩ := hr
                  change ER _ _ _ _ [] (Wd X (RZ Z 0 e s'.1 false s'.2)) _
                  refine er_loc (pc' := 128) rfl rfl rfl ?_
                  refine er_cIn (pc' := 131) (rest := []) 9 rfl rfl rfl rfl rfl rfl (l_close _ _ _ he50 g1) ?_
                  by_cases hc : pk (X 20) e s'.1 = nI 41
                  · rw [show clo (X 20) e s'.1 false = (s'.1 + 1, false) from if_pos hc]
                    refine er_goto rfl ?_
                    refine er_vret rfl rfl ?_
                    exact PQ_inr (by rw [hq, hf]; exact if_pos hc) (pkq_lt hc (by decide +kernel)) g2
                  rw [show clo (X 20) e s'.1 false = (s'.1, true) from if_neg hc]
                  refine er_goto rfl ?_
                  refine er_vret rfl rfl ?_
                  exact PQ_inl (by rw [hq, hf]; exact if_neg hc) g2 g1
          · have ho5 : op < 5 := (nI_ltI (by omega) (by omega)).mp h69
            have hq : qP (X 20) e 0 f op (p, s) = (match f 5 (op + 1) (p + 1, s) with
              | .inl x => .inl x
              | .inr s' => .inr (s'.1, wrC s'.2 (-33))) := by
              unfold qP
              rw [if_neg n27, if_neg (fun c => c n38), if_pos ⟨h64, ho5⟩]
            refine er_loc (pc' := 73) rfl rfl rfl ?_
            refine er_pure (pc' := 74) rfl rfl rfl ?_
            refine er_gf (pc' := 77) (.int (nI p)) rfl rfl rfl rfl rfl ?_
            refine er_k (pc' := 78) (nI 1) rfl rfl rfl ?_
            refine er_iadd (pc' := 79) rfl rfl ?_
            rw [nI_add]
            refine er_pfIZ (pc' := 82) 3 rfl rfl rfl rfl rfl rfl ?_
            rw [RZ_p]
            refine er_loc (pc' := 83) rfl rfl rfl ?_
            refine er_loc (pc' := 84) rfl rfl rfl ?_
            refine er_k (pc' := 85) (nI 1) rfl rfl rfl ?_
            refine er_iadd (pc' := 86) rfl rfl ?_
            rw [nI_add]
            refine er_cS (pc' := 89) (rest := []) rfl rfl rfl (H5 ho5 (p + 1) s hp1 hs) (fun r hr => ?_)
            cases hf : f 5 (op + 1) (p + 1, s) with
            | inl y =>
              rw [hf] at hr
              obtain ⟨s', g1, g2, rfl⟩ := hr
              change ER _ _ _ _ [] (Wd X (RZ Z 0 e y true s')) _
              refine er_loc (pc' := 90) rfl rfl rfl ?_
              refine er_k (pc' := 92) (-33) rfl rfl rfl ?_
              refine er_cIn (pc' := 95) (rest := []) 9 rfl rfl rfl rfl rfl rfl (l_write _ _ _ g1 _) ?_
              refine er_goto rfl ?_
              refine er_vret rfl rfl ?_
              exact PQ_inl (by rw [hq, hf]) (wrC_le g1) g2
            | inr s' =>
              rw [hf] at hr
              obtain ⟨g1, g2, rfl⟩ := hr
              change ER _ _ _ _ [] (Wd X (RZ Z 0 e s'.1 false s'.2)) _
              refine er_loc (pc' := 90) rfl rfl rfl ?_
              refine er_k (pc' := 92) (-33) rfl rfl rfl ?_
              refine er_cIn (pc' := 95) (rest := []) 9 rfl rfl rfl rfl rfl rfl (l_write _ _ _ g2 _) ?_
              refine er_goto rfl ?_
              refine er_vret rfl rfl ?_
              exact PQ_inr (by rw [hq, hf]) g1 (wrC_le g2)
      · have n38 : ¬ nmQ 0 (pk (X 20) e p) < 0 := h38
        have hp1 : p + 1 ≤ e := (pk_isN ht (fun c => n38 (by rw [show nmQ 0 (pk (X 20) e p) = -1 from if_pos c]; decide +kernel))).2
        have hq : qP (X 20) e 0 f op (p, s) = .inr (p + 1, wrC s (-1 - nmQ 0 (pk (X 20) e p))) := by
          unfold qP
          rw [if_neg n27, if_pos n38]
        refine er_loc (pc' := 42) rfl rfl rfl ?_
        refine er_pure (pc' := 43) rfl rfl rfl ?_
        refine er_gf (pc' := 46) (.int (nI p)) rfl rfl rfl rfl rfl ?_
        refine er_k (pc' := 47) (nI 1) rfl rfl rfl ?_
        refine er_iadd (pc' := 48) rfl rfl ?_
        rw [nI_add]
        refine er_pfIZ (pc' := 51) 3 rfl rfl rfl rfl rfl rfl ?_
        rw [RZ_p]
        refine er_loc (pc' := 52) rfl rfl rfl ?_
        refine er_k (pc' := 53) (-1) rfl rfl rfl ?_
        refine er_loc (pc' := 54) rfl rfl rfl ?_
        refine er_isub (pc' := 55) rfl rfl ?_
        refine er_cIn (pc' := 58) (rest := []) 9 rfl rfl rfl rfl rfl rfl (l_write _ _ _ hs _) ?_
        refine er_goto rfl ?_
        refine er_vret rfl rfl ?_
        exact PQ_inr hq hp1 (wrC_le hs)
    · have hq : qP (X 20) e 0 f op (p, s) = .inr ((pNum (X 20) e 4 p (nI 0)).1, wrC s (pNum (X 20) e 4 p (nI 0)).2) := if_pos h27
      refine er_loc (pc' := 31) rfl rfl rfl ?_
      refine er_cIn (pc' := 34) (rest := []) 9 rfl rfl rfl rfl rfl rfl (l_readNumber _ _ _ he50 hs hpe) ?_
      refine er_goto rfl ?_
      refine er_vret rfl rfl ?_
      exact PQ_inr hq (pNum_le _ _ _ hpe) (wrC_le hs)
set_option maxRecDepth 100000 in
set_option maxHeartbeats 4000000 in
theorem l_qq0 (X Z : Nat → Nat → Int32) {e : Nat} (ht : ∀ k, isN (X 20 k) 255) (he50 : e ≤ 50) : ∀ (F D : Nat), 2 * F + 6 ≤ D →
    (∀ (op p : Nat) (s : Nat × (Nat → Int32)), op ≤ 5 → (5 - op) * 6 + 1 ≤ F → p ≤ e → s.1 ≤ 50 → EC D 63 [.ref 48, .int (nI op)] (Wd X (RZ Z 0 e p false s)) (PQ X Z 0 e (qq (X 20) e 0 F 5 op (p, s)))) ∧
    (∀ (rk op p : Nat) (s : Nat × (Nat → Int32)), rk ≤ 5 → op ≤ 5 → (5 - op) * 6 + (5 - rk) + 1 ≤ F → p ≤ e → s.1 ≤ 50 → EC (D + 1) 62 [.ref 48, .int (nI rk), .int (nI op)] (Wd X (RZ Z 0 e p false s)) (PQ X Z 0 e (qq (X 20) e 0 F rk op (p, s))))
  | 0, D, _ => ⟨fun op p s _ h => by omega, fun rk op p s _ _ h => by omega⟩
  | F + 1, D, hD => by
    obtain ⟨D, rfl⟩ : ∃ D', D = D' + 6 := ⟨D - 6, by omega⟩
    have ih := l_qq0 X Z ht he50 F (D + 4) (by omega)
    have ih5 := l_qq0 X Z ht he50 F (D + 5) (by omega)
    have hp : ∀ (op p : Nat) (s : Nat × (Nat → Int32)), op ≤ 5 → (5 - op) * 6 + 1 ≤ F + 1 → p ≤ e → s.1 ≤ 50 → EC (D + 6) 63 [.ref 48, .int (nI op)] (Wd X (RZ Z 0 e p false s)) (PQ X Z 0 e (qq (X 20) e 0 (F + 1) 5 op (p, s))) := by
      intro op p s hop hF hpe hs
      rw [qq_P]
      exact l_q_part0 (D + 1) X Z ht hop he50 hpe hs (fun ho p s h1 h2 => ih.2 0 (op + 1) p s (by omega) (by omega) (by omega) h1 h2) (fun ho p s h1 h2 => ih5.1 (op + 1) p s (by omega) (by omega) h1 h2)
    refine ⟨hp, ?_⟩
    intro rk op p s hrk hop hF hpe hs
    rcases Nat.lt_or_ge rk 5 with c | c
    · rw [qq_R c]
      exact l_q_rank (D + 4) X Z c he50 hpe hs (fun p s h1 h2 => ih5.2 (rk + 1) op p s (by omega) hop (by omega) h1 h2)
    · have c5 : rk = 5 := by omega
      subst c5
      exact l_q_rank5 (D + 6) X Z (hp op p s hop (by omega) hpe hs)
set_option maxRecDepth 100000 in
set_option maxHeartbeats 4000000 in
theorem l_q_part1 (d : Nat) (X Z : Nat → Nat → Int32) {e op p : Nat} {f : Nat → Nat → PS → PT} {s : Nat × (Nat → Int32)} (ht : ∀ k, isN (X 20 k) 255) (hop : op ≤ 5) (he50 : e ≤ 50) (hpe : p ≤ e) (hs : s.1 ≤ 50) (H0 : op < 5 → ∀ (p : Nat) (s : Nat × (Nat → Int32)), p ≤ e → s.1 ≤ 50 → EC (d + 4) 62 [.ref 48, .int (nI 0), .int (nI (op + 1))] (Wd X (RZ Z 1 e p false s)) (PQ X Z 1 e (f 0 (op + 1) (p, s)))) (H5 : op < 5 → ∀ (p : Nat) (s : Nat × (Nat → Int32)), p ≤ e → s.1 ≤ 50 → EC (d + 4) 63 [.ref 48, .int (nI (op + 1))] (Wd X (RZ Z 1 e p false s)) (PQ X Z 1 e (f 5 (op + 1) (p, s)))) : EC (d + 5) 63 [.ref 48, .int (nI op)] (Wd X (RZ Z 1 e p false s)) (PQ X Z 1 e (qP (X 20) e 1 f op (p, s))) := by
  refine er_enter (L := [(0, _), (1, _)]) rfl rfl rfl ?_
  refine er_loc (pc' := 1) rfl rfl rfl ?_
  refine er_cIi (pc' := 4) (rest := []) 9 rfl rfl rfl rfl rfl rfl (l_ahead _ _ _ he50 hpe) ?_
  rw [show ahd (X 20) e p false = pk (X 20) e p from rfl]
  refine er_loc (pc' := 5) (L' := [(2, _), (0, _), (1, _)]) rfl rfl rfl ?_
  refine er_loc (pc' := 6) rfl rfl rfl ?_
  refine er_if_ge (pc' := 9) rfl rfl (fun h6 => ?_) (fun h6 => ?_)
  · have hb0 : ¬ pk (X 20) e p < 0 := h6
    obtain ⟨⟨b, hb1, hb2⟩, hp1⟩ := pk_isN ht hb0
    refine er_loc (pc' := 14) rfl rfl rfl ?_
    refine er_gf (pc' := 17) (.ref 1000102) rfl rfl rfl rfl rfl ?_
    refine er_loc (pc' := 18) rfl rfl rfl ?_
    refine er_i2c (pc' := 19) rfl rfl ?_
    rw [hb2, i2c_b hb1]
    refine er_cT (pc' := 22) rfl rfl rfl (l_idx_1 _ b hb1 _) ?_
    have hn : nmI 1 b = nmQ 1 (pk (X 20) e p) := by
      unfold nmQ
      rw [hb2, if_neg (nI_pos (by omega)), nN_nI (by omega)]
    rw [hn, ← hb2]
    refine er_loc (pc' := 23) (L' := [(3, _), (2, _), (0, _), (1, _)]) rfl rfl rfl ?_
    refine er_loc (pc' := 24) rfl rfl rfl ?_
    refine er_cSi (pc' := 27) (rest := []) rfl rfl rfl (l_isDigit _ _ _) ?_
    refine er_if_eqb (pc' := 30) rfl rfl (fun h27 => ?_) (fun h27 => ?_)
    · have n27 : ¬ dg (pk (X 20) e p) = true := by rw [h27]; decide
      refine er_loc (pc' := 38) rfl rfl rfl ?_
      refine er_if_lt (pc' := 41) rfl rfl (fun h38 => ?_) (fun h38 => ?_)
      · have n38 : nmQ 1 (pk (X 20) e p) < 0 := h38
        refine er_loc (pc' := 62) rfl rfl rfl ?_
        refine er_k (pc' := 64) (nI 33) rfl rfl rfl ?_
        refine er_cm_ne (pc' := 67) rfl rfl (fun h64 => ?_) (fun h64 => ?_)
        · have n64 : ¬ (pk (X 20) e p = nI 33 ∧ op < 5) := fun c => h64 c.1
          refine er_loc (pc' := 99) rfl rfl rfl ?_
          refine er_k (pc' := 101) (nI 40) rfl rfl rfl ?_
          refine er_cm_ne (pc' := 104) rfl rfl (fun h101 => ?_) (fun h101 => ?_)
          · have n101 : ¬ (pk (X 20) e p = nI 40 ∧ op < 5) := fun c => h101 c.1
            refine er_loc (pc' := 135) rfl rfl rfl ?_
            refine er_k (pc' := 136) (nI 1) rfl rfl rfl ?_
            refine er_pfIZ (pc' := 139) 4 rfl rfl rfl rfl rfl rfl ?_
            rw [RZ_b]
            have hq : qP (X 20) e 1 f op (p, s) = .inl p := by
              unfold qP
              rw [if_neg n27, if_neg (fun c => c n38), if_neg n64, if_neg n101]
            refine er_vret rfl rfl ?_
            exact PQ_inl hq hs hpe
          · have hp1 := pkq_lt h101 (by decide +kernel)
            refine er_loc (pc' := 105) rfl rfl rfl ?_
            refine er_k (pc' := 106) (nI 5) rfl rfl rfl ?_
            refine er_cm_ge (pc' := 109) rfl rfl (fun h106 => ?_) (fun h106 => ?_)
            · have n101 : ¬ (pk (X 20) e p = nI 40 ∧ op < 5) := fun c => h106 (nI_lt c.2 (by omega))
              refine er_loc (pc' := 135) rfl rfl rfl ?_
              refine er_k (pc' := 136) (nI 1) rfl rfl rfl ?_
              refine er_pfIZ (pc' := 139) 4 rfl rfl rfl rfl rfl rfl ?_
              rw [RZ_b]
              have hq : qP (X 20) e 1 f op (p, s) = .inl p := by
                unfold qP
                rw [if_neg n27, if_neg (fun c => c n38), if_neg n64, if_neg n101]
              refine er_vret rfl rfl ?_
              exact PQ_inl hq hs hpe
            · have ho5 : op < 5 := (nI_ltI (by omega) (by omega)).mp h106
              have hq : qP (X 20) e 1 f op (p, s) = (match f 0 (op + 1) (p + 1, s) with
                | .inl x => .inl x
                | .inr s' => if pk (X 20) e s'.1 = nI 41 then .inr (s'.1 + 1, s'.2) else .inl s'.1) := by
                unfold qP
                rw [if_neg n27, if_neg (fun c => c n38), if_neg n64, if_pos ⟨h101, ho5⟩]
              refine er_loc (pc' := 110) rfl rfl rfl ?_
              refine er_pure (pc' := 111) rfl rfl rfl ?_
              refine er_gf (pc' := 114) (.int (nI p)) rfl rfl rfl rfl rfl ?_
              refine er_k (pc' := 115) (nI 1) rfl rfl rfl ?_
              refine er_iadd (pc' := 116) rfl rfl ?_
              rw [nI_add]
              refine er_pfIZ (pc' := 119) 3 rfl rfl rfl rfl rfl rfl ?_
              rw [RZ_p]
              refine er_loc (pc' := 120) rfl rfl rfl ?_
              refine er_k (pc' := 121) (nI 0) rfl rfl rfl ?_
              refine er_loc (pc' := 122) rfl rfl rfl ?_
              refine er_k (pc' := 123) (nI 1) rfl rfl rfl ?_
              refine er_iadd (pc' := 124) rfl rfl ?_
              rw [nI_add]
              refine er_cS (pc' := 127) (rest := []) rfl rfl rfl (H0 ho5 (p + 1) s hp1 hs) (fun r hr => ?_)
              cases hf : f 0 (op + 1) (p + 1, s) with
              | inl y =>
                rw [hf] at hr
                obtain ⟨s', g1, g2, rfl⟩ := hr
                change ER _ _ _ _ [] (Wd X (RZ Z 1 e y true s')) _
                refine er_loc (pc' := 128) rfl rfl rfl ?_
                refine er_cIn (pc' := 131) (rest := []) 9 rfl rfl rfl rfl rfl rfl (l_close _ _ _ he50 g2) ?_
                rw [show clo (X 20) e y true = (y, true) from rfl]
                refine er_goto rfl ?_
                refine er_vret rfl rfl ?_
                exact PQ_inl (by rw [hq, hf]) g1 g2
              | inr s' =>
                rw [hf] at hr
                obtain ⟨g1, g2, rfl⟩ := hr
                change ER _ _ _ _ [] (Wd X (RZ Z 1 e s'.1 false s'.2)) _
                refine er_loc (pc' := 128) rfl rfl rfl ?_
                refine er_cIn (pc' := 131) (rest := []) 9 rfl rfl rfl rfl rfl rfl (l_close _ _ _ he50 g1) ?_
                by_cases hc : pk (X 20) e s'.1 = nI 41
                · rw [show clo (X 20) e s'.1 false = (s'.1 + 1, false) from if_pos hc]
                  refine er_goto rfl ?_
                  refine er_vret rfl rfl ?_
                  exact PQ_inr (by rw [hq, hf]; exact if_pos hc) (pkq_lt hc (by decide +kernel)) g2
                rw [show clo (X 20) e s'.1 false = (s'.1, true) from if_neg hc]
                refine er_goto rfl ?_
                refine er_vret rfl rfl ?_
                exact PQ_inl (by rw [hq, hf]; exact if_neg hc) g2 g1
        · have hp1 := pkq_lt h64 (by decide +kernel)
          refine er_loc (pc' := 68) rfl rfl rfl ?_
          refine er_k (pc' := 69) (nI 5) rfl rfl rfl ?_
          refine er_cm_ge (pc' := 72) rfl rfl (fun h69 => ?_) (fun h69 => ?_)
          · have n64 : ¬ (pk (X 20) e p = nI 33 ∧ op < 5) := fun c => h69 (nI_lt c.2 (by omega))
            refine er_loc (pc' := 99) rfl rfl rfl ?_
            refine er_k (pc' := 101) (nI 40) rfl rfl rfl ?_
            refine er_cm_ne (pc' := 104) rfl rfl (fun h101 => ?_) (fun h101 => ?_)
            · have n101 : ¬ (pk (X 20) e p = nI 40 ∧ op < 5) := fun c => h101 c.1
              refine er_loc (pc' := 135) rfl rfl rfl ?_
              refine er_k (pc' := 136) (nI 1) rfl rfl rfl ?_
              refine er_pfIZ (pc' := 139) 4 rfl rfl rfl rfl rfl rfl ?_
              rw [RZ_b]
              have hq : qP (X 20) e 1 f op (p, s) = .inl p := by
                unfold qP
                rw [if_neg n27, if_neg (fun c => c n38), if_neg n64, if_neg n101]
              refine er_vret rfl rfl ?_
              exact PQ_inl hq hs hpe
            · have hp1 := pkq_lt h101 (by decide +kernel)
              refine er_loc (pc' := 105) rfl rfl rfl ?_
              refine er_k (pc' := 106) (nI 5) rfl rfl rfl ?_
              refine er_cm_ge (pc' := 109) rfl rfl (fun h106 => ?_) (fun h106 => ?_)
              · have n101 : ¬ (pk (X 20) e p = nI 40 ∧ op < 5) := fun c => h106 (nI_lt c.2 (by omega))
                refine er_loc (pc' := 135) rfl rfl rfl ?_
                refine er_k (pc' := 136) (nI 1) rfl rfl rfl ?_
                refine er_pfIZ (pc' := 139) 4 rfl rfl rfl rfl rfl rfl ?_
                rw [RZ_b]
                have hq : qP (X 20) e 1 f op (p, s) = .inl p := by
                  unfold qP
                  rw [if_neg n27, if_neg (fun c => c n38), if_neg n64, if_neg n101]
                refine er_vret rfl rfl ?_
                exact PQ_inl hq hs hpe
              · have ho5 : op < 5 := (nI_ltI (by omega) (by omega)).mp h106
                have hq : qP (X 20) e 1 f op (p, s) = (match f 0 (op + 1) (p + 1, s) with
                  | .inl x => .inl x
                  | .inr s' => if pk (X 20) e s'.1 = nI 41 then .inr (s'.1 + 1, s'.2) else .inl s'.1) := by
                  unfold qP
                  rw [if_neg n27, if_neg (fun c => c n38), if_neg n64, if_pos ⟨h101, ho5⟩]
                refine er_loc (pc' := 110) rfl rfl rfl ?_
                refine er_pure (pc' := 111) rfl rfl rfl ?_
                refine er_gf (pc' := 114) (.int (nI p)) rfl rfl rfl rfl rfl ?_
                refine er_k (pc' := 115) (nI 1) rfl rfl rfl ?_
                refine er_iadd (pc' := 116) rfl rfl ?_
                rw [nI_add]
                refine er_pfIZ (pc' := 119) 3 rfl rfl rfl rfl rfl rfl ?_
                rw [RZ_p]
                refine er_loc (pc' := 120) rfl rfl rfl ?_
                refine er_k (pc' := 121) (nI 0) rfl rfl rfl ?_
                refine er_loc (pc' := 122) rfl rfl rfl ?_
                refine er_k (pc' := 123) (nI 1) rfl rfl rfl ?_
                refine er_iadd (pc' := 124) rfl rfl ?_
                rw [nI_add]
                refine er_cS (pc' := 127) (rest := []) rfl rfl rfl (H0 ho5 (p + 1) s hp1 hs) (fun r hr => ?_)
                cases hf : f 0 (op + 1) (p + 1, s) with
                | inl y =>
                  rw [hf] at hr
                  obtain ⟨s', g1, g2, rfl⟩ := hr
                  change ER _ _ _ _ [] (Wd X (RZ Z 1 e y true s')) _
                  refine er_loc (pc' := 128) rfl rfl rfl ?_
                  refine er_cIn (pc' := 131) (rest := []) 9 rfl rfl rfl rfl rfl rfl (l_close _ _ _ he50 g2) ?_
                  rw [show clo (X 20) e y true = (y, true) from rfl]
                  refine er_goto rfl ?_
                  refine er_vret rfl rfl ?_
                  exact PQ_inl (by rw [hq, hf]) g1 g2
                | inr s' =>
                  rw [hf] at hr
                  obtain ⟨g1, g2, rfl⟩ := hr
                  change ER _ _ _ _ [] (Wd X (RZ Z 1 e s'.1 false s'.2)) _
                  refine er_loc (pc' := 128) rfl rfl rfl ?_
                  refine er_cIn (pc' := 131) (rest := []) 9 rfl rfl rfl rfl rfl rfl (l_close _ _ _ he50 g1) ?_
                  by_cases hc : pk (X 20) e s'.1 = nI 41
                  · rw [show clo (X 20) e s'.1 false = (s'.1 + 1, false) from if_pos hc]
                    refine er_goto rfl ?_
                    refine er_vret rfl rfl ?_
                    exact PQ_inr (by rw [hq, hf]; exact if_pos hc) (pkq_lt hc (by decide +kernel)) g2
                  rw [show clo (X 20) e s'.1 false = (s'.1, true) from if_neg hc]
                  refine er_goto rfl ?_
                  refine er_vret rfl rfl ?_
                  exact PQ_inl (by rw [hq, hf]; exact if_neg hc) g2 g1
          · have ho5 : op < 5 := (nI_ltI (by omega) (by omega)).mp h69
            have hq : qP (X 20) e 1 f op (p, s) = (match f 5 (op + 1) (p + 1, s) with
              | .inl x => .inl x
              | .inr s' => .inr (s'.1, wrC s'.2 (-33))) := by
              unfold qP
              rw [if_neg n27, if_neg (fun c => c n38), if_pos ⟨h64, ho5⟩]
            refine er_loc (pc' := 73) rfl rfl rfl ?_
            refine er_pure (pc' := 74) rfl rfl rfl ?_
            refine er_gf (pc' := 77) (.int (nI p)) rfl rfl rfl rfl rfl ?_
            refine er_k (pc' := 78) (nI 1) rfl rfl rfl ?_
            refine er_iadd (pc' := 79) rfl rfl ?_
            rw [nI_add]
            refine er_pfIZ (pc' := 82) 3 rfl rfl rfl rfl rfl rfl ?_
            rw [RZ_p]
            refine er_loc (pc' := 83) rfl rfl rfl ?_
            refine er_loc (pc' := 84) rfl rfl rfl ?_
            refine er_k (pc' := 85) (nI 1) rfl rfl rfl ?_
            refine er_iadd (pc' := 86) rfl rfl ?_
            rw [nI_add]
            refine er_cS (pc' := 89) (rest := []) rfl rfl rfl (H5 ho5 (p + 1) s hp1 hs) (fun r hr => ?_)
            cases hf : f 5 (op + 1) (p + 1, s) with
            | inl y =>
              rw [hf] at hr
              obtain ⟨s', g1, g2, rfl⟩ := hr
              change ER _ _ _ _ [] (Wd X (RZ Z 1 e y true s')) _
              refine er_loc (pc' := 90) rfl rfl rfl ?_
              refine er_k (pc' := 92) (-33) rfl rfl rfl ?_
              refine er_cIn (pc' := 95) (rest := []) 9 rfl rfl rfl rfl rfl rfl (l_write _ _ _ g1 _) ?_
              refine er_goto rfl ?_
              refine er_vret rfl rfl ?_
              exact PQ_inl (by rw [hq, hf]) (wrC_le g1) g2
            | inr s' =>
              rw [hf] at hr
              obtain ⟨g1, g2, rfl⟩ := hr
              change ER _ _ _ _ [] (Wd X (RZ Z 1 e s'.1 false s'.2)) _
              refine er_loc (pc' := 90) rfl rfl rfl ?_
              refine er_k (pc' := 92) (-33) rfl rfl rfl ?_
              refine er_cIn (pc' := 95) (rest := []) 9 rfl rfl rfl rfl rfl rfl (l_write _ _ _ g2 _) ?_
              refine er_goto rfl ?_
              refine er_vret rfl rfl ?_
              exact PQ_inr (by rw [hq, hf]) g1 (wrC_le g2)
      · have n38 : ¬ nmQ 1 (pk (X 20) e p) < 0 := h38
        have hp1 : p + 1 ≤ e := (pk_isN ht (fun c => n38 (by rw [show nmQ 1 (pk (X 20) e p) = -1 from if_pos c]; decide +kernel))).2
        have hq : qP (X 20) e 1 f op (p, s) = .inr (p + 1, wrC s (-1 - nmQ 1 (pk (X 20) e p))) := by
          unfold qP
          rw [if_neg n27, if_pos n38]
        refine er_loc (pc' := 42) rfl rfl rfl ?_
        refine er_pure (pc' := 43) rfl rfl rfl ?_
        refine er_gf (pc' := 46) (.int (nI p)) rfl rfl rfl rfl rfl ?_
        refine er_k (pc' := 47) (nI 1) rfl rfl rfl ?_
        refine er_iadd (pc' := 48) rfl rfl ?_
        rw [nI_add]
        refine er_pfIZ (pc' := 51) 3 rfl rfl rfl rfl rfl rfl ?_
        rw [RZ_p]
        refine er_loc (pc' := 52) rfl rfl rfl ?_
        refine er_k (pc' := 53) (-1) rfl rfl rfl ?_
        refine er_loc (pc' := 54) rfl rfl rfl ?_
        refine er_isub (pc' := 55) rfl rfl ?_
        refine er_cIn (pc' := 58) (rest := []) 9 rfl rfl rfl rfl rfl rfl (l_write _ _ _ hs _) ?_
        refine er_goto rfl ?_
        refine er_vret rfl rfl ?_
        exact PQ_inr hq hp1 (wrC_le hs)
    · have hq : qP (X 20) e 1 f op (p, s) = .inr ((pNum (X 20) e 4 p (nI 0)).1, wrC s (pNum (X 20) e 4 p (nI 0)).2) := if_pos h27
      refine er_loc (pc' := 31) rfl rfl rfl ?_
      refine er_cIn (pc' := 34) (rest := []) 9 rfl rfl rfl rfl rfl rfl (l_readNumber _ _ _ he50 hs hpe) ?_
      refine er_goto rfl ?_
      refine er_vret rfl rfl ?_
      exact PQ_inr hq (pNum_le _ _ _ hpe) (wrC_le hs)
  · have hb0 : pk (X 20) e p < 0 := h6
    have hn : (-1 : Int32) = nmQ 1 (pk (X 20) e p) := (if_pos hb0).symm
    refine er_k (pc' := 10) (-1) rfl rfl rfl ?_
    rw [hn]
    refine er_goto rfl ?_
    refine er_loc (pc' := 23) (L' := [(3, _), (2, _), (0, _), (1, _)]) rfl rfl rfl ?_
    refine er_loc (pc' := 24) rfl rfl rfl ?_
    refine er_cSi (pc' := 27) (rest := []) rfl rfl rfl (l_isDigit _ _ _) ?_
    refine er_if_eqb (pc' := 30) rfl rfl (fun h27 => ?_) (fun h27 => ?_)
    · have n27 : ¬ dg (pk (X 20) e p) = true := by rw [h27]; decide
      refine er_loc (pc' := 38) rfl rfl rfl ?_
      refine er_if_lt (pc' := 41) rfl rfl (fun h38 => ?_) (fun h38 => ?_)
      · have n38 : nmQ 1 (pk (X 20) e p) < 0 := h38
        refine er_loc (pc' := 62) rfl rfl rfl ?_
        refine er_k (pc' := 64) (nI 33) rfl rfl rfl ?_
        refine er_cm_ne (pc' := 67) rfl rfl (fun h64 => ?_) (fun h64 => ?_)
        · have n64 : ¬ (pk (X 20) e p = nI 33 ∧ op < 5) := fun c => h64 c.1
          refine er_loc (pc' := 99) rfl rfl rfl ?_
          refine er_k (pc' := 101) (nI 40) rfl rfl rfl ?_
          refine er_cm_ne (pc' := 104) rfl rfl (fun h101 => ?_) (fun h101 => ?_)
          · have n101 : ¬ (pk (X 20) e p = nI 40 ∧ op < 5) := fun c => h101 c.1
            refine er_loc (pc' := 135) rfl rfl rfl ?_
            refine er_k (pc' := 136) (nI 1) rfl rfl rfl ?_
            refine er_pfIZ (pc' := 139) 4 rfl rfl rfl rfl rfl rfl ?_
            rw [RZ_b]
            have hq : qP (X 20) e 1 f op (p, s) = .inl p := by
              unfold qP
              rw [if_neg n27, if_neg (fun c => c n38), if_neg n64, if_neg n101]
            refine er_vret rfl rfl ?_
            exact PQ_inl hq hs hpe
          · have hp1 := pkq_lt h101 (by decide +kernel)
            refine er_loc (pc' := 105) rfl rfl rfl ?_
            refine er_k (pc' := 106) (nI 5) rfl rfl rfl ?_
            refine er_cm_ge (pc' := 109) rfl rfl (fun h106 => ?_) (fun h106 => ?_)
            · have n101 : ¬ (pk (X 20) e p = nI 40 ∧ op < 5) := fun c => h106 (nI_lt c.2 (by omega))
              refine er_loc (pc' := 135) rfl rfl rfl ?_
              refine er_k (pc' := 136) (nI 1) rfl rfl rfl ?_
              refine er_pfIZ (pc' := 139) 4 rfl rfl rfl rfl rfl rfl ?_
              rw [RZ_b]
              have hq : qP (X 20) e 1 f op (p, s) = .inl p := by
                unfold qP
                rw [if_neg n27, if_neg (fun c => c n38), if_neg n64, if_neg n101]
              refine er_vret rfl rfl ?_
              exact PQ_inl hq hs hpe
            · have ho5 : op < 5 := (nI_ltI (by omega) (by omega)).mp h106
              have hq : qP (X 20) e 1 f op (p, s) = (match f 0 (op + 1) (p + 1, s) with
                | .inl x => .inl x
                | .inr s' => if pk (X 20) e s'.1 = nI 41 then .inr (s'.1 + 1, s'.2) else .inl s'.1) := by
                unfold qP
                rw [if_neg n27, if_neg (fun c => c n38), if_neg n64, if_pos ⟨h101, ho5⟩]
              refine er_loc (pc' := 110) rfl rfl rfl ?_
              refine er_pure (pc' := 111) rfl rfl rfl ?_
              refine er_gf (pc' := 114) (.int (nI p)) rfl rfl rfl rfl rfl ?_
              refine er_k (pc' := 115) (nI 1) rfl rfl rfl ?_
              refine er_iadd (pc' := 116) rfl rfl ?_
              rw [nI_add]
              refine er_pfIZ (pc' := 119) 3 rfl rfl rfl rfl rfl rfl ?_
              rw [RZ_p]
              refine er_loc (pc' := 120) rfl rfl rfl ?_
              refine er_k (pc' := 121) (nI 0) rfl rfl rfl ?_
              refine er_loc (pc' := 122) rfl rfl rfl ?_
              refine er_k (pc' := 123) (nI 1) rfl rfl rfl ?_
              refine er_iadd (pc' := 124) rfl rfl ?_
              rw [nI_add]
              refine er_cS (pc' := 127) (rest := []) rfl rfl rfl (H0 ho5 (p + 1) s hp1 hs) (fun r hr => ?_)
              cases hf : f 0 (op + 1) (p + 1, s) with
              | inl y =>
                rw [hf] at hr
                obtain ⟨s', g1, g2, rfl⟩ := hr
                change ER _ _ _ _ [] (Wd X (RZ Z 1 e y true s')) _
                refine er_loc (pc' := 128) rfl rfl rfl ?_
                refine er_cIn (pc' := 131) (rest := []) 9 rfl rfl rfl rfl rfl rfl (l_close _ _ _ he50 g2) ?_
                rw [show clo (X 20) e y true = (y, true) from rfl]
                refine er_goto rfl ?_
                refine er_vret rfl rfl ?_
                exact PQ_inl (by rw [hq, hf]) g1 g2
              | inr s' =>
                rw [hf] at hr
                obtain ⟨g1, g2, rfl⟩ := hr
                change ER _ _ _ _ [] (Wd X (RZ Z 1 e s'.1 false s'.2)) _
                refine er_loc (pc' := 128) rfl rfl rfl ?_
                refine er_cIn (pc' := 131) (rest := []) 9 rfl rfl rfl rfl rfl rfl (l_close _ _ _ he50 g1) ?_
                by_cases hc : pk (X 20) e s'.1 = nI 41
                · rw [show clo (X 20) e s'.1 false = (s'.1 + 1, false) from if_pos hc]
                  refine er_goto rfl ?_
                  refine er_vret rfl rfl ?_
                  exact PQ_inr (by rw [hq, hf]; exact if_pos hc) (pkq_lt hc (by decide +kernel)) g2
                rw [show clo (X 20) e s'.1 false = (s'.1, true) from if_neg hc]
                refine er_goto rfl ?_
                refine er_vret rfl rfl ?_
                exact PQ_inl (by rw [hq, hf]; exact if_neg hc) g2 g1
        · have hp1 := pkq_lt h64 (by decide +kernel)
          refine er_loc (pc' := 68) rfl rfl rfl ?_
          refine er_k (pc' := 69) (nI 5) rfl rfl rfl ?_
          refine er_cm_ge (pc' := 72) rfl rfl (fun h69 => ?_) (fun h69 => ?_)
          · have n64 : ¬ (pk (X 20) e p = nI 33 ∧ op < 5) := fun c => h69 (nI_lt c.2 (by omega))
            refine er_loc (pc' := 99) rfl rfl rfl ?_
            refine er_k (pc' := 101) (nI 40) rfl rfl rfl ?_
            refine er_cm_ne (pc' := 104) rfl rfl (fun h101 => ?_) (fun h101 => ?_)
            · have n101 : ¬ (pk (X 20) e p = nI 40 ∧ op < 5) := fun c => h101 c.1
              refine er_loc (pc' := 135) rfl rfl rfl ?_
              refine er_k (pc' := 136) (nI 1) rfl rfl rfl ?_
              refine er_pfIZ (pc' := 139) 4 rfl rfl rfl rfl rfl rfl ?_
              rw [RZ_b]
              have hq : qP (X 20) e 1 f op (p, s) = .inl p := by
                unfold qP
                rw [if_neg n27, if_neg (fun c => c n38), if_neg n64, if_neg n101]
              refine er_vret rfl rfl ?_
              exact PQ_inl hq hs hpe
            · have hp1 := pkq_lt h101 (by decide +kernel)
              refine er_loc (pc' := 105) rfl rfl rfl ?_
              refine er_k (pc' := 106) (nI 5) rfl rfl rfl ?_
              refine er_cm_ge (pc' := 109) rfl rfl (fun h106 => ?_) (fun h106 => ?_)
              · have n101 : ¬ (pk (X 20) e p = nI 40 ∧ op < 5) := fun c => h106 (nI_lt c.2 (by omega))
                refine er_loc (pc' := 135) rfl rfl rfl ?_
                refine er_k (pc' := 136) (nI 1) rfl rfl rfl ?_
                refine er_pfIZ (pc' := 139) 4 rfl rfl rfl rfl rfl rfl ?_
                rw [RZ_b]
                have hq : qP (X 20) e 1 f op (p, s) = .inl p := by
                  unfold qP
                  rw [if_neg n27, if_neg (fun c => c n38), if_neg n64, if_neg n101]
                refine er_vret rfl rfl ?_
                exact PQ_inl hq hs hpe
              · have ho5 : op < 5 := (nI_ltI (by omega) (by omega)).mp h106
                have hq : qP (X 20) e 1 f op (p, s) = (match f 0 (op + 1) (p + 1, s) with
                  | .inl x => .inl x
                  | .inr s' => if pk (X 20) e s'.1 = nI 41 then .inr (s'.1 + 1, s'.2) else .inl s'.1) := by
                  unfold qP
                  rw [if_neg n27, if_neg (fun c => c n38), if_neg n64, if_pos ⟨h101, ho5⟩]
                refine er_loc (pc' := 110) rfl rfl rfl ?_
                refine er_pure (pc' := 111) rfl rfl rfl ?_
                refine er_gf (pc' := 114) (.int (nI p)) rfl rfl rfl rfl rfl ?_
                refine er_k (pc' := 115) (nI 1) rfl rfl rfl ?_
                refine er_iadd (pc' := 116) rfl rfl ?_
                rw [nI_add]
                refine er_pfIZ (pc' := 119) 3 rfl rfl rfl rfl rfl rfl ?_
                rw [RZ_p]
                refine er_loc (pc' := 120) rfl rfl rfl ?_
                refine er_k (pc' := 121) (nI 0) rfl rfl rfl ?_
                refine er_loc (pc' := 122) rfl rfl rfl ?_
                refine er_k (pc' := 123) (nI 1) rfl rfl rfl ?_
                refine er_iadd (pc' := 124) rfl rfl ?_
                rw [nI_add]
                refine er_cS (pc' := 127) (rest := []) rfl rfl rfl (H0 ho5 (p + 1) s hp1 hs) (fun r hr => ?_)
                cases hf : f 0 (op + 1) (p + 1, s) with
                | inl y =>
                  rw [hf] at hr
                  obtain ⟨s', g1, g2, rfl⟩ := hr
                  change ER _ _ _ _ [] (Wd X (RZ Z 1 e y true s')) _
                  refine er_loc (pc' := 128) rfl rfl rfl ?_
                  refine er_cIn (pc' := 131) (rest := []) 9 rfl rfl rfl rfl rfl rfl (l_close _ _ _ he50 g2) ?_
                  rw [show clo (X 20) e y true = (y, true) from rfl]
                  refine er_goto rfl ?_
                  refine er_vret rfl rfl ?_
                  exact PQ_inl (by rw [hq, hf]) g1 g2
                | inr s' =>
                  rw [hf] at hr
                  obtain ⟨g1, g2, rfl⟩ := hr
                  change ER _ _ _ _ [] (Wd X (RZ Z 1 e s'.1 false s'.2)) _
                  refine er_loc (pc' := 128) rfl rfl rfl ?_
                  refine er_cIn (pc' := 131) (rest := []) 9 rfl rfl rfl rfl rfl rfl (l_close _ _ _ he50 g1) ?_
                  by_cases hc : pk (X 20) e s'.1 = nI 41
                  · rw [show clo (X 20) e s'.1 false = (s'.1 + 1, false) from if_pos hc]
                    refine er_goto rfl ?_
                    refine er_vret rfl rfl ?_
                    exact PQ_inr (by rw [hq, hf]; exact if_pos hc) (pkq_lt hc (by decide +kernel)) g2
                  rw [show clo (X 20) e s'.1 false = (s'.1, true) from if_neg hc]
                  refine er_goto rfl ?_
                  refine er_vret rfl rfl ?_
                  exact PQ_inl (by rw [hq, hf]; exact if_neg hc) g2 g1
          · have ho5 : op < 5 := (nI_ltI (by omega) (by omega)).mp h69
            have hq : qP (X 20) e 1 f op (p, s) = (match f 5 (op + 1) (p + 1, s) with
              | .inl x => .inl x
              | .inr s' => .inr (s'.1, wrC s'.2 (-33))) := by
              unfold qP
              rw [if_neg n27, if_neg (fun c => c n38), if_pos ⟨h64, ho5⟩]
            refine er_loc (pc' := 73) rfl rfl rfl ?_
            refine er_pure (pc' := 74) rfl rfl rfl ?_
            refine er_gf (pc' := 77) (.int (nI p)) rfl rfl rfl rfl rfl ?_
            refine er_k (pc' := 78) (nI 1) rfl rfl rfl ?_
            refine er_iadd (pc' := 79) rfl rfl ?_
            rw [nI_add]
            refine er_pfIZ (pc' := 82) 3 rfl rfl rfl rfl rfl rfl ?_
            rw [RZ_p]
            refine er_loc (pc' := 83) rfl rfl rfl ?_
            refine er_loc (pc' := 84) rfl rfl rfl ?_
            refine er_k (pc' := 85) (nI 1) rfl rfl rfl ?_
            refine er_iadd (pc' := 86) rfl rfl ?_
            rw [nI_add]
            refine er_cS (pc' := 89) (rest := []) rfl rfl rfl (H5 ho5 (p + 1) s hp1 hs) (fun r hr => ?_)
            cases hf : f 5 (op + 1) (p + 1, s) with
            | inl y =>
              rw [hf] at hr
              obtain ⟨s', g1, g2, rfl⟩ := hr
              change ER _ _ _ _ [] (Wd X (RZ Z 1 e y true s')) _
              refine er_loc (pc' := 90) rfl rfl rfl ?_
              refine er_k (pc' := 92) (-33) rfl rfl rfl ?_
              refine er_cIn (pc' := 95) (rest := []) 9 rfl rfl rfl rfl rfl rfl (l_write _ _ _ g1 _) ?_
              refine er_goto rfl ?_
              refine er_vret rfl rfl ?_
              exact PQ_inl (by rw [hq, hf]) (wrC_le g1) g2
            | inr s' =>
              rw [hf] at hr
              obtain ⟨g1, g2, rfl⟩ := hr
              change ER _ _ _ _ [] (Wd X (RZ Z 1 e s'.1 false s'.2)) _
              refine er_loc (pc' := 90) rfl rfl rfl ?_
              refine er_k (pc' := 92) (-33) rfl rfl rfl ?_
              refine er_cIn (pc' := 95) (rest := []) 9 rfl rfl rfl rfl rfl rfl (l_write _ _ _ g2 _) ?_
              refine er_goto rfl ?_
              refine er_vret rfl rfl ?_
              exact PQ_inr (by rw [hq, hf]) g1 (wrC_le g2)
      · have n38 : ¬ nmQ 1 (pk (X 20) e p) < 0 := h38
        have hp1 : p + 1 ≤ e := (pk_isN ht (fun c => n38 (by rw [show nmQ 1 (pk (X 20) e p) = -1 from if_pos c]; decide +kernel))).2
        have hq : qP (X 20) e 1 f op (p, s) = .inr (p + 1, wrC s (-1 - nmQ 1 (pk (X 20) e p))) := by
          unfold qP
          rw [if_neg n27, if_pos n38]
        refine er_loc (pc' := 42) rfl rfl rfl ?_
        refine er_pure (pc' := 43) rfl rfl rfl ?_
        refine er_gf (pc' := 46) (.int (nI p)) rfl rfl rfl rfl rfl ?_
        refine er_k (pc' := 47) (nI 1) rfl rfl rfl ?_
        refine er_iadd (pc' := 48) rfl rfl ?_
        rw [nI_add]
        refine er_pfIZ (pc' := 51) 3 rfl rfl rfl rfl rfl rfl ?_
        rw [RZ_p]
        refine er_loc (pc' := 52) rfl rfl rfl ?_
        refine er_k (pc' := 53) (-1) rfl rfl rfl ?_
        refine er_loc (pc' := 54) rfl rfl rfl ?_
        refine er_isub (pc' := 55) rfl rfl ?_
        refine er_cIn (pc' := 58) (rest := []) 9 rfl rfl rfl rfl rfl rfl (l_write _ _ _ hs _) ?_
        refine er_goto rfl ?_
        refine er_vret rfl rfl ?_
        exact PQ_inr hq hp1 (wrC_le hs)
    · have hq : qP (X 20) e 1 f op (p, s) = .inr ((pNum (X 20) e 4 p (nI 0)).1, wrC s (pNum (X 20) e 4 p (nI 0)).2) := if_pos h27
      refine er_loc (pc' := 31) rfl rfl rfl ?_
      refine er_cIn (pc' := 34) (rest := []) 9 rfl rfl rfl rfl rfl rfl (l_readNumber _ _ _ he50 hs hpe) ?_
      refine er_goto rfl ?_
      refine er_vret rfl rfl ?_
      exact PQ_inr hq (pNum_le _ _ _ hpe) (wrC_le hs)
set_option maxRecDepth 100000 in
set_option maxHeartbeats 4000000 in
theorem l_qq1 (X Z : Nat → Nat → Int32) {e : Nat} (ht : ∀ k, isN (X 20 k) 255) (he50 : e ≤ 50) : ∀ (F D : Nat), 2 * F + 6 ≤ D →
    (∀ (op p : Nat) (s : Nat × (Nat → Int32)), op ≤ 5 → (5 - op) * 6 + 1 ≤ F → p ≤ e → s.1 ≤ 50 → EC D 63 [.ref 48, .int (nI op)] (Wd X (RZ Z 1 e p false s)) (PQ X Z 1 e (qq (X 20) e 1 F 5 op (p, s)))) ∧
    (∀ (rk op p : Nat) (s : Nat × (Nat → Int32)), rk ≤ 5 → op ≤ 5 → (5 - op) * 6 + (5 - rk) + 1 ≤ F → p ≤ e → s.1 ≤ 50 → EC (D + 1) 62 [.ref 48, .int (nI rk), .int (nI op)] (Wd X (RZ Z 1 e p false s)) (PQ X Z 1 e (qq (X 20) e 1 F rk op (p, s))))
  | 0, D, _ => ⟨fun op p s _ h => by omega, fun rk op p s _ _ h => by omega⟩
  | F + 1, D, hD => by
    obtain ⟨D, rfl⟩ : ∃ D', D = D' + 6 := ⟨D - 6, by omega⟩
    have ih := l_qq1 X Z ht he50 F (D + 4) (by omega)
    have ih5 := l_qq1 X Z ht he50 F (D + 5) (by omega)
    have hp : ∀ (op p : Nat) (s : Nat × (Nat → Int32)), op ≤ 5 → (5 - op) * 6 + 1 ≤ F + 1 → p ≤ e → s.1 ≤ 50 → EC (D + 6) 63 [.ref 48, .int (nI op)] (Wd X (RZ Z 1 e p false s)) (PQ X Z 1 e (qq (X 20) e 1 (F + 1) 5 op (p, s))) := by
      intro op p s hop hF hpe hs
      rw [qq_P]
      exact l_q_part1 (D + 1) X Z ht hop he50 hpe hs (fun ho p s h1 h2 => ih.2 0 (op + 1) p s (by omega) (by omega) (by omega) h1 h2) (fun ho p s h1 h2 => ih5.1 (op + 1) p s (by omega) (by omega) h1 h2)
    refine ⟨hp, ?_⟩
    intro rk op p s hrk hop hF hpe hs
    rcases Nat.lt_or_ge rk 5 with c | c
    · rw [qq_R c]
      exact l_q_rank (D + 4) X Z c he50 hpe hs (fun p s h1 h2 => ih5.2 (rk + 1) op p s (by omega) hop (by omega) h1 h2)
    · have c5 : rk = 5 := by omega
      subst c5
      exact l_q_rank5 (D + 6) X Z (hp op p s hop (by omega) hpe hs)
end
section
/-! READING a text: the whole, and the method -/
def PRd (X Z : Nat → Nat → Int32) (u e : Nat) (t : PT) : ab_R → Prop := fun r => match t with
  | .inl f => ∃ s' : Nat × (Nat → Int32), f ≤ e ∧ r = (some (.int (nI f)), Wd X (RZ Z u e f true s'))
  | .inr s => s.1 ≤ e ∧ s.2.1 ≤ 50 ∧ r = (some (.int (if s.1 < e then nI s.1 else -1)), Wd X (RZ Z u e s.1 false s.2))
theorem PRd_inl {X Z : Nat → Nat → Int32} {u e f : Nat} {t : PT} {s' : Nat × (Nat → Int32)} (ht : t = .inl f) (h2 : f ≤ e) : PRd X Z u e t (some (.int (nI f)), Wd X (RZ Z u e f true s')) := by
  subst ht
  exact ⟨s', h2, rfl⟩
theorem PRd_inr {X Z : Nat → Nat → Int32} {u e p : Nat} {t : PT} {v : Int32} {s : PS} (ht : t = .inr s) (h1 : s.1 ≤ e) (h2 : s.2.1 ≤ 50) (hv : v = if s.1 < e then nI s.1 else -1) : PRd X Z u e t (some (.int v), Wd X (RZ Z u e s.1 false s.2)) := by
  subst ht
  subst hv
  exact ⟨h1, h2, rfl⟩
def z48 (Z : Nat → Nat → Int32) (a b c p q w : Int32) : Nat → Nat → Int32 := uc Z 48 (fun k => match k with
  | 0 => a
  | 1 => b
  | 2 => c
  | 3 => p
  | 4 => q
  | 6 => w
  | _ => 0)
theorem z48_end {Z : Nat → Nat → Int32} {u e : Nat} : z48 Z (nI 20) (nI e) (nI (1000101 + u)) (nI 0) (nI 0) (nI 0) = RZ Z u e 0 false (0, Z 50) := by
  unfold RZ z48
  rw [uc_comm (show 48 ≠ 50 by omega), uc_id]
  refine congrArg (uc Z 48) (funext fun k => ?_)
  match k with
  | 0 => rfl
  | 1 => rfl
  | 2 => rfl
  | 3 => rfl
  | 4 => rfl
  | 5 => rfl
  | 6 => rfl
  | k + 7 => rfl
theorem z48_uc {Z : Nat → Nat → Int32} {a b c p q w : Int32} {g : Nat → Int32} : uc (z48 Z a b c p q w) 48 g = uc Z 48 g := uc_uc _ _ _ _
set_option maxRecDepth 100000 in
set_option maxHeartbeats 4000000 in
theorem l_read0 (d : Nat) (X Z : Nat → Nat → Int32) {e : Nat} (ht : ∀ k, isN (X 20 k) 255) (he50 : e ≤ 50) : EC (d + 80) 61 [.ref 48, .ref 20, .int (nI e), .ref 1000101] (Wd X Z) (PRd X Z 0 e (qq (X 20) e 0 36 0 0 (0, (0, Z 50)))) := by
  refine er_enter (L := [(0, _), (1, _), (2, _), (3, _)]) rfl rfl rfl ?_
  refine er_loc (pc' := 1) rfl rfl rfl ?_
  refine er_loc (pc' := 2) rfl rfl rfl ?_
  refine er_pfZ (pc' := 5) (fun k => match k with | 0 => nI 20 | 1 => Z 48 1 | 2 => Z 48 2 | 3 => Z 48 3 | 4 => Z 48 4 | 6 => Z 48 6 | _ => 0) rfl rfl rfl rfl rfl rfl ?_
  change ER _ _ _ _ _ (Wd X (z48 Z (nI 20) (Z 48 1) (Z 48 2) (Z 48 3) (Z 48 4) (Z 48 6))) _
  refine er_loc (pc' := 6) rfl rfl rfl ?_
  refine er_loc (pc' := 7) rfl rfl rfl ?_
  refine er_loc (pc' := 8) rfl rfl rfl ?_
  refine er_al (pc' := 9) rfl rfl rfl rfl ?_
  refine er_min (pc' := 12) rfl rfl rfl rfl ?_
  rw [if_neg (nI_nlt (by omega) (by omega))]
  refine er_pfZ (pc' := 15) (fun k => match k with | 0 => nI 20 | 1 => nI e | 2 => Z 48 2 | 3 => Z 48 3 | 4 => Z 48 4 | 6 => Z 48 6 | _ => 0) rfl rfl rfl rfl rfl rfl ?_
  rw [z48_uc]
  change ER _ _ _ _ _ (Wd X (z48 Z (nI 20) (nI e) (Z 48 2) (Z 48 3) (Z 48 4) (Z 48 6))) _
  refine er_loc (pc' := 16) rfl rfl rfl ?_
  refine er_loc (pc' := 17) rfl rfl rfl ?_
  refine er_pfZ (pc' := 20) (fun k => match k with | 0 => nI 20 | 1 => nI e | 2 => nI 1000101 | 3 => Z 48 3 | 4 => Z 48 4 | 6 => Z 48 6 | _ => 0) rfl rfl rfl rfl rfl rfl ?_
  rw [z48_uc]
  change ER _ _ _ _ _ (Wd X (z48 Z (nI 20) (nI e) (nI 1000101) (Z 48 3) (Z 48 4) (Z 48 6))) _
  refine er_loc (pc' := 21) rfl rfl rfl ?_
  refine er_k (pc' := 22) (nI 0) rfl rfl rfl ?_
  refine er_pfZ (pc' := 25) (fun k => match k with | 0 => nI 20 | 1 => nI e | 2 => nI 1000101 | 3 => nI 0 | 4 => Z 48 4 | 6 => Z 48 6 | _ => 0) rfl rfl rfl rfl rfl rfl ?_
  rw [z48_uc]
  change ER _ _ _ _ _ (Wd X (z48 Z (nI 20) (nI e) (nI 1000101) (nI 0) (Z 48 4) (Z 48 6))) _
  refine er_loc (pc' := 26) rfl rfl rfl ?_
  refine er_k (pc' := 27) (nI 0) rfl rfl rfl ?_
  refine er_pfZ (pc' := 30) (fun k => match k with | 0 => nI 20 | 1 => nI e | 2 => nI 1000101 | 3 => nI 0 | 4 => nI 0 | 6 => Z 48 6 | _ => 0) rfl rfl rfl rfl rfl rfl ?_
  rw [z48_uc]
  change ER _ _ _ _ _ (Wd X (z48 Z (nI 20) (nI e) (nI 1000101) (nI 0) (nI 0) (Z 48 6))) _
  refine er_loc (pc' := 31) rfl rfl rfl ?_
  refine er_k (pc' := 32) (nI 0) rfl rfl rfl ?_
  refine er_pfZ (pc' := 35) (fun k => match k with | 0 => nI 20 | 1 => nI e | 2 => nI 1000101 | 3 => nI 0 | 4 => nI 0 | 6 => nI 0 | _ => 0) rfl rfl rfl rfl rfl rfl ?_
  rw [z48_uc]
  change ER _ _ _ _ _ (Wd X (z48 Z (nI 20) (nI e) (nI 1000101) (nI 0) (nI 0) (nI 0))) _
  rw [show nI 1000101 = nI (1000101 + 0) from rfl, z48_end]
  refine er_loc (pc' := 36) rfl rfl rfl ?_
  refine er_k (pc' := 37) (nI 0) rfl rfl rfl ?_
  refine er_k (pc' := 38) (nI 0) rfl rfl rfl ?_
  refine er_cS (pc' := 41) (rest := []) rfl rfl rfl ((l_qq0 X Z ht he50 36 (d + 78) (by omega)).2 0 0 0 (0, Z 50) (by omega) (by omega) (by omega) (by omega) (by omega)) (fun r hr => ?_)
  cases hf : qq (X 20) e 0 36 0 0 (0, (0, Z 50)) with
  | inl y =>
    rw [hf] at hr
    obtain ⟨s', g1, g2, rfl⟩ := hr
    change ER _ _ _ _ [] (Wd X (RZ Z 0 e y true s')) _
    refine er_loc (pc' := 42) rfl rfl rfl ?_
    refine er_gf (pc' := 45) (.int (nI 1)) rfl rfl rfl rfl rfl ?_
    refine er_if_neT rfl (by decide +kernel) ?_
    refine er_loc (pc' := 60) rfl rfl rfl ?_
    refine er_gf (pc' := 63) (.int (nI y)) rfl rfl rfl rfl rfl ?_
    refine er_goto rfl ?_
    refine er_iret rfl rfl ?_
    exact PRd_inl rfl g2
  | inr s' =>
    rw [hf] at hr
    obtain ⟨g1, g2, rfl⟩ := hr
    change ER _ _ _ _ [] (Wd X (RZ Z 0 e s'.1 false s'.2)) _
    refine er_loc (pc' := 42) rfl rfl rfl ?_
    refine er_gf (pc' := 45) (.int (nI 0)) rfl rfl rfl rfl rfl ?_
    refine er_if_neF (pc' := 48) rfl (by decide +kernel) rfl ?_
    refine er_loc (pc' := 49) rfl rfl rfl ?_
    refine er_gf (pc' := 52) (.int (nI s'.1)) rfl rfl rfl rfl rfl ?_
    refine er_loc (pc' := 53) rfl rfl rfl ?_
    refine er_gf (pc' := 56) (.int (nI e)) rfl rfl rfl rfl rfl ?_
    refine er_cm_ge (pc' := 59) rfl rfl (fun h56 => ?_) (fun h56 => ?_)
    · have hlt : ¬ s'.1 < e := fun c => h56 (nI_lt c (by omega))
      refine er_k (pc' := 67) (-1) rfl rfl rfl ?_
      refine er_iret rfl rfl ?_
      exact PRd_inr (p := 0) rfl g1 g2 (by first | rw [if_pos hlt] | rw [if_neg hlt])
    · have hlt : s'.1 < e := (nI_ltI (by omega) (by omega)).mp h56
      refine er_loc (pc' := 60) rfl rfl rfl ?_
      refine er_gf (pc' := 63) (.int (nI s'.1)) rfl rfl rfl rfl rfl ?_
      refine er_goto rfl ?_
      refine er_iret rfl rfl ?_
      exact PRd_inr (p := 0) rfl g1 g2 (by first | rw [if_pos hlt] | rw [if_neg hlt])
set_option maxRecDepth 100000 in
set_option maxHeartbeats 4000000 in
theorem l_read1 (d : Nat) (X Z : Nat → Nat → Int32) {e : Nat} (ht : ∀ k, isN (X 20 k) 255) (he50 : e ≤ 50) : EC (d + 80) 61 [.ref 48, .ref 20, .int (nI e), .ref 1000102] (Wd X Z) (PRd X Z 1 e (qq (X 20) e 1 36 0 0 (0, (0, Z 50)))) := by
  refine er_enter (L := [(0, _), (1, _), (2, _), (3, _)]) rfl rfl rfl ?_
  refine er_loc (pc' := 1) rfl rfl rfl ?_
  refine er_loc (pc' := 2) rfl rfl rfl ?_
  refine er_pfZ (pc' := 5) (fun k => match k with | 0 => nI 20 | 1 => Z 48 1 | 2 => Z 48 2 | 3 => Z 48 3 | 4 => Z 48 4 | 6 => Z 48 6 | _ => 0) rfl rfl rfl rfl rfl rfl ?_
  change ER _ _ _ _ _ (Wd X (z48 Z (nI 20) (Z 48 1) (Z 48 2) (Z 48 3) (Z 48 4) (Z 48 6))) _
  refine er_loc (pc' := 6) rfl rfl rfl ?_
  refine er_loc (pc' := 7) rfl rfl rfl ?_
  refine er_loc (pc' := 8) rfl rfl rfl ?_
  refine er_al (pc' := 9) rfl rfl rfl rfl ?_
  refine er_min (pc' := 12) rfl rfl rfl rfl ?_
  rw [if_neg (nI_nlt (by omega) (by omega))]
  refine er_pfZ (pc' := 15) (fun k => match k with | 0 => nI 20 | 1 => nI e | 2 => Z 48 2 | 3 => Z 48 3 | 4 => Z 48 4 | 6 => Z 48 6 | _ => 0) rfl rfl rfl rfl rfl rfl ?_
  rw [z48_uc]
  change ER _ _ _ _ _ (Wd X (z48 Z (nI 20) (nI e) (Z 48 2) (Z 48 3) (Z 48 4) (Z 48 6))) _
  refine er_loc (pc' := 16) rfl rfl rfl ?_
  refine er_loc (pc' := 17) rfl rfl rfl ?_
  refine er_pfZ (pc' := 20) (fun k => match k with | 0 => nI 20 | 1 => nI e | 2 => nI 1000102 | 3 => Z 48 3 | 4 => Z 48 4 | 6 => Z 48 6 | _ => 0) rfl rfl rfl rfl rfl rfl ?_
  rw [z48_uc]
  change ER _ _ _ _ _ (Wd X (z48 Z (nI 20) (nI e) (nI 1000102) (Z 48 3) (Z 48 4) (Z 48 6))) _
  refine er_loc (pc' := 21) rfl rfl rfl ?_
  refine er_k (pc' := 22) (nI 0) rfl rfl rfl ?_
  refine er_pfZ (pc' := 25) (fun k => match k with | 0 => nI 20 | 1 => nI e | 2 => nI 1000102 | 3 => nI 0 | 4 => Z 48 4 | 6 => Z 48 6 | _ => 0) rfl rfl rfl rfl rfl rfl ?_
  rw [z48_uc]
  change ER _ _ _ _ _ (Wd X (z48 Z (nI 20) (nI e) (nI 1000102) (nI 0) (Z 48 4) (Z 48 6))) _
  refine er_loc (pc' := 26) rfl rfl rfl ?_
  refine er_k (pc' := 27) (nI 0) rfl rfl rfl ?_
  refine er_pfZ (pc' := 30) (fun k => match k with | 0 => nI 20 | 1 => nI e | 2 => nI 1000102 | 3 => nI 0 | 4 => nI 0 | 6 => Z 48 6 | _ => 0) rfl rfl rfl rfl rfl rfl ?_
  rw [z48_uc]
  change ER _ _ _ _ _ (Wd X (z48 Z (nI 20) (nI e) (nI 1000102) (nI 0) (nI 0) (Z 48 6))) _
  refine er_loc (pc' := 31) rfl rfl rfl ?_
  refine er_k (pc' := 32) (nI 0) rfl rfl rfl ?_
  refine er_pfZ (pc' := 35) (fun k => match k with | 0 => nI 20 | 1 => nI e | 2 => nI 1000102 | 3 => nI 0 | 4 => nI 0 | 6 => nI 0 | _ => 0) rfl rfl rfl rfl rfl rfl ?_
  rw [z48_uc]
  change ER _ _ _ _ _ (Wd X (z48 Z (nI 20) (nI e) (nI 1000102) (nI 0) (nI 0) (nI 0))) _
  rw [show nI 1000102 = nI (1000101 + 1) from rfl, z48_end]
  refine er_loc (pc' := 36) rfl rfl rfl ?_
  refine er_k (pc' := 37) (nI 0) rfl rfl rfl ?_
  refine er_k (pc' := 38) (nI 0) rfl rfl rfl ?_
  refine er_cS (pc' := 41) (rest := []) rfl rfl rfl ((l_qq1 X Z ht he50 36 (d + 78) (by omega)).2 0 0 0 (0, Z 50) (by omega) (by omega) (by omega) (by omega) (by omega)) (fun r hr => ?_)
  cases hf : qq (X 20) e 1 36 0 0 (0, (0, Z 50)) with
  | inl y =>
    rw [hf] at hr
    obtain ⟨s', g1, g2, rfl⟩ := hr
    change ER _ _ _ _ [] (Wd X (RZ Z 1 e y true s')) _
    refine er_loc (pc' := 42) rfl rfl rfl ?_
    refine er_gf (pc' := 45) (.int (nI 1)) rfl rfl rfl rfl rfl ?_
    refine er_if_neT rfl (by decide +kernel) ?_
    refine er_loc (pc' := 60) rfl rfl rfl ?_
    refine er_gf (pc' := 63) (.int (nI y)) rfl rfl rfl rfl rfl ?_
    refine er_goto rfl ?_
    refine er_iret rfl rfl ?_
    exact PRd_inl rfl g2
  | inr s' =>
    rw [hf] at hr
    obtain ⟨g1, g2, rfl⟩ := hr
    change ER _ _ _ _ [] (Wd X (RZ Z 1 e s'.1 false s'.2)) _
    refine er_loc (pc' := 42) rfl rfl rfl ?_
    refine er_gf (pc' := 45) (.int (nI 0)) rfl rfl rfl rfl rfl ?_
    refine er_if_neF (pc' := 48) rfl (by decide +kernel) rfl ?_
    refine er_loc (pc' := 49) rfl rfl rfl ?_
    refine er_gf (pc' := 52) (.int (nI s'.1)) rfl rfl rfl rfl rfl ?_
    refine er_loc (pc' := 53) rfl rfl rfl ?_
    refine er_gf (pc' := 56) (.int (nI e)) rfl rfl rfl rfl rfl ?_
    refine er_cm_ge (pc' := 59) rfl rfl (fun h56 => ?_) (fun h56 => ?_)
    · have hlt : ¬ s'.1 < e := fun c => h56 (nI_lt c (by omega))
      refine er_k (pc' := 67) (-1) rfl rfl rfl ?_
      refine er_iret rfl rfl ?_
      exact PRd_inr (p := 0) rfl g1 g2 (by first | rw [if_pos hlt] | rw [if_neg hlt])
    · have hlt : s'.1 < e := (nI_ltI (by omega) (by omega)).mp h56
      refine er_loc (pc' := 60) rfl rfl rfl ?_
      refine er_gf (pc' := 63) (.int (nI s'.1)) rfl rfl rfl rfl rfl ?_
      refine er_goto rfl ?_
      refine er_iret rfl rfl ?_
      exact PRd_inr (p := 0) rfl g1 g2 (by first | rw [if_pos hlt] | rw [if_neg hlt])
end
section
/-! READING a text: the method, and that what lay on the code before does not matter -/
def AG (s s' : Nat × (Nat → Int32)) : Prop := s.1 = s'.1 ∧ ∀ k, k < s.1 → s.2 k = s'.2 k
theorem AG_wr {s s' : Nat × (Nat → Int32)} {g : Int32} (h : AG s s') : AG (wrC s g) (wrC s' g) := by
  obtain ⟨h1, h2⟩ := h
  unfold wrC
  by_cases c : s.1 < 50
  · rw [if_pos c, if_pos (by omega)]
    refine ⟨by show s.1 + 1 = s'.1 + 1; omega, fun k hk => ?_⟩
    show u1 s.2 s.1 g k = u1 s'.2 s'.1 g k
    rw [← h1]
    unfold u1
    split
    · rfl
    · rename_i hne
      refine h2 k ?_
      have hk2 : k < s.1 + 1 := hk
      omega
  · rw [if_neg c, if_neg (by omega)]
    exact ⟨h1, h2⟩
def AGT (t t' : PT) : Prop := match t, t' with
  | .inl a, .inl b => a = b
  | .inr s, .inr s' => s.1 = s'.1 ∧ AG s.2 s'.2
  | _, _ => False
theorem AG_qL {f : PS → PT} {tp : Nat → Int32} {e rk : Nat} (H : ∀ p s s', AG s s' → AGT (f (p, s)) (f (p, s'))) : ∀ (m p : Nat) (s s' : Nat × (Nat → Int32)), AG s s' → AGT (qL f tp e rk m (p, s)) (qL f tp e rk m (p, s'))
  | 0, p, s, s', h => ⟨rfl, h⟩
  | m + 1, p, s, s', h => by
    by_cases c : jn2 rk (pk tp e p) = true
    · have hh := H (p + 1) s s' h
      cases h1 : f (p + 1, s) with
      | inl a =>
        cases h2 : f (p + 1, s') with
        | inl b => rw [h1, h2] at hh; rw [qL_inl c h1, qL_inl c h2]; exact hh
        | inr b => rw [h1, h2] at hh; exact False.elim hh
      | inr a =>
        cases h2 : f (p + 1, s') with
        | inl b => rw [h1, h2] at hh; exact False.elim hh
        | inr b =>
          rw [h1, h2] at hh
          obtain ⟨e1, e2⟩ := hh
          rw [qL_inr c h1, qL_inr c h2, e1]
          exact AG_qL H m _ _ _ (AG_wr e2)
    · rw [qL_no c, qL_no c]
      exact ⟨rfl, h⟩
theorem AG_qR {f : Nat → Nat → PS → PT} {tp : Nat → Int32} {e rk op : Nat} (H : ∀ rk op p s s', AG s s' → AGT (f rk op (p, s)) (f rk op (p, s'))) (p : Nat) (s s' : Nat × (Nat → Int32)) (h : AG s s') : AGT (qR tp e f rk op (p, s)) (qR tp e f rk op (p, s')) := by
  have hh := H (rk + 1) op p s s' h
  unfold qR
  cases h1 : f (rk + 1) op (p, s) with
  | inl a =>
    cases h2 : f (rk + 1) op (p, s') with
    | inl b => rw [h1, h2] at hh; exact hh
    | inr b => rw [h1, h2] at hh; exact False.elim hh
  | inr a =>
    cases h2 : f (rk + 1) op (p, s') with
    | inl b => rw [h1, h2] at hh; exact False.elim hh
    | inr b =>
      rw [h1, h2] at hh
      obtain ⟨e1, e2⟩ := hh
      obtain ⟨a1, a2⟩ := a
      obtain ⟨b1, b2⟩ := b
      have e3 : a1 = b1 := e1
      subst e3
      exact AG_qL (fun p s s' h => H (rk + 1) op p s s' h) _ _ _ _ e2
theorem AG_qP {f : Nat → Nat → PS → PT} {tp : Nat → Int32} {e u op : Nat} (H : ∀ rk op p s s', AG s s' → AGT (f rk op (p, s)) (f rk op (p, s'))) (p : Nat) (s s' : Nat × (Nat → Int32)) (h : AG s s') : AGT (qP tp e u f op (p, s)) (qP tp e u f op (p, s')) := by
  unfold qP
  by_cases c1 : dg (pk tp e p) = true
  · rw [if_pos c1, if_pos c1]
    exact ⟨rfl, AG_wr h⟩
  rw [if_neg c1, if_neg c1]
  by_cases c2 : ¬ nmQ u (pk tp e p) < 0
  · rw [if_pos c2, if_pos c2]
    exact ⟨rfl, AG_wr h⟩
  rw [if_neg c2, if_neg c2]
  by_cases c3 : pk tp e p = nI 33 ∧ op < 5
  · rw [if_pos c3, if_pos c3]
    have hh := H 5 (op + 1) (p + 1) s s' h
    cases h1 : f 5 (op + 1) (p + 1, s) with
    | inl a =>
      cases h2 : f 5 (op + 1) (p + 1, s') with
      | inl b => rw [h1, h2] at hh; exact hh
      | inr b => rw [h1, h2] at hh; exact False.elim hh
    | inr a =>
      cases h2 : f 5 (op + 1) (p + 1, s') with
      | inl b => rw [h1, h2] at hh; exact False.elim hh
      | inr b =>
        rw [h1, h2] at hh
        exact ⟨hh.1, AG_wr hh.2⟩
  rw [if_neg c3, if_neg c3]
  by_cases c4 : pk tp e p = nI 40 ∧ op < 5
  · rw [if_pos c4, if_pos c4]
    have hh := H 0 (op + 1) (p + 1) s s' h
    cases h1 : f 0 (op + 1) (p + 1, s) with
    | inl a =>
      cases h2 : f 0 (op + 1) (p + 1, s') with
      | inl b => rw [h1, h2] at hh; exact hh
      | inr b => rw [h1, h2] at hh; exact False.elim hh
    | inr a =>
      cases h2 : f 0 (op + 1) (p + 1, s') with
      | inl b => rw [h1, h2] at hh; exact False.elim hh
      | inr b =>
        rw [h1, h2] at hh
        obtain ⟨e1, e2⟩ := hh
        show AGT (if pk tp e a.1 = nI 41 then _ else _) (if pk tp e b.1 = nI 41 then _ else _)
        rw [e1]
        by_cases c5 : pk tp e b.1 = nI 41
        · rw [if_pos c5, if_pos c5]
          exact ⟨rfl, e2⟩
        · rw [if_neg c5, if_neg c5]
          rfl
  rw [if_neg c4, if_neg c4]
  rfl
theorem AG_qq {tp : Nat → Int32} {e u : Nat} : ∀ (F rk op p : Nat) (s s' : Nat × (Nat → Int32)), AG s s' → AGT (qq tp e u F rk op (p, s)) (qq tp e u F rk op (p, s'))
  | 0, rk, op, p, s, s', h => rfl
  | F + 1, rk, op, p, s, s', h => by
    have ih : ∀ rk op p s s', AG s s' → AGT (qq tp e u F rk op (p, s)) (qq tp e u F rk op (p, s')) := AG_qq F
    by_cases c : rk < 5
    · rw [qq_R c, qq_R c]
      exact AG_qR ih p s s' h
    · have e1 : ∀ s, qq tp e u (F + 1) rk op (p, s) = qP tp e u (qq tp e u F) op (p, s) := by
        intro s
        unfold qq
        rw [itF_succ]
        exact if_neg c
      rw [e1, e1]
      exact AG_qP ih p s s' h
theorem xHold_ag {X : Nat → Nat → Int32} {t : Nat} {s s' : Nat × (Nat → Int32)} (h : AG s s') : xHold X t s.2 s.1 = xHold X t s'.2 s'.1 := by
  obtain ⟨h1, h2⟩ := h
  unfold xHold
  rw [← h1]
  have e : cpf s.2 (X (t + 1)) 0 0 s.1 = cpf s'.2 (X (t + 1)) 0 0 s.1 := by
    funext i
    unfold cpf
    split
    · rename_i c
      exact h2 _ (by omega)
    · rfl
  rw [e]
def sTx (X : Nat → Nat → Int32) (u f : Nat) : PT := qq (X 20) f u 36 0 0 (0, (0, fun _ => 0))
set_option maxRecDepth 100000 in
set_option maxHeartbeats 4000000 in
theorem l_text_no (d : Nat) (X Z : Nat → Nat → Int32) (u : Int32) (hu : sUse u = false) : EC (d + 3) 88 [.ref 0, .int u] (Wd X Z) (RI (sErr 1) (xErr X 1)) := by
  refine er_enter (L := [(0, _), (1, _)]) rfl rfl rfl ?_
  refine er_loc (pc' := 1) rfl rfl rfl ?_
  refine er_cSi (pc' := 4) (rest := []) rfl rfl rfl (l_isUse _ _ _) ?_
  rw [hu]
  refine er_if_neF (pc' := 7) rfl (by decide +kernel) rfl ?_
  refine er_loc (pc' := 8) rfl rfl rfl ?_
  refine er_k (pc' := 9) (nI 1) rfl rfl rfl ?_
  refine er_cIz (pc' := 12) (rest := []) 11 rfl rfl rfl rfl rfl rfl (l_error _ _ _ 1 (by decide)) ?_
  intro Z9
  refine er_iret rfl rfl ?_
  exact RI_of rfl rfl
set_option maxRecDepth 100000 in
set_option maxHeartbeats 4000000 in
theorem l_text0 (d : Nat) (X Z : Nat → Nat → Int32) {f : Nat} (hf : X 9 14 = nI f) (hf50 : f ≤ 50) (ht : ∀ k, isN (X 20 k) 255) : EC (d + 81) 88 [.ref 0, .int (nI 0)] (Wd X Z) (fun r => match sTx X 0 f with | .inl y => RI (-10 - nI y) (ud X 9 14 (nI 0)) r | .inr s2 => if s2.1 < f then RI (-10 - nI s2.1) (ud X 9 14 (nI 0)) r else RI (nI 1) (xHold (ud X 9 14 (nI 0)) 14 s2.2.2 s2.2.1) r) := by
  refine er_enter (L := [(0, _), (1, _)]) rfl rfl rfl ?_
  refine er_loc (pc' := 1) rfl rfl rfl ?_
  refine er_cSi (pc' := 4) (rest := []) rfl rfl rfl (l_isUse _ _ _) ?_
  rw [show sUse (nI 0) = true from by decide +kernel]
  refine er_if_neT rfl (by decide +kernel) ?_
  refine er_loc (pc' := 14) rfl rfl rfl ?_
  refine er_gf (pc' := 17) (_) rfl rfl rfl rfl rfl ?_
  refine er_loc (pc' := 18) rfl rfl rfl ?_
  refine er_gf (pc' := 21) (_) rfl rfl rfl rfl rfl ?_
  refine er_gf (pc' := 24) (_) rfl rfl rfl rfl rfl ?_
  refine er_loc (pc' := 25) rfl rfl rfl ?_
  refine er_gf (pc' := 28) (_) rfl rfl rfl rfl rfl ?_
  refine er_gf (pc' := 31) (_) rfl rfl rfl rfl rfl ?_
  rw [hf]
  refine er_loc (pc' := 32) rfl rfl rfl ?_
  refine er_if_neF (pc' := 35) rfl (by decide +kernel) rfl ?_
  refine er_ldcR (pc' := 37) 1000101 rfl rfl rfl rfl ?_
  refine er_goto rfl ?_
  refine er_cI (pc' := 45) (rest := []) 9 rfl rfl rfl rfl rfl rfl (l_read0 d X Z (e := f) ht hf50) (fun r hr => ?_)
  have ag : AGT (qq (X 20) f 0 36 0 0 (0, (0, Z 50))) (sTx X 0 f) := AG_qq 36 0 0 0 _ _ ⟨rfl, fun k hk => absurd hk (Nat.not_lt_zero k)⟩
  cases h1 : qq (X 20) f 0 36 0 0 (0, (0, Z 50)) with
  | inl y =>
    rw [h1] at hr ag
    obtain ⟨s', g1, rfl⟩ := hr
    cases h2 : sTx X 0 f with
    | inr y2 => rw [h2] at ag; exact False.elim ag
    | inl y2 =>
      rw [h2] at ag
      have ag2 : y = y2 := ag
      subst ag2
      change ER _ _ _ _ [.int (nI y)] (Wd X (RZ Z 0 f y true s')) _
      refine er_loc (pc' := 46) (L' := [(2, _), (0, _), (1, _)]) rfl rfl rfl ?_
      refine er_loc (pc' := 47) rfl rfl rfl ?_
      refine er_gf (pc' := 50) (_) rfl rfl rfl rfl rfl ?_
      refine er_k (pc' := 51) (nI 0) rfl rfl rfl ?_
      refine er_pfIX (pc' := 54) 14 rfl rfl rfl rfl rfl rfl ?_
      refine er_loc (pc' := 55) rfl rfl rfl ?_
      refine er_if_ltF (pc' := 58) rfl (nI_pos (by omega)) rfl ?_
      refine er_k (pc' := 60) (-10) rfl rfl rfl ?_
      refine er_loc (pc' := 61) rfl rfl rfl ?_
      refine er_isub (pc' := 62) rfl rfl ?_
      refine er_iret rfl rfl ?_
      exact RI_of rfl rfl
  | inr s' =>
    rw [h1] at hr ag
    obtain ⟨g1, g2, rfl⟩ := hr
    cases h2 : sTx X 0 f with
    | inl y2 => rw [h2] at ag; exact False.elim ag
    | inr s2 =>
      rw [h2] at ag
      obtain ⟨a1, a2⟩ := ag
      change ER _ _ _ _ [.int (if s'.1 < f then nI s'.1 else -1)] (Wd X (RZ Z 0 f s'.1 false s'.2)) _
      by_cases hlt : s'.1 < f
      · rw [if_pos hlt]
        refine er_loc (pc' := 46) (L' := [(2, _), (0, _), (1, _)]) rfl rfl rfl ?_
        refine er_loc (pc' := 47) rfl rfl rfl ?_
        refine er_gf (pc' := 50) (_) rfl rfl rfl rfl rfl ?_
        refine er_k (pc' := 51) (nI 0) rfl rfl rfl ?_
        refine er_pfIX (pc' := 54) 14 rfl rfl rfl rfl rfl rfl ?_
        refine er_loc (pc' := 55) rfl rfl rfl ?_
        refine er_if_ltF (pc' := 58) rfl (nI_pos (by omega)) rfl ?_
        refine er_k (pc' := 60) (-10) rfl rfl rfl ?_
        refine er_loc (pc' := 61) rfl rfl rfl ?_
        refine er_isub (pc' := 62) rfl rfl ?_
        refine er_iret rfl rfl ?_
        show (if s2.1 < f then RI (-10 - nI s2.1) (ud X 9 14 (nI 0)) _ else RI (nI 1) (xHold (ud X 9 14 (nI 0)) 14 s2.2.2 s2.2.1) _)
        rw [← a1, if_pos hlt]
        exact RI_of rfl rfl
      · rw [if_neg hlt]
        refine er_loc (pc' := 46) (L' := [(2, _), (0, _), (1, _)]) rfl rfl rfl ?_
        refine er_loc (pc' := 47) rfl rfl rfl ?_
        refine er_gf (pc' := 50) (_) rfl rfl rfl rfl rfl ?_
        refine er_k (pc' := 51) (nI 0) rfl rfl rfl ?_
        refine er_pfIX (pc' := 54) 14 rfl rfl rfl rfl rfl rfl ?_
        refine er_loc (pc' := 55) rfl rfl rfl ?_
        refine er_if_ltT rfl (by decide +kernel) ?_
        refine er_loc (pc' := 64) rfl rfl rfl ?_
        refine er_if_neF (pc' := 67) rfl (by decide +kernel) rfl ?_
        refine er_loc (pc' := 68) rfl rfl rfl ?_
        refine er_gf (pc' := 71) (_) rfl rfl rfl rfl rfl ?_
        refine er_gf (pc' := 74) (_) rfl rfl rfl rfl rfl ?_
        refine er_goto rfl ?_
        refine er_loc (pc' := 85) (L' := [(3, _), (2, _), (0, _), (1, _)]) rfl rfl rfl ?_
        refine er_loc (pc' := 86) rfl rfl rfl ?_
        refine er_loc (pc' := 87) rfl rfl rfl ?_
        refine er_gf (pc' := 90) (_) rfl rfl rfl rfl rfl ?_
        refine er_gf (pc' := 93) (_) rfl rfl rfl rfl rfl ?_
        refine er_loc (pc' := 94) rfl rfl rfl ?_
        refine er_gf (pc' := 97) (_) rfl rfl rfl rfl rfl ?_
        refine er_gf (pc' := 100) (.int (nI s'.2.1)) rfl rfl rfl rfl rfl ?_
        refine er_cIv (pc' := 103) (rest := []) 8 rfl rfl rfl rfl rfl rfl (l_hold _ (t := 14) (by simp [tx]) _ _ 50 s'.2.2 rfl (by rfl) s'.2.1 g2) ?_
        intro Z9
        refine er_k (pc' := 104) (nI 1) rfl rfl rfl ?_
        refine er_iret rfl rfl ?_
        show (if s2.1 < f then RI (-10 - nI s2.1) (ud X 9 14 (nI 0)) _ else RI (nI 1) (xHold (ud X 9 14 (nI 0)) 14 s2.2.2 s2.2.1) _)
        rw [← a1, if_neg hlt]
        exact RI_of rfl (xHold_ag a2)
set_option maxRecDepth 100000 in
set_option maxHeartbeats 4000000 in
theorem l_text1 (d : Nat) (X Z : Nat → Nat → Int32) {f : Nat} (hf : X 9 14 = nI f) (hf50 : f ≤ 50) (ht : ∀ k, isN (X 20 k) 255) : EC (d + 81) 88 [.ref 0, .int (nI 1)] (Wd X Z) (fun r => match sTx X 1 f with | .inl y => RI (-10 - nI y) (ud X 9 14 (nI 0)) r | .inr s2 => if s2.1 < f then RI (-10 - nI s2.1) (ud X 9 14 (nI 0)) r else RI (nI 1) (xHold (ud X 9 14 (nI 0)) 17 s2.2.2 s2.2.1) r) := by
  refine er_enter (L := [(0, _), (1, _)]) rfl rfl rfl ?_
  refine er_loc (pc' := 1) rfl rfl rfl ?_
  refine er_cSi (pc' := 4) (rest := []) rfl rfl rfl (l_isUse _ _ _) ?_
  rw [show sUse (nI 1) = true from by decide +kernel]
  refine er_if_neT rfl (by decide +kernel) ?_
  refine er_loc (pc' := 14) rfl rfl rfl ?_
  refine er_gf (pc' := 17) (_) rfl rfl rfl rfl rfl ?_
  refine er_loc (pc' := 18) rfl rfl rfl ?_
  refine er_gf (pc' := 21) (_) rfl rfl rfl rfl rfl ?_
  refine er_gf (pc' := 24) (_) rfl rfl rfl rfl rfl ?_
  refine er_loc (pc' := 25) rfl rfl rfl ?_
  refine er_gf (pc' := 28) (_) rfl rfl rfl rfl rfl ?_
  refine er_gf (pc' := 31) (_) rfl rfl rfl rfl rfl ?_
  rw [hf]
  refine er_loc (pc' := 32) rfl rfl rfl ?_
  refine er_if_neT rfl (by decide +kernel) ?_
  refine er_ldcR (pc' := 42) 1000102 rfl rfl rfl rfl ?_
  refine er_cI (pc' := 45) (rest := []) 9 rfl rfl rfl rfl rfl rfl (l_read1 d X Z (e := f) ht hf50) (fun r hr => ?_)
  have ag : AGT (qq (X 20) f 1 36 0 0 (0, (0, Z 50))) (sTx X 1 f) := AG_qq 36 0 0 0 _ _ ⟨rfl, fun k hk => absurd hk (Nat.not_lt_zero k)⟩
  cases h1 : qq (X 20) f 1 36 0 0 (0, (0, Z 50)) with
  | inl y =>
    rw [h1] at hr ag
    obtain ⟨s', g1, rfl⟩ := hr
    cases h2 : sTx X 1 f with
    | inr y2 => rw [h2] at ag; exact False.elim ag
    | inl y2 =>
      rw [h2] at ag
      have ag2 : y = y2 := ag
      subst ag2
      change ER _ _ _ _ [.int (nI y)] (Wd X (RZ Z 1 f y true s')) _
      refine er_loc (pc' := 46) (L' := [(2, _), (0, _), (1, _)]) rfl rfl rfl ?_
      refine er_loc (pc' := 47) rfl rfl rfl ?_
      refine er_gf (pc' := 50) (_) rfl rfl rfl rfl rfl ?_
      refine er_k (pc' := 51) (nI 0) rfl rfl rfl ?_
      refine er_pfIX (pc' := 54) 14 rfl rfl rfl rfl rfl rfl ?_
      refine er_loc (pc' := 55) rfl rfl rfl ?_
      refine er_if_ltF (pc' := 58) rfl (nI_pos (by omega)) rfl ?_
      refine er_k (pc' := 60) (-10) rfl rfl rfl ?_
      refine er_loc (pc' := 61) rfl rfl rfl ?_
      refine er_isub (pc' := 62) rfl rfl ?_
      refine er_iret rfl rfl ?_
      exact RI_of rfl rfl
  | inr s' =>
    rw [h1] at hr ag
    obtain ⟨g1, g2, rfl⟩ := hr
    cases h2 : sTx X 1 f with
    | inl y2 => rw [h2] at ag; exact False.elim ag
    | inr s2 =>
      rw [h2] at ag
      obtain ⟨a1, a2⟩ := ag
      change ER _ _ _ _ [.int (if s'.1 < f then nI s'.1 else -1)] (Wd X (RZ Z 1 f s'.1 false s'.2)) _
      by_cases hlt : s'.1 < f
      · rw [if_pos hlt]
        refine er_loc (pc' := 46) (L' := [(2, _), (0, _), (1, _)]) rfl rfl rfl ?_
        refine er_loc (pc' := 47) rfl rfl rfl ?_
        refine er_gf (pc' := 50) (_) rfl rfl rfl rfl rfl ?_
        refine er_k (pc' := 51) (nI 0) rfl rfl rfl ?_
        refine er_pfIX (pc' := 54) 14 rfl rfl rfl rfl rfl rfl ?_
        refine er_loc (pc' := 55) rfl rfl rfl ?_
        refine er_if_ltF (pc' := 58) rfl (nI_pos (by omega)) rfl ?_
        refine er_k (pc' := 60) (-10) rfl rfl rfl ?_
        refine er_loc (pc' := 61) rfl rfl rfl ?_
        refine er_isub (pc' := 62) rfl rfl ?_
        refine er_iret rfl rfl ?_
        show (if s2.1 < f then RI (-10 - nI s2.1) (ud X 9 14 (nI 0)) _ else RI (nI 1) (xHold (ud X 9 14 (nI 0)) 17 s2.2.2 s2.2.1) _)
        rw [← a1, if_pos hlt]
        exact RI_of rfl rfl
      · rw [if_neg hlt]
        refine er_loc (pc' := 46) (L' := [(2, _), (0, _), (1, _)]) rfl rfl rfl ?_
        refine er_loc (pc' := 47) rfl rfl rfl ?_
        refine er_gf (pc' := 50) (_) rfl rfl rfl rfl rfl ?_
        refine er_k (pc' := 51) (nI 0) rfl rfl rfl ?_
        refine er_pfIX (pc' := 54) 14 rfl rfl rfl rfl rfl rfl ?_
        refine er_loc (pc' := 55) rfl rfl rfl ?_
        refine er_if_ltT rfl (by decide +kernel) ?_
        refine er_loc (pc' := 64) rfl rfl rfl ?_
        refine er_if_neT rfl (by decide +kernel) ?_
        refine er_loc (pc' := 78) rfl rfl rfl ?_
        refine er_gf (pc' := 81) (_) rfl rfl rfl rfl rfl ?_
        refine er_gf (pc' := 84) (_) rfl rfl rfl rfl rfl ?_
        refine er_loc (pc' := 85) (L' := [(3, _), (2, _), (0, _), (1, _)]) rfl rfl rfl ?_
        refine er_loc (pc' := 86) rfl rfl rfl ?_
        refine er_loc (pc' := 87) rfl rfl rfl ?_
        refine er_gf (pc' := 90) (_) rfl rfl rfl rfl rfl ?_
        refine er_gf (pc' := 93) (_) rfl rfl rfl rfl rfl ?_
        refine er_loc (pc' := 94) rfl rfl rfl ?_
        refine er_gf (pc' := 97) (_) rfl rfl rfl rfl rfl ?_
        refine er_gf (pc' := 100) (.int (nI s'.2.1)) rfl rfl rfl rfl rfl ?_
        refine er_cIv (pc' := 103) (rest := []) 8 rfl rfl rfl rfl rfl rfl (l_hold _ (t := 17) (by simp [tx]) _ _ 50 s'.2.2 rfl (by rfl) s'.2.1 g2) ?_
        intro Z9
        refine er_k (pc' := 104) (nI 1) rfl rfl rfl ?_
        refine er_iret rfl rfl ?_
        show (if s2.1 < f then RI (-10 - nI s2.1) (ud X 9 14 (nI 0)) _ else RI (nI 1) (xHold (ud X 9 14 (nI 0)) 17 s2.2.2 s2.2.1) _)
        rw [← a1, if_neg hlt]
        exact RI_of rfl (xHold_ag a2)
end
section
/-! READING a text: what comes out is a good code -/
def WC1 (f : Nat → Int32) (i : Nat) : Prop := (¬ f i < -3 → sDp f i < 50) ∧ (f i = -33 → 1 ≤ sDp f i) ∧ (f i < -3 → f i ≠ -33 → 2 ≤ sDp f i)
def WQ (s : Nat × (Nat → Int32)) : Prop := ∀ i, i < s.1 → WC1 s.2 i
theorem wrC_at {s : Nat × (Nat → Int32)} {g : Int32} (h : s.1 < 50) : wrC s g = (s.1 + 1, u1 s.2 s.1 g) := if_pos h
theorem WQ_wr {s : Nat × (Nat → Int32)} {g : Int32} (h : s.1 < 50) (hs : WQ s) (h1 : g = -33 → 1 ≤ sDp s.2 s.1) (h2 : g < -3 → g ≠ -33 → 2 ≤ sDp s.2 s.1) : WQ (wrC s g) := by
  rw [wrC_at h]
  intro i hi
  have hi2 : i < s.1 + 1 := hi
  have ec : sDp (u1 s.2 s.1 g) i = sDp s.2 i := sDp_cong (fun k hk => u1_ne (by omega))
  show WC1 (u1 s.2 s.1 g) i
  unfold WC1
  rw [ec]
  by_cases c : i = s.1
  · subst c
    rw [u1_same]
    have := sDp_le s.2 s.1
    exact ⟨fun _ => by omega, h1, h2⟩
  · rw [u1_ne c]
    exact hs i (by omega)
theorem dp_wr {s : Nat × (Nat → Int32)} {g : Int32} (h : s.1 < 50) : sDp (wrC s g).2 (s.1 + 1) = if g < -3 then (if g = -33 then sDp s.2 s.1 else sDp s.2 s.1 - 1) else sDp s.2 s.1 + 1 := by
  rw [wrC_at h]
  show sDp (u1 s.2 s.1 g) (s.1 + 1) = _
  have ec : sDp (u1 s.2 s.1 g) s.1 = sDp s.2 s.1 := sDp_cong (fun k hk => u1_ne (by omega))
  by_cases c : g < -3
  · rw [if_pos c]
    by_cases c2 : g = -33
    · rw [if_pos c2, sDp_deny (by rw [u1_same]; exact c) (by rw [u1_same]; exact c2), ec]
    · rw [if_neg c2, sDp_join (by rw [u1_same]; exact c) (by rw [u1_same]; exact c2), ec]
  · rw [if_neg c, sDp_push (by rw [u1_same]; exact c), ec]
def WR (e p : Nat) (s : Nat × (Nat → Int32)) (k : Nat) (t : PT) : Prop := match t with
  | .inl f => f ≤ e
  | .inr s' => p ≤ s'.1 ∧ s'.1 ≤ e ∧ s'.2.1 + p ≤ s'.1 + s.1 ∧ WQ s'.2 ∧ sDp s'.2.2 s'.2.1 = sDp s.2 s.1 + k
theorem jn_sg {b : Int32} : ∀ rk, jn2 rk b = true → -b < -3 ∧ ¬ -b = -33
  | 0, h => by
    have e : b = nI 124 := of_decide_eq_true h
    subst e
    decide +kernel
  | 1, h => by
    have e : b = nI 38 := of_decide_eq_true h
    subst e
    decide +kernel
  | 2, h => by
    have e : (decide (b = nI 60) || (decide (b = nI 61) || decide (b = nI 62))) = true := h
    simp only [Bool.or_eq_true, decide_eq_true_eq] at e
    rcases e with e | e | e <;> subst e <;> decide +kernel
  | 3, h => by
    have e : (decide (b = nI 43) || decide (b = nI 45)) = true := h
    simp only [Bool.or_eq_true, decide_eq_true_eq] at e
    rcases e with e | e <;> subst e <;> decide +kernel
  | k + 4, h => by
    have e : (decide (b = nI 42) || (decide (b = nI 47) || decide (b = nI 37))) = true := h
    simp only [Bool.or_eq_true, decide_eq_true_eq] at e
    rcases e with e | e | e <;> subst e <;> decide +kernel
theorem nm_sg {u : Nat} {b : Int32} : ¬ -1 - nmQ u b < -3 := by
  unfold nmQ nmI
  split
  · decide +kernel
  · split
    · split
      · decide +kernel
      · split
        · decide +kernel
        · split <;> decide +kernel
    · split
      · decide +kernel
      · split
        · decide +kernel
        · split <;> decide +kernel
theorem dg_nI {tp : Nat → Int32} {e p : Nat} (ht : ∀ k, isN (tp k) 255) (h : dg (pk tp e p) = true) : ∃ c, 48 ≤ c ∧ c ≤ 57 ∧ pk tp e p = nI c := by
  have hp := dg_lt h
  have e1 : pk tp e p = tp p := if_pos (by omega)
  rw [e1] at h ⊢
  obtain ⟨h1, h2⟩ := ht p
  rw [h1] at h ⊢
  have e2 : (!decide (nI (nN (tp p)) < nI 48) && !decide (nI 57 < nI (nN (tp p)))) = true := h
  rw [Bool.and_eq_true] at e2
  obtain ⟨a, b⟩ := e2
  have a2 : ¬ nI (nN (tp p)) < nI 48 := by
    intro c
    rw [decide_eq_true c] at a
    cases a
  have b2 : ¬ nI 57 < nI (nN (tp p)) := by
    intro c
    rw [decide_eq_true c] at b
    cases b
  rw [nI_ltI (by omega) (by omega)] at a2 b2
  exact ⟨nN (tp p), by omega, by omega, rfl⟩
theorem pNum_v {tp : Nat → Int32} {e : Nat} (ht : ∀ k, isN (tp k) 255) : ∀ (m p a : Nat), a < 10000 → (a + 1) * 10 ^ m ≤ 10000 → p ≤ (pNum tp e m p (nI a)).1 ∧ ∃ q, q < 10000 ∧ (pNum tp e m p (nI a)).2 = nI q
  | 0, p, a, h, _ => ⟨Nat.le_refl p, a, h, rfl⟩
  | m + 1, p, a, h, h2 => by
    by_cases c : dg (pk tp e p) = true
    · obtain ⟨b, b1, b2, b3⟩ := dg_nI ht c
      have e1 : pNum tp e (m + 1) p (nI a) = pNum tp e m (p + 1) (nI (a * 10 + (b - 48))) := by
        show (if _ then _ else _) = _
        rw [if_pos c, b3, nI_mul, nI_add, nI_sub (by omega)]
        rw [show a * 10 + b - 48 = a * 10 + (b - 48) by omega]
      have h3 : (a * 10 + (b - 48) + 1) * 10 ^ m ≤ 10000 := by
        refine Nat.le_trans (Nat.mul_le_mul_right _ (show a * 10 + (b - 48) + 1 ≤ (a + 1) * 10 by omega)) ?_
        rw [Nat.pow_succ] at h2
        rw [Nat.mul_assoc, Nat.mul_comm 10]
        exact h2
      have h5 : a * 10 + (b - 48) + 1 ≤ 10000 := Nat.le_trans (Nat.le_mul_of_pos_right _ (Nat.pow_pos (by omega))) h3
      rw [e1]
      obtain ⟨g1, g2⟩ := pNum_v ht m (p + 1) (a * 10 + (b - 48)) (by omega) h3
      exact ⟨by omega, g2⟩
    · have e1 : pNum tp e (m + 1) p (nI a) = (p, nI a) := by
        show (if _ then _ else _) = _
        rw [if_neg c]
      rw [e1]
      exact ⟨Nat.le_refl p, a, h, rfl⟩
theorem WR_num {tp : Nat → Int32} {e p : Nat} {s : Nat × (Nat → Int32)} (ht : ∀ k, isN (tp k) 255) (he50 : e ≤ 50) (hpe : p ≤ e) (hs : s.1 ≤ p) (hw : WQ s) (h : dg (pk tp e p) = true) : WR e p s 1 (.inr ((pNum tp e 4 p (nI 0)).1, wrC s (pNum tp e 4 p (nI 0)).2)) := by
  obtain ⟨b, b1, b2, b3⟩ := dg_nI ht h
  have hp := dg_lt h
  have e1 : pNum tp e 4 p (nI 0) = pNum tp e 3 (p + 1) (nI (b - 48)) := by
    show (if _ then _ else _) = _
    rw [if_pos h, b3, nI_mul, nI_add, nI_sub (by omega)]
    rw [show 0 * 10 + b - 48 = b - 48 by omega]
  have hle := pNum_le (tp := tp) 4 p (nI 0) hpe
  rw [e1] at hle ⊢
  obtain ⟨g1, q, g2, g3⟩ := pNum_v (tp := tp) (e := e) ht 3 (p + 1) (b - 48) (by omega) (by omega)
  rw [g3]
  have n1 : ¬ nI q < -3 := fun c => nI_pos (n := q) (by omega) (Int32.lt_trans c (by decide +kernel))
  have n2 : ¬ nI q = -33 := fun c => n1 (by rw [c]; decide +kernel)
  have h50 : s.1 < 50 := by omega
  refine ⟨by omega, hle, ?_, WQ_wr h50 hw (fun c => absurd c n2) (fun c => absurd c n1), ?_⟩
  · rw [wrC_at h50]; show s.1 + 1 + p ≤ _ + s.1; omega
  · have e5 := dp_wr (g := nI q) h50
    rw [if_neg n1] at e5
    rw [show (wrC s (nI q)).1 = s.1 + 1 by rw [wrC_at h50]]
    exact e5
theorem WR_nm {e p u : Nat} {b : Int32} {s : Nat × (Nat → Int32)} (he50 : e ≤ 50) (hpe : p + 1 ≤ e) (hs : s.1 ≤ p) (hw : WQ s) : WR e p s 1 (.inr (p + 1, wrC s (-1 - nmQ u b))) := by
  have n1 : ¬ -1 - nmQ u b < -3 := nm_sg
  have n2 : ¬ -1 - nmQ u b = -33 := fun c => n1 (by rw [c]; decide +kernel)
  have h50 : s.1 < 50 := by omega
  refine ⟨by show p ≤ p + 1; omega, hpe, ?_, WQ_wr h50 hw (fun c => absurd c n2) (fun c => absurd c n1), ?_⟩
  · rw [wrC_at h50]; show s.1 + 1 + p ≤ p + 1 + s.1; omega
  · have e5 := dp_wr (g := -1 - nmQ u b) h50
    rw [if_neg n1] at e5
    rw [show (wrC s (-1 - nmQ u b)).1 = s.1 + 1 by rw [wrC_at h50]]
    exact e5
theorem WR_not {e p : Nat} {s : Nat × (Nat → Int32)} {s' : PS} (he50 : e ≤ 50) (hs : s.1 ≤ p) (h : WR e (p + 1) s 1 (.inr s')) : WR e p s 1 (.inr (s'.1, wrC s'.2 (-33))) := by
  obtain ⟨h1, h2, h3, h4, h5⟩ := h
  have h50 : s'.2.1 < 50 := by omega
  refine ⟨by show p ≤ s'.1; omega, h2, ?_, WQ_wr h50 h4 (fun _ => by omega) (fun _ c => absurd rfl c), ?_⟩
  · rw [wrC_at h50]; show s'.2.1 + 1 + p ≤ s'.1 + s.1; omega
  · have e5 := dp_wr (g := -33) h50
    rw [if_pos (by decide +kernel), if_pos rfl] at e5
    rw [show (wrC s'.2 (-33)).1 = s'.2.1 + 1 by rw [wrC_at h50]]
    rw [e5, h5]
theorem WR_qL {f : PS → PT} {tp : Nat → Int32} {e rk : Nat} (hrk : rk < 5) (he50 : e ≤ 50) (H : ∀ p s, p ≤ e → s.1 ≤ p → WQ s → WR e p s 1 (f (p, s))) : ∀ (m p : Nat) (s : Nat × (Nat → Int32)), p ≤ e → s.1 ≤ p → WQ s → 1 ≤ sDp s.2 s.1 → WR e p s 0 (qL f tp e rk m (p, s))
  | 0, p, s, hp, hs, hw, hd => ⟨Nat.le_refl p, hp, by show s.1 + p ≤ p + s.1; omega, hw, rfl⟩
  | m + 1, p, s, hp, hs, hw, hd => by
    by_cases c : jn2 rk (pk tp e p) = true
    · have hp1 := jn_lt hrk c
      have hh := H (p + 1) s hp1 (by omega) hw
      cases h1 : f (p + 1, s) with
      | inl a => rw [h1] at hh; rw [qL_inl c h1]; exact hh
      | inr a =>
        rw [h1] at hh
        rw [qL_inr c h1]
        obtain ⟨g1, g2, g3, g4, g5⟩ := hh
        obtain ⟨n1, n2⟩ := jn_sg rk c
        have h50 : a.2.1 < 50 := by omega
        have e1 : (wrC a.2 (-(pk tp e p))).1 = a.2.1 + 1 := by rw [wrC_at h50]
        have e5 := dp_wr (g := -(pk tp e p)) h50
        rw [if_pos n1, if_neg n2, g5, ← e1] at e5
        have ih := WR_qL (tp := tp) hrk he50 H m a.1 (wrC a.2 (-(pk tp e p))) g2 (by omega) (WQ_wr h50 g4 (fun c => absurd c n2) (fun _ _ => by omega)) (by omega)
        cases h2 : qL f tp e rk m (a.1, wrC a.2 (-(pk tp e p))) with
        | inl b => rw [h2] at ih; exact ih
        | inr b =>
          rw [h2] at ih
          obtain ⟨k1, k2, k3, k4, k5⟩ := ih
          exact ⟨by omega, k2, by omega, k4, by omega⟩
    · rw [qL_no c]
      exact ⟨Nat.le_refl p, hp, by show s.1 + p ≤ p + s.1; omega, hw, rfl⟩
theorem WR_qR {f : Nat → Nat → PS → PT} {tp : Nat → Int32} {e rk op : Nat} (hrk : rk < 5) (he50 : e ≤ 50) (H : ∀ p s, p ≤ e → s.1 ≤ p → WQ s → WR e p s 1 (f (rk + 1) op (p, s))) (p : Nat) (s : Nat × (Nat → Int32)) (hp : p ≤ e) (hs : s.1 ≤ p) (hw : WQ s) : WR e p s 1 (qR tp e f rk op (p, s)) := by
  have hh := H p s hp hs hw
  unfold qR
  cases h1 : f (rk + 1) op (p, s) with
  | inl a => rw [h1] at hh; exact hh
  | inr a =>
    rw [h1] at hh
    obtain ⟨g1, g2, g3, g4, g5⟩ := hh
    have ih := WR_qL (tp := tp) hrk he50 H (if rk = 2 then 1 else 50) a.1 a.2 g2 (by omega) g4 (by omega)
    show WR e p s 1 (qL (f (rk + 1) op) tp e rk (if rk = 2 then 1 else 50) (a.1, a.2))
    cases h2 : qL (f (rk + 1) op) tp e rk (if rk = 2 then 1 else 50) (a.1, a.2) with
    | inl b => rw [h2] at ih; exact ih
    | inr b =>
      rw [h2] at ih
      obtain ⟨k1, k2, k3, k4, k5⟩ := ih
      exact ⟨by omega, k2, by omega, k4, by omega⟩
theorem WR_qP {f : Nat → Nat → PS → PT} {tp : Nat → Int32} {e u op : Nat} (ht : ∀ k, isN (tp k) 255) (he50 : e ≤ 50) (H : ∀ rk p s, p ≤ e → s.1 ≤ p → WQ s → WR e p s 1 (f rk (op + 1) (p, s))) (p : Nat) (s : Nat × (Nat → Int32)) (hp : p ≤ e) (hs : s.1 ≤ p) (hw : WQ s) : WR e p s 1 (qP tp e u f op (p, s)) := by
  unfold qP
  by_cases c1 : dg (pk tp e p) = true
  · rw [if_pos c1]
    exact WR_num ht he50 hp hs hw c1
  rw [if_neg c1]
  by_cases c2 : ¬ nmQ u (pk tp e p) < 0
  · rw [if_pos c2]
    exact WR_nm he50 (pk_isN ht (fun c => c2 (by rw [show nmQ u (pk tp e p) = -1 from if_pos c]; decide +kernel))).2 hs hw
  rw [if_neg c2]
  by_cases c3 : pk tp e p = nI 33 ∧ op < 5
  · rw [if_pos c3]
    have hp1 := pkq_lt c3.1 (by decide +kernel)
    have hh := H 5 (p + 1) s hp1 (by omega) hw
    cases h1 : f 5 (op + 1) (p + 1, s) with
    | inl a => rw [h1] at hh; exact hh
    | inr a => rw [h1] at hh; exact WR_not he50 hs hh
  rw [if_neg c3]
  by_cases c4 : pk tp e p = nI 40 ∧ op < 5
  · rw [if_pos c4]
    have hp1 := pkq_lt c4.1 (by decide +kernel)
    have hh := H 0 (p + 1) s hp1 (by omega) hw
    cases h1 : f 0 (op + 1) (p + 1, s) with
    | inl a => rw [h1] at hh; exact hh
    | inr a =>
      rw [h1] at hh
      obtain ⟨g1, g2, g3, g4, g5⟩ := hh
      show WR e p s 1 (if pk tp e a.1 = nI 41 then _ else _)
      by_cases c5 : pk tp e a.1 = nI 41
      · rw [if_pos c5]
        have := pkq_lt c5 (by decide +kernel)
        exact ⟨by show p ≤ a.1 + 1; omega, by show a.1 + 1 ≤ e; omega, by show a.2.1 + p ≤ a.1 + 1 + s.1; omega, g4, g5⟩
      · rw [if_neg c5]
        exact g2
  rw [if_neg c4]
  exact hp
theorem WR_qq {tp : Nat → Int32} {e u : Nat} (ht : ∀ k, isN (tp k) 255) (he50 : e ≤ 50) : ∀ (F rk op p : Nat) (s : Nat × (Nat → Int32)), p ≤ e → s.1 ≤ p → WQ s → WR e p s 1 (qq tp e u F rk op (p, s))
  | 0, rk, op, p, s, hp, hs, hw => hp
  | F + 1, rk, op, p, s, hp, hs, hw => by
    have ih : ∀ rk op p s, p ≤ e → s.1 ≤ p → WQ s → WR e p s 1 (qq tp e u F rk op (p, s)) := WR_qq ht he50 F
    by_cases c : rk < 5
    · rw [qq_R c]
      exact WR_qR c he50 (fun p s h1 h2 h3 => ih (rk + 1) op p s h1 h2 h3) p s hp hs hw
    · have e1 : qq tp e u (F + 1) rk op (p, s) = qP tp e u (qq tp e u F) op (p, s) := by
        unfold qq
        rw [itF_succ]
        exact if_neg c
      rw [e1]
      exact WR_qP ht he50 (fun rk p s h1 h2 h3 => ih rk (op + 1) p s h1 h2 h3) p s hp hs hw
theorem sTx_wf {X : Nat → Nat → Int32} {u f : Nat} (ht : ∀ k, isN (X 20 k) 255) (hf50 : f ≤ 50) : match sTx X u f with
    | .inl y => y ≤ f
    | .inr s => s.1 ≤ f ∧ s.2.1 ≤ 50 ∧ wfC s.2.2 s.2.1 := by
  have h := WR_qq (u := u) ht hf50 36 0 0 0 (0, fun _ => 0) (Nat.zero_le f) (Nat.le_refl 0) (fun i hi => absurd hi (Nat.not_lt_zero i))
  unfold sTx
  cases h1 : qq (X 20) f u 36 0 0 (0, (0, fun _ => 0)) with
  | inl y => rw [h1] at h; exact h
  | inr s =>
    rw [h1] at h
    obtain ⟨g1, g2, g3, g4, g5⟩ := h
    have g6 : s.2.1 + 0 ≤ s.1 + 0 := g3
    exact ⟨g2, by omega, by omega, fun _ => g5, g4⟩
end
section
/-! READING a text: the job after it -/
def jTx0 (J : Nat → Nat → Int32) (s : Nat × (Nat → Int32)) : Nat → Nat → Int32 := fun i k => match i with
  | 5 => if k = 0 then nI s.1 else 0
  | 6 => if k < s.1 then s.2 k else 0
  | i => J i k
theorem jx_text0 {X : Nat → Nat → Int32} {s : Nat × (Nat → Int32)} (h : s.1 ≤ 50) : jx (xHold X 14 s.2 s.1) 9 = jTx0 (jx X 9) s := by
  have h1 : xHold X 14 s.2 s.1 14 2 = nI s.1 := by
    unfold xHold
    rw [ud_same, u1_same]
  have h2 : xHold X 14 s.2 s.1 15 = cpf s.2 (X 15) 0 0 s.1 := by
    unfold xHold
    rw [ud_ne (by omega), uc_same]
  have hc : ∀ c, c ≠ 14 → c ≠ 15 → xHold X 14 s.2 s.1 c = X c := by
    intro c g1 g2
    unfold xHold
    rw [ud_ne (by omega), uc_ne (by omega)]
  funext i j
  match i with
  | 0 =>
    show (if okF j = true then xHold X 14 s.2 s.1 9 j else 0) = (if okF j = true then X 9 j else 0)
    rw [hc 9 (by omega) (by omega)]
  | 1 =>
    show (if j < 8 then xHold X 14 s.2 s.1 10 j else 0) = (if j < 8 then X 10 j else 0)
    rw [hc 10 (by omega) (by omega)]
  | 2 =>
    show (if j < 8 then xHold X 14 s.2 s.1 11 j else 0) = (if j < 8 then X 11 j else 0)
    rw [hc 11 (by omega) (by omega)]
  | 3 =>
    show (if j < 8 then xHold X 14 s.2 s.1 12 j else 0) = (if j < 8 then X 12 j else 0)
    rw [hc 12 (by omega) (by omega)]
  | 4 =>
    show (if j < 8 then xHold X 14 s.2 s.1 13 j else 0) = (if j < 8 then X 13 j else 0)
    rw [hc 13 (by omega) (by omega)]
  | 5 =>
    show (if j = 0 then xHold X 14 s.2 s.1 14 2 else 0) = (if j = 0 then nI s.1 else 0)
    rw [h1]
  | 6 =>
    show (if j < nN (xHold X 14 s.2 s.1 14 2) then xHold X 14 s.2 s.1 15 j else 0) = (if j < s.1 then s.2 j else 0)
    rw [h1, nN_nI (by omega), h2]
    by_cases c : j < s.1
    · rw [if_pos c, if_pos c, cpf_all c]
    · rw [if_neg c, if_neg c]
  | 7 =>
    show (if j = 0 then xHold X 14 s.2 s.1 17 2 else 0) = (if j = 0 then X 17 2 else 0)
    rw [hc 17 (by omega) (by omega)]
  | 8 =>
    show (if j < nN (xHold X 14 s.2 s.1 17 2) then xHold X 14 s.2 s.1 18 j else 0) = (if j < nN (X 17 2) then X 18 j else 0)
    rw [hc 17 (by omega) (by omega), hc 18 (by omega) (by omega)]
  | 9 =>
    show (if j < 50 then xHold X 14 s.2 s.1 20 j else 0) = (if j < 50 then X 20 j else 0)
    rw [hc 20 (by omega) (by omega)]
  | 10 =>
    show (if j < 20 then xHold X 14 s.2 s.1 21 j else 0) = (if j < 20 then X 21 j else 0)
    rw [hc 21 (by omega) (by omega)]
  | i + 11 => rfl
theorem IJ.text0 {T : Nat} {J : Nat → Nat → Int32} {s : Nat × (Nat → Int32)} (h : IJ T J) (h1 : s.1 ≤ 50) (hw : wfC s.2 s.1) : IJ T (jTx0 J s) := ⟨h.n, h.kind, h.m, h.sc, h.needs, h.done, h.wrong, h.hands, h.bag, h.minute, ⟨isN.of h1 (by omega), (by
  show wfC (fun k => if k < s.1 then s.2 k else 0) (nN (nI s.1))
  rw [nN_nI (by omega)]
  exact wfC_cong (fun i hi => (if_pos hi).symm) hw)⟩, h.te, h.fed, h.waits, h.tape⟩
def jTx1 (J : Nat → Nat → Int32) (s : Nat × (Nat → Int32)) : Nat → Nat → Int32 := fun i k => match i with
  | 7 => if k = 0 then nI s.1 else 0
  | 8 => if k < s.1 then s.2 k else 0
  | i => J i k
theorem jx_text1 {X : Nat → Nat → Int32} {s : Nat × (Nat → Int32)} (h : s.1 ≤ 50) : jx (xHold X 17 s.2 s.1) 9 = jTx1 (jx X 9) s := by
  have h1 : xHold X 17 s.2 s.1 17 2 = nI s.1 := by
    unfold xHold
    rw [ud_same, u1_same]
  have h2 : xHold X 17 s.2 s.1 18 = cpf s.2 (X 18) 0 0 s.1 := by
    unfold xHold
    rw [ud_ne (by omega), uc_same]
  have hc : ∀ c, c ≠ 17 → c ≠ 18 → xHold X 17 s.2 s.1 c = X c := by
    intro c g1 g2
    unfold xHold
    rw [ud_ne (by omega), uc_ne (by omega)]
  funext i j
  match i with
  | 0 =>
    show (if okF j = true then xHold X 17 s.2 s.1 9 j else 0) = (if okF j = true then X 9 j else 0)
    rw [hc 9 (by omega) (by omega)]
  | 1 =>
    show (if j < 8 then xHold X 17 s.2 s.1 10 j else 0) = (if j < 8 then X 10 j else 0)
    rw [hc 10 (by omega) (by omega)]
  | 2 =>
    show (if j < 8 then xHold X 17 s.2 s.1 11 j else 0) = (if j < 8 then X 11 j else 0)
    rw [hc 11 (by omega) (by omega)]
  | 3 =>
    show (if j < 8 then xHold X 17 s.2 s.1 12 j else 0) = (if j < 8 then X 12 j else 0)
    rw [hc 12 (by omega) (by omega)]
  | 4 =>
    show (if j < 8 then xHold X 17 s.2 s.1 13 j else 0) = (if j < 8 then X 13 j else 0)
    rw [hc 13 (by omega) (by omega)]
  | 5 =>
    show (if j = 0 then xHold X 17 s.2 s.1 14 2 else 0) = (if j = 0 then X 14 2 else 0)
    rw [hc 14 (by omega) (by omega)]
  | 6 =>
    show (if j < nN (xHold X 17 s.2 s.1 14 2) then xHold X 17 s.2 s.1 15 j else 0) = (if j < nN (X 14 2) then X 15 j else 0)
    rw [hc 14 (by omega) (by omega), hc 15 (by omega) (by omega)]
  | 7 =>
    show (if j = 0 then xHold X 17 s.2 s.1 17 2 else 0) = (if j = 0 then nI s.1 else 0)
    rw [h1]
  | 8 =>
    show (if j < nN (xHold X 17 s.2 s.1 17 2) then xHold X 17 s.2 s.1 18 j else 0) = (if j < s.1 then s.2 j else 0)
    rw [h1, nN_nI (by omega), h2]
    by_cases c : j < s.1
    · rw [if_pos c, if_pos c, cpf_all c]
    · rw [if_neg c, if_neg c]
  | 9 =>
    show (if j < 50 then xHold X 17 s.2 s.1 20 j else 0) = (if j < 50 then X 20 j else 0)
    rw [hc 20 (by omega) (by omega)]
  | 10 =>
    show (if j < 20 then xHold X 17 s.2 s.1 21 j else 0) = (if j < 20 then X 21 j else 0)
    rw [hc 21 (by omega) (by omega)]
  | i + 11 => rfl
theorem IJ.text1 {T : Nat} {J : Nat → Nat → Int32} {s : Nat × (Nat → Int32)} (h : IJ T J) (h1 : s.1 ≤ 50) (hw : wfC s.2 s.1) : IJ T (jTx1 J s) := ⟨h.n, h.kind, h.m, h.sc, h.needs, h.done, h.wrong, h.hands, h.bag, h.minute, h.tl, ⟨isN.of h1 (by omega), (by
  show wfC (fun k => if k < s.1 then s.2 k else 0) (nN (nI s.1))
  rw [nN_nI (by omega)]
  exact wfC_cong (fun i hi => (if_pos hi).symm) hw)⟩, h.fed, h.waits, h.tape⟩
end
