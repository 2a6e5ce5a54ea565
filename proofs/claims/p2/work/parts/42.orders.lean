/-! THE FACE: orders by a SHEET: they come to an end, and leave all as it was -/
def RE (X : Nat → Nat → Int32) : ab_R → Prop := fun r => ∃ v Z', r = (some (.int v), Wd X Z')
theorem RE_of {v : Int32} {X X' Z : Nat → Nat → Int32} (h : X' = X) : RE X (some (.int v), Wd X' Z) := ⟨v, Z, by rw [h]⟩
section ERW
variable {d pc pc' lk : Nat} {M : ab_M} {L L' : ab_Lo} {st : List Value} {w : ab_W} {P : ab_R → Prop} {X Z : Nat → Nat → Int32}
theorem er_cSe {j i : Nat} {X' : Nat → Nat → Int32} {As rest : List Value} (hf : ab_fetch M.2.2.2.2.2.2.2 pc = some (.invokestatic i, lk)) (hq : qS lk st = some (j, As, rest)) (hp : pc + 3 = pc') (h : EC d j As (Wd X Z) (RE X')) (k : ∀ v Z', ER d M pc' L (.int v :: rest) (Wd X' Z') P) : ER d M pc L st (Wd X Z) P :=
  er_cS hf hq hp h (fun r hr => by obtain ⟨v, Z', rfl⟩ := hr; exact k v Z')
end ERW
abbrev aR (a : Nat) : Nat := 55 + a
set_option maxRecDepth 100000 in
set_option maxHeartbeats 4000000 in
theorem l_of_loop (d F : Nat) (X : Nat → Nat → Int32) {a : Nat} (ha : a < 4) (g dep : Nat) {T : Nat} (hI : IJ T (jx X 35)) {k : Nat} (hk : sMayDo (jx X 35) k = true) (hrec : ∀ (Z : Nat → Nat → Int32) (i : Nat), i < jn (jx X 35) → EC (d + 6 + F) 107 [.ref 35, .int (nI i), .ref (55 + a), .int (nI g), .int (nI (dep + 1))] (Wd (xPass X 35 k) Z) (RE (xPass X 35 k))) : ∀ (m i : Nat) (x f : Int32) (Z : Nat → Nat → Int32), i + m = jn (jx X 35) → x = nI i → ER (d + 6 + F) tb_m107 75 [(0, .ref 35), (1, .int (nI k)), (2, .ref (55 + a)), (3, .int (nI g)), (4, .int (nI dep)), (5, .int (X 35 9)), (6, .int (X 35 10)), (7, .int f), (8, .int x)] [] (Wd (xPass X 35 k) Z) (RE X)
  | 0, i, x, f, Z, hi, hx => by
    have h8 := jn8 hI
    have hm := mayDo_k hk
    subst hx
    have hi0 : i = jn (jx X 35) := by omega
    refine er_loc (pc' := 77) rfl rfl rfl ?_
    refine er_loc (pc' := 78) rfl rfl rfl ?_
    refine er_gf (pc' := 81) (.int (X 35 1)) rfl rfl rfl rfl rfl ?_
    rw [show X 35 1 = nI (jn (jx X 35)) from hI.n.1]
    refine er_cm_geT rfl (nI_nlt (by omega) (by omega)) ?_
    refine er_loc (pc' := 108) rfl rfl rfl ?_
    refine er_loc (pc' := 109) rfl rfl rfl ?_
    refine er_loc (pc' := 111) rfl rfl rfl ?_
    refine er_loc (pc' := 113) rfl rfl rfl ?_
    refine er_cIv (pc' := 116) (rest := []) 7 rfl rfl rfl rfl rfl rfl (EC.up (l_unpass d j35 _ _ _ _ _) (by omega)) ?_
    intro Z9
    rw [xUnpass_pass (by omega) (by have := hm.2.1; unfold sDone at this; rw [jx06] at this; exact this)]
    refine er_loc (pc' := 118) rfl rfl rfl ?_
    refine er_iret rfl rfl ?_
    exact RE_of rfl
  | m + 1, i, x, f, Z, hi, hx => by
    have h8 := jn8 hI
    subst hx
    refine er_loc (pc' := 77) rfl rfl rfl ?_
    refine er_loc (pc' := 78) rfl rfl rfl ?_
    refine er_gf (pc' := 81) (.int (X 35 1)) rfl rfl rfl rfl rfl ?_
    rw [show X 35 1 = nI (jn (jx X 35)) from hI.n.1]
    refine er_cm_geF (pc' := 84) rfl (nI_lt (by omega) (by omega)) rfl ?_
    refine er_loc (pc' := 86) rfl rfl rfl ?_
    refine er_loc (pc' := 87) rfl rfl rfl ?_
    refine er_loc (pc' := 89) rfl rfl rfl ?_
    refine er_loc (pc' := 90) rfl rfl rfl ?_
    refine er_loc (pc' := 91) rfl rfl rfl ?_
    refine er_loc (pc' := 93) rfl rfl rfl ?_
    refine er_k (pc' := 94) (nI 1) rfl rfl rfl ?_
    refine er_iadd (pc' := 95) rfl rfl ?_
    rw [nI_add]
    refine er_cSe (pc' := 98) (rest := [_]) rfl rfl rfl (hrec Z i (by omega)) ?_
    intro v Z8
    refine er_iadd (pc' := 99) rfl rfl ?_
    refine er_loc (L' := [(7, _), (0, _), (1, _), (2, _), (3, _), (4, _), (5, _), (6, _), (8, _)]) (pc' := 101) rfl rfl rfl ?_
    refine er_loc (L' := [(8, .int (_ + nI 1)), (7, _), (0, _), (1, _), (2, _), (3, _), (4, _), (5, _), (6, _)]) (pc' := 104) rfl rfl rfl ?_
    refine er_goto rfl ?_
    refine ER_loc [(0, _), (1, _), (2, _), (3, _), (4, _), (5, _), (6, _), (7, _), (8, _)] rfl (List.forall_mem_cons.mpr ⟨rfl, List.forall_mem_cons.mpr ⟨rfl, List.forall_mem_cons.mpr ⟨rfl, List.forall_mem_cons.mpr ⟨rfl, List.forall_mem_cons.mpr ⟨rfl, List.forall_mem_cons.mpr ⟨rfl, List.forall_mem_cons.mpr ⟨rfl, List.forall_mem_cons.mpr ⟨rfl, List.forall_mem_cons.mpr ⟨rfl, fun _ h => absurd h List.not_mem_nil⟩⟩⟩⟩⟩⟩⟩⟩⟩) rfl rfl ?_
    exact l_of_loop d F X ha g dep hI hk hrec m (i + 1) _ _ _ (by omega) (nI_add i 1)
set_option maxRecDepth 100000 in
set_option maxHeartbeats 4000000 in
theorem l_ordersFrom (d : Nat) {a : Nat} (ha : a < 4) (g : Nat) (hg : g ≤ 4) : ∀ (F dep : Nat) (X Z : Nat → Nat → Int32) (k : Nat) (T : Nat), dep + F = g → IJ T (jx X 35) → k < jn (jx X 35) → T + 300 * F < 1000000000 → EC (d + 6 + F + 1) 107 [.ref 35, .int (nI k), .ref (55 + a), .int (nI g), .int (nI dep)] (Wd X Z) (RE X) := by
  intro F
  induction F with
  | zero =>
    intro dep X Z k T hd hI hk hT
    refine er_enter (L := [(0, _), (1, _), (2, _), (3, _), (4, _)]) rfl rfl rfl ?_
    refine er_loc (pc' := 2) rfl rfl rfl ?_
    refine er_if_ltF (pc' := 5) rfl (nI_pos (by omega)) rfl ?_
    refine er_loc (pc' := 7) rfl rfl rfl ?_
    refine er_loc (pc' := 8) rfl rfl rfl ?_
    refine er_cm_geT rfl (nI_nlt (by omega) (by omega)) ?_
    refine er_k (pc' := 27) (nI 0) rfl rfl rfl ?_
    refine er_iret rfl rfl ?_
    exact RE_of rfl
  | succ F ih =>
    intro dep X Z k T hd hI hk hT
    have h8 := jn8 hI
    refine er_enter (L := [(0, _), (1, _), (2, _), (3, _), (4, _)]) rfl rfl rfl ?_
    refine er_loc (pc' := 2) rfl rfl rfl ?_
    refine er_if_ltF (pc' := 5) rfl (nI_pos (by omega)) rfl ?_
    refine er_loc (pc' := 7) rfl rfl rfl ?_
    refine er_loc (pc' := 8) rfl rfl rfl ?_
    refine er_cm_geF (pc' := 11) rfl (nI_lt (by omega) (by omega)) rfl ?_
    refine er_loc (pc' := 13) rfl rfl rfl ?_
    refine er_loc (pc' := 14) rfl rfl rfl ?_
    refine er_al (pc' := 15) rfl (blt_R ha) (cO_R ha _ _) rfl ?_
    refine er_cm_geF (pc' := 18) rfl (nI_lt (by omega) (by omega)) rfl ?_
    refine er_loc (pc' := 19) rfl rfl rfl ?_
    refine er_loc (pc' := 20) rfl rfl rfl ?_
    refine er_cIi (pc' := 23) (rest := []) 7 rfl rfl rfl rfl rfl rfl (EC.up (l_mayBeDone d j35 _ _ hI hk) (by omega)) ?_
    refine er_if_neb (pc' := 26) rfl rfl (fun h23 => ?_) (fun h23 => ?_)
    · refine er_loc (pc' := 29) rfl rfl rfl ?_
      refine er_loc (pc' := 30) rfl rfl rfl ?_
      refine er_cIz (pc' := 33) (rest := []) 7 rfl rfl rfl rfl rfl rfl (EC.up (l_lasts d j35 _ _ hI hk) (by omega)) ?_
      intro Z2
      refine er_loc (pc' := 34) rfl rfl rfl ?_
      refine er_loc (pc' := 36) rfl rfl rfl ?_
      refine er_ia (pc' := 37) (dep) rfl (blt_R ha) (cO_R ha _ _) rfl (by omega) rfl rfl ?_
      refine er_cm_eq (pc' := 40) rfl rfl (fun h37 => ?_) (fun h37 => ?_)
      · refine er_loc (pc' := 44) rfl rfl rfl ?_
        refine er_loc (pc' := 45) rfl rfl rfl ?_
        refine er_k (pc' := 46) (nI 1) rfl rfl rfl ?_
        refine er_isub (pc' := 47) rfl rfl ?_
        refine er_cm_ne (pc' := 50) rfl rfl (fun h47 => ?_) (fun h47 => ?_)
        · refine er_loc (pc' := 53) rfl rfl rfl ?_
          refine er_gf (pc' := 56) (.int (X 35 9)) rfl rfl rfl rfl rfl ?_
          refine er_loc (L' := [(5, _), (0, _), (1, _), (2, _), (3, _), (4, _)]) (pc' := 58) rfl rfl rfl ?_
          refine er_loc (pc' := 59) rfl rfl rfl ?_
          refine er_gf (pc' := 62) (.int (X 35 10)) rfl rfl rfl rfl rfl ?_
          refine er_loc (L' := [(6, _), (5, _), (0, _), (1, _), (2, _), (3, _), (4, _)]) (pc' := 64) rfl rfl rfl ?_
          refine er_k (pc' := 65) (nI 0) rfl rfl rfl ?_
          refine er_loc (L' := [(7, _), (6, _), (5, _), (0, _), (1, _), (2, _), (3, _), (4, _)]) (pc' := 67) rfl rfl rfl ?_
          refine er_loc (pc' := 68) rfl rfl rfl ?_
          refine er_loc (pc' := 69) rfl rfl rfl ?_
          refine er_cIv (pc' := 72) (rest := []) 7 rfl rfl rfl rfl rfl rfl (EC.up (l_pass d j35 _ _ hI hk) (by omega)) ?_
          intro Z7
          refine er_k (pc' := 73) (nI 0) rfl rfl rfl ?_
          refine er_loc (L' := [(8, _), (7, _), (6, _), (5, _), (0, _), (1, _), (2, _), (3, _), (4, _)]) (pc' := 75) rfl rfl rfl ?_
          refine ER_loc [(0, _), (1, _), (2, _), (3, _), (4, _), (5, _), (6, _), (7, _), (8, _)] rfl (List.forall_mem_cons.mpr ⟨rfl, List.forall_mem_cons.mpr ⟨rfl, List.forall_mem_cons.mpr ⟨rfl, List.forall_mem_cons.mpr ⟨rfl, List.forall_mem_cons.mpr ⟨rfl, List.forall_mem_cons.mpr ⟨rfl, List.forall_mem_cons.mpr ⟨rfl, List.forall_mem_cons.mpr ⟨rfl, List.forall_mem_cons.mpr ⟨rfl, fun _ h => absurd h List.not_mem_nil⟩⟩⟩⟩⟩⟩⟩⟩⟩) rfl rfl ?_
          refine l_of_loop d (F + 1) X ha g dep hI h23 ?_ (jn (jx X 35)) 0 _ _ Z7 (by omega) rfl
          intro Z1 i hi
          have hj := jx_xPass (X := X) (b := 35) (k := k) (by omega)
          exact ih (dep + 1) (xPass X 35 k) Z1 i (T + 300) (by omega) (by rw [hj]; exact hI.pass (by omega) h23) (by rw [hj]; exact hi) (by omega)
        · refine er_k (pc' := 51) (nI 1) rfl rfl rfl ?_
          refine er_iret rfl rfl ?_
          exact RE_of rfl
      · refine er_k (pc' := 41) (nI 0) rfl rfl rfl ?_
        refine er_iret rfl rfl ?_
        exact RE_of rfl
    · refine er_k (pc' := 27) (nI 0) rfl rfl rfl ?_
      refine er_iret rfl rfl ?_
      exact RE_of rfl
def OsP (X : Nat → Nat → Int32) : ab_R → Prop := fun r => ∃ v X' Z', r = (some (.int v), Wd X' Z') ∧ (OT X X' ∨ ∃ X1, OT X X1 ∧ X' = xErr X1 2)
set_option maxRecDepth 100000 in
set_option maxHeartbeats 4000000 in
theorem l_os_loop (d : Nat) {X : Nat → Nat → Int32} {T : Nat} (hI : IJ T (jx X 9)) (hT9 : T < 1000000) {a : Nat} (ha : a < 4) (w : Int32) {g : Nat} (hg : X 59 a = nI g) (hg4 : g ≤ 4) (X1 : Nat → Nat → Int32) (ho : OT X X1) (hj : jx X1 35 = jx X 9) (P : ab_R → Prop) (hP : ∀ r, OsP X r → P r) : ∀ (m i : Nat) (x f l : Int32) (Z : Nat → Nat → Int32), i + m = jn (jx X 9) → x = nI i → ER (d + 11) tb_m105 70 [(0, .ref 0), (1, .int (nI a)), (2, .int w), (3, .int f), (4, .int l), (5, .int x)] [] (Wd X1 Z) P
  | 0, i, x, f, l, Z, hi, hx => by
    have h8 := jn8 hI
    subst hx
    refine er_loc (pc' := 72) rfl rfl rfl ?_
    refine er_loc (pc' := 73) rfl rfl rfl ?_
    refine er_gf (pc' := 76) (_) rfl rfl rfl rfl rfl ?_
    refine er_gf (pc' := 79) (.int (X1 9 1)) rfl rfl rfl rfl rfl ?_
    rw [show X1 9 1 = nI (jn (jx X 9)) from by rw [ho 9 (by omega)]; exact hI.n.1]
    refine er_cm_geT rfl (nI_nlt (by omega) (by omega)) ?_
    refine er_loc (pc' := 137) rfl rfl rfl ?_
    refine er_if_ne (pc' := 140) rfl rfl (fun h137 => ?_) (fun h137 => ?_)
    · refine er_loc (pc' := 144) rfl rfl rfl ?_
      refine er_if_lt (pc' := 147) rfl rfl (fun h144 => ?_) (fun h144 => ?_)
      · refine er_loc (pc' := 153) rfl rfl rfl ?_
        refine er_k (pc' := 154) (nI 2) rfl rfl rfl ?_
        refine er_cIz (pc' := 157) (rest := []) 11 rfl rfl rfl rfl rfl rfl (l_error _ _ _ 2 (by decide)) ?_
        intro Z9
        refine er_iret rfl rfl ?_
        exact hP _ ⟨_, _, _, rfl, Or.inr ⟨X1, ho, rfl⟩⟩
      · refine er_loc (pc' := 149) rfl rfl rfl ?_
        refine er_goto rfl ?_
        refine er_iret rfl rfl ?_
        exact hP _ ⟨_, _, _, rfl, Or.inl ho⟩
    · refine er_loc (pc' := 141) rfl rfl rfl ?_
      refine er_iret rfl rfl ?_
      exact hP _ ⟨_, _, _, rfl, Or.inl ho⟩
  | m + 1, i, x, f, l, Z, hi, hx => by
    have h8 := jn8 hI
    subst hx
    refine er_loc (pc' := 72) rfl rfl rfl ?_
    refine er_loc (pc' := 73) rfl rfl rfl ?_
    refine er_gf (pc' := 76) (_) rfl rfl rfl rfl rfl ?_
    refine er_gf (pc' := 79) (.int (X1 9 1)) rfl rfl rfl rfl rfl ?_
    rw [show X1 9 1 = nI (jn (jx X 9)) from by rw [ho 9 (by omega)]; exact hI.n.1]
    refine er_cm_geF (pc' := 82) rfl (nI_lt (by omega) (by omega)) rfl ?_
    refine er_loc (pc' := 83) rfl rfl rfl ?_
    refine er_gf (pc' := 86) (_) rfl rfl rfl rfl rfl ?_
    refine er_loc (pc' := 88) rfl rfl rfl ?_
    refine er_loc (pc' := 89) rfl rfl rfl ?_
    refine er_gf (pc' := 92) (_) rfl rfl rfl rfl rfl ?_
    refine er_loc (pc' := 93) rfl rfl rfl ?_
    refine er_aa (pc' := 94) (a) rfl rfl rfl rfl rfl ha rfl rfl ?_
    refine er_loc (pc' := 95) rfl rfl rfl ?_
    refine er_gf (pc' := 98) (_) rfl rfl rfl rfl rfl ?_
    refine er_loc (pc' := 99) rfl rfl rfl ?_
    refine er_ia (pc' := 100) (a) rfl rfl rfl rfl ha rfl rfl ?_
    rw [show X1 59 a = nI g from by rw [ho 59 (by omega)]; exact hg]
    refine er_k (pc' := 101) (nI 0) rfl rfl rfl ?_
    refine er_cSe (pc' := 104) (rest := []) rfl rfl rfl (EC.up (l_ordersFrom d ha g hg4 g 0 X1 Z i T (by omega) (by rw [hj]; exact hI) (by rw [hj]; omega) (by omega)) (by omega)) ?_
    intro v Z8
    refine er_loc (L' := [(6, _), (0, _), (1, _), (2, _), (3, _), (4, _), (5, _)]) (pc' := 106) rfl rfl rfl ?_
    refine er_loc (pc' := 108) rfl rfl rfl ?_
    refine er_if_ge (pc' := 111) rfl rfl (fun h108 => ?_) (fun h108 => ?_)
    · refine er_loc (pc' := 123) rfl rfl rfl ?_
      refine er_loc (L' := [(4, _), (6, _), (0, _), (1, _), (2, _), (3, _), (5, _)]) (pc' := 125) rfl rfl rfl ?_
      refine er_loc (pc' := 126) rfl rfl rfl ?_
      refine er_loc (pc' := 128) rfl rfl rfl ?_
      refine er_iadd (pc' := 129) rfl rfl ?_
      refine er_loc (L' := [(3, _), (4, _), (6, _), (0, _), (1, _), (2, _), (5, _)]) (pc' := 130) rfl rfl rfl ?_
      refine er_loc (L' := [(5, .int (_ + nI 1)), (3, _), (4, _), (6, _), (0, _), (1, _), (2, _)]) (pc' := 133) rfl rfl rfl ?_
      refine er_goto rfl ?_
      refine ER_loc [(0, _), (1, _), (2, _), (3, _), (4, _), (5, _)] rfl (List.forall_mem_cons.mpr ⟨rfl, List.forall_mem_cons.mpr ⟨rfl, List.forall_mem_cons.mpr ⟨rfl, List.forall_mem_cons.mpr ⟨rfl, List.forall_mem_cons.mpr ⟨rfl, List.forall_mem_cons.mpr ⟨rfl, fun _ h => absurd h List.not_mem_nil⟩⟩⟩⟩⟩⟩) rfl rfl ?_
      exact l_os_loop d hI hT9 ha w hg hg4 X1 ho hj P hP m (i + 1) _ _ _ _ (by omega) (nI_add i 1)
    · refine er_loc (pc' := 113) rfl rfl rfl ?_
      refine er_if_le (pc' := 116) rfl rfl (fun h113 => ?_) (fun h113 => ?_)
      · refine er_loc (pc' := 123) rfl rfl rfl ?_
        refine er_loc (L' := [(4, _), (6, _), (0, _), (1, _), (2, _), (3, _), (5, _)]) (pc' := 125) rfl rfl rfl ?_
        refine er_loc (pc' := 126) rfl rfl rfl ?_
        refine er_loc (pc' := 128) rfl rfl rfl ?_
        refine er_iadd (pc' := 129) rfl rfl ?_
        refine er_loc (L' := [(3, _), (4, _), (6, _), (0, _), (1, _), (2, _), (5, _)]) (pc' := 130) rfl rfl rfl ?_
        refine er_loc (L' := [(5, .int (_ + nI 1)), (3, _), (4, _), (6, _), (0, _), (1, _), (2, _)]) (pc' := 133) rfl rfl rfl ?_
        refine er_goto rfl ?_
        refine ER_loc [(0, _), (1, _), (2, _), (3, _), (4, _), (5, _)] rfl (List.forall_mem_cons.mpr ⟨rfl, List.forall_mem_cons.mpr ⟨rfl, List.forall_mem_cons.mpr ⟨rfl, List.forall_mem_cons.mpr ⟨rfl, List.forall_mem_cons.mpr ⟨rfl, List.forall_mem_cons.mpr ⟨rfl, fun _ h => absurd h List.not_mem_nil⟩⟩⟩⟩⟩⟩) rfl rfl ?_
        exact l_os_loop d hI hT9 ha w hg hg4 X1 ho hj P hP m (i + 1) _ _ _ _ (by omega) (nI_add i 1)
      · refine er_loc (pc' := 118) rfl rfl rfl ?_
        refine er_goto rfl ?_
        refine er_loc (L' := [(4, _), (6, _), (0, _), (1, _), (2, _), (3, _), (5, _)]) (pc' := 125) rfl rfl rfl ?_
        refine er_loc (pc' := 126) rfl rfl rfl ?_
        refine er_loc (pc' := 128) rfl rfl rfl ?_
        refine er_iadd (pc' := 129) rfl rfl ?_
        refine er_loc (L' := [(3, _), (4, _), (6, _), (0, _), (1, _), (2, _), (5, _)]) (pc' := 130) rfl rfl rfl ?_
        refine er_loc (L' := [(5, .int (_ + nI 1)), (3, _), (4, _), (6, _), (0, _), (1, _), (2, _)]) (pc' := 133) rfl rfl rfl ?_
        refine er_goto rfl ?_
        refine ER_loc [(0, _), (1, _), (2, _), (3, _), (4, _), (5, _)] rfl (List.forall_mem_cons.mpr ⟨rfl, List.forall_mem_cons.mpr ⟨rfl, List.forall_mem_cons.mpr ⟨rfl, List.forall_mem_cons.mpr ⟨rfl, List.forall_mem_cons.mpr ⟨rfl, List.forall_mem_cons.mpr ⟨rfl, fun _ h => absurd h List.not_mem_nil⟩⟩⟩⟩⟩⟩) rfl rfl ?_
        exact l_os_loop d hI hT9 ha w hg hg4 X1 ho hj P hP m (i + 1) _ _ _ _ (by omega) (nI_add i 1)
set_option maxRecDepth 100000 in
set_option maxHeartbeats 4000000 in
theorem l_orders_no (d : Nat) (X Z : Nat → Nat → Int32) (s w : Int32) (hs : (sIn s (nI 0) (nI 3) && sIn w (nI 0) (nI 1)) = false) : EC (d + 3) 105 [.ref 0, .int s, .int w] (Wd X Z) (RI (sErr 1) (xErr X 1)) := by
  refine er_enter (L := [(0, _), (1, _), (2, _)]) rfl rfl rfl ?_
  refine er_loc (pc' := 1) rfl rfl rfl ?_
  refine er_cSi (pc' := 4) (rest := []) rfl rfl rfl (l_xSheet _ _ _) ?_
  refine er_if_eqb (pc' := 7) rfl rfl (fun h4 => ?_) (fun h4 => ?_)
  · refine er_loc (pc' := 17) rfl rfl rfl ?_
    refine er_k (pc' := 18) (nI 1) rfl rfl rfl ?_
    refine er_cIz (pc' := 21) (rest := []) 11 rfl rfl rfl rfl rfl rfl (l_error _ _ _ 1 (by decide)) ?_
    intro Z9
    refine er_iret rfl rfl ?_
    exact RI_of rfl rfl
  · refine er_loc (pc' := 8) rfl rfl rfl ?_
    refine er_k (pc' := 9) (nI 0) rfl rfl rfl ?_
    refine er_k (pc' := 10) (nI 1) rfl rfl rfl ?_
    refine er_cSi (pc' := 13) (rest := []) rfl rfl rfl (l_within _ _ _ _ _) ?_
    refine er_if_neb (pc' := 16) rfl rfl (fun h13 => ?_) (fun h13 => ?_)
    · exfalso; rw [h4, h13] at hs; cases hs
    · refine er_loc (pc' := 17) rfl rfl rfl ?_
      refine er_k (pc' := 18) (nI 1) rfl rfl rfl ?_
      refine er_cIz (pc' := 21) (rest := []) 11 rfl rfl rfl rfl rfl rfl (l_error _ _ _ 1 (by decide)) ?_
      intro Z9
      refine er_iret rfl rfl ?_
      exact RI_of rfl rfl
set_option maxRecDepth 100000 in
set_option maxHeartbeats 4000000 in
theorem l_orders (d : Nat) (X Z : Nat → Nat → Int32) {T : Nat} (hI : IJ T (jx X 9)) (hT9 : T < 1000000) {a : Nat} (ha : a < 4) (w : Int32) (hw : sIn w (nI 0) (nI 1) = true) {g : Nat} (hg : X 59 a = nI g) (h40 : g ≤ 40) : EC (d + 12) 105 [.ref 0, .int (nI a), .int w] (Wd X Z) (OsP X) := by
  refine er_enter (L := [(0, _), (1, _), (2, _)]) rfl rfl rfl ?_
  refine er_loc (pc' := 1) rfl rfl rfl ?_
  refine er_cSi (pc' := 4) (rest := []) rfl rfl rfl (l_xSheet _ _ _) ?_
  rw [show sIn (nI a) (nI 0) (nI 3) = true from sIn_t (by omega) (by omega) (by omega)]
  refine er_if_eqF (pc' := 7) rfl (by decide +kernel) rfl ?_
  refine er_loc (pc' := 8) rfl rfl rfl ?_
  refine er_k (pc' := 9) (nI 0) rfl rfl rfl ?_
  refine er_k (pc' := 10) (nI 1) rfl rfl rfl ?_
  refine er_cSi (pc' := 13) (rest := []) rfl rfl rfl (l_within _ _ _ _ _) ?_
  rw [hw]
  refine er_if_neT rfl (by decide +kernel) ?_
  refine er_loc (pc' := 23) rfl rfl rfl ?_
  refine er_gf (pc' := 26) (_) rfl rfl rfl rfl rfl ?_
  refine er_loc (pc' := 27) rfl rfl rfl ?_
  refine er_ia (pc' := 28) (a) rfl rfl rfl rfl ha rfl rfl ?_
  refine er_if_eq (pc' := 31) rfl rfl (fun h28 => ?_) (fun h28 => ?_)
  · refine er_loc (pc' := 46) rfl rfl rfl ?_
    refine er_k (pc' := 47) (nI 2) rfl rfl rfl ?_
    refine er_cIz (pc' := 50) (rest := []) 11 rfl rfl rfl rfl rfl rfl (l_error _ _ _ 2 (by decide)) ?_
    intro Z9
    refine er_iret rfl rfl ?_
    exact ⟨_, _, _, rfl, Or.inr ⟨X, OT.rf X, rfl⟩⟩
  · refine er_loc (pc' := 32) rfl rfl rfl ?_
    refine er_gf (pc' := 35) (_) rfl rfl rfl rfl rfl ?_
    refine er_loc (pc' := 36) rfl rfl rfl ?_
    refine er_ia (pc' := 37) (a) rfl rfl rfl rfl ha rfl rfl ?_
    rw [hg]
    refine er_k (pc' := 38) (nI 1) rfl rfl rfl ?_
    refine er_k (pc' := 39) (nI 4) rfl rfl rfl ?_
    refine er_cSi (pc' := 42) (rest := []) rfl rfl rfl (l_within _ _ _ _ _) ?_
    refine er_if_neb (pc' := 45) rfl rfl (fun h42 => ?_) (fun h42 => ?_)
    · have hg4 : g ≤ 4 := by
        obtain ⟨j, _, h2, h3⟩ := sIn_ex (by omega) (by omega) h42
        have := (nI_eq (by omega) (by omega)).mp h3
        omega
      refine er_k (pc' := 52) (nI 0) rfl rfl rfl ?_
      refine er_loc (pc' := 53) (L' := [(3, _), (0, _), (1, _), (2, _)]) rfl rfl rfl ?_
      refine er_k (pc' := 54) (-1) rfl rfl rfl ?_
      refine er_loc (pc' := 56) (L' := [(4, _), (3, _), (0, _), (1, _), (2, _)]) rfl rfl rfl ?_
      refine er_loc (pc' := 57) rfl rfl rfl ?_
      refine er_gf (pc' := 60) (_) rfl rfl rfl rfl rfl ?_
      refine er_loc (pc' := 61) rfl rfl rfl ?_
      refine er_gf (pc' := 64) (_) rfl rfl rfl rfl rfl ?_
      refine er_cIt (pc' := 67) (rest := []) 7 rfl rfl rfl rfl rfl rfl (l_take_35_9 _ _ _ hI) ?_
      intro X1 Z1 hj1 ho1
      refine er_k (pc' := 68) (nI 0) rfl rfl rfl ?_
      refine er_loc (pc' := 70) (L' := [(5, _), (4, _), (3, _), (0, _), (1, _), (2, _)]) rfl rfl rfl ?_
      refine ER_loc [(0, _), (1, _), (2, _), (3, _), (4, _), (5, _)] rfl (List.forall_mem_cons.mpr ⟨rfl, List.forall_mem_cons.mpr ⟨rfl, List.forall_mem_cons.mpr ⟨rfl, List.forall_mem_cons.mpr ⟨rfl, List.forall_mem_cons.mpr ⟨rfl, List.forall_mem_cons.mpr ⟨rfl, fun _ h => absurd h List.not_mem_nil⟩⟩⟩⟩⟩⟩) rfl rfl ?_
      exact l_os_loop d hI hT9 ha w hg hg4 X1 ho1 hj1 _ (fun _ h => h) (jn (jx X 9)) 0 _ _ _ Z1 (by omega) rfl
    · refine er_loc (pc' := 46) rfl rfl rfl ?_
      refine er_k (pc' := 47) (nI 2) rfl rfl rfl ?_
      refine er_cIz (pc' := 50) (rest := []) 11 rfl rfl rfl rfl rfl rfl (l_error _ _ _ 2 (by decide)) ?_
      intro Z9
      refine er_iret rfl rfl ?_
      exact ⟨_, _, _, rfl, Or.inr ⟨X, OT.rf X, rfl⟩⟩
