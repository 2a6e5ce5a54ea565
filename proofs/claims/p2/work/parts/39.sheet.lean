/-! THE FACE: SHEETS, more -/
def zr (f : Nat → Int32) (i : Nat) : Nat → Int32 := fun j => if j < i then nI 0 else f j
theorem zr_0 (f : Nat → Int32) : zr f 0 = f := by
  funext j
  unfold zr
  rw [if_neg (by omega)]
theorem zr_succ (f : Nat → Int32) (i : Nat) : u1 (zr f i) i (nI 0) = zr f (i + 1) := by
  funext j
  unfold zr u1
  by_cases h : j = i
  · subst h; rw [if_pos rfl, if_pos (by omega)]
  · rw [if_neg h]
    by_cases h2 : j < i
    · show (if j < i then nI 0 else f j) = _
      rw [if_pos h2, if_pos (by omega)]
    · show (if j < i then nI 0 else f j) = _
      rw [if_neg h2, if_neg (by omega)]
def sBits (b : Int32) : Bool := decide (b = 0) || (decide (b = nI 8) || (decide (b = nI 16) || decide (b = nI 32)))
def xSheet (X : Nat → Nat → Int32) (a : Nat) (b n : Int32) (i : Nat) : Nat → Nat → Int32 := uc (ud (ud X 60 a b) 59 a n) (55 + a) (zr (X (55 + a)) i)
theorem xSheet_row {X : Nat → Nat → Int32} {a : Nat} {b n : Int32} {i : Nat} : ud (xSheet X a b n i) (55 + a) i (nI 0) = xSheet X a b n (i + 1) := by
  unfold xSheet ud
  rw [uc_same, uc_uc, zr_succ]
theorem xSheet_0 {X : Nat → Nat → Int32} {a : Nat} {b n : Int32} (ha : a < 4) : xSheet X a b n 0 = ud (ud X 60 a b) 59 a n := by
  unfold xSheet
  rw [zr_0]
  have e : ud (ud X 60 a b) 59 a n (55 + a) = X (55 + a) := by rw [ud_ne (by omega), ud_ne (by omega)]
  rw [← e, uc_id]
set_option maxRecDepth 100000 in
set_option maxHeartbeats 4000000 in
theorem l_sheet_loop (d : Nat) (X Z : Nat → Nat → Int32) {a : Nat} (ha : a < 4) (b n : Int32) : ∀ (m i : Nat) (x : Int32), i + m = 40 → x = nI i → ER (d + 2) tb_m112 98 [(0, .ref 0), (1, .int (nI a)), (5, .int x)] [] (Wd (xSheet X a b n i) Z) (RI (nI 1) (xSheet X a b n 40))
  | 0, i, x, hi, hx => by
    have hi0 : i = 40 := by omega
    subst hx
    subst hi0
    refine er_loc (pc' := 100) rfl rfl rfl ?_
    refine er_k (pc' := 102) (nI 40) rfl rfl rfl ?_
    refine er_cm_geT rfl (nI_nlt (by omega) (by omega)) ?_
    refine er_k (pc' := 122) (nI 1) rfl rfl rfl ?_
    refine er_iret rfl rfl ?_
    exact RI_of rfl rfl
  | m + 1, i, x, hi, hx => by
    subst hx
    refine er_loc (pc' := 100) rfl rfl rfl ?_
    refine er_k (pc' := 102) (nI 40) rfl rfl rfl ?_
    refine er_cm_geF (pc' := 105) rfl (nI_lt (by omega) (by omega)) rfl ?_
    refine er_loc (pc' := 106) rfl rfl rfl ?_
    refine er_gf (pc' := 109) (_) rfl rfl rfl rfl rfl ?_
    refine er_loc (pc' := 110) rfl rfl rfl ?_
    refine er_aa (pc' := 111) (a) rfl rfl rfl rfl rfl ha rfl rfl ?_
    refine er_loc (pc' := 113) rfl rfl rfl ?_
    refine er_k (pc' := 114) (nI 0) rfl rfl rfl ?_
    refine er_isX (pc' := 115) (i) rfl (blt_R ha) (fun f => cO_R ha f _) rfl (by omega) rfl rfl ?_
    refine er_loc (L' := [(5, .int (_ + nI 1)), (0, _), (1, _)]) rfl rfl rfl ?_
    refine er_goto rfl ?_
    refine ER_loc [(0, _), (1, _), (5, _)] rfl (List.forall_mem_cons.mpr ⟨rfl, List.forall_mem_cons.mpr ⟨rfl, List.forall_mem_cons.mpr ⟨rfl, fun _ h => absurd h List.not_mem_nil⟩⟩⟩) rfl rfl ?_
    rw [xSheet_row]
    exact l_sheet_loop d X Z ha b n m (i + 1) _ (by omega) (nI_add i 1)
set_option maxRecDepth 100000 in
set_option maxHeartbeats 4000000 in
theorem l_sheet_no (d : Nat) (X Z : Nat → Nat → Int32) (s b n : Int32) (hs : (sIn s (nI 0) (nI 3) && sBits b) = false) : EC (d + 3) 112 [.ref 0, .int s, .int b, .int n] (Wd X Z) (RI (sErr 1) (xErr X 1)) := by
  refine er_enter (L := [(0, _), (1, _), (2, _), (3, _)]) rfl rfl rfl ?_
  refine er_loc (pc' := 1) rfl rfl rfl ?_
  refine er_if_eq (pc' := 4) rfl rfl (fun h1 => ?_) (fun h1 => ?_)
  · refine er_k (pc' := 23) (nI 1) rfl rfl rfl ?_
    refine er_goto rfl ?_
    refine er_loc (pc' := 29) (L' := [(4, _), (0, _), (1, _), (2, _), (3, _)]) rfl rfl rfl ?_
    refine er_loc (pc' := 30) rfl rfl rfl ?_
    refine er_cSi (pc' := 33) (rest := []) rfl rfl rfl (l_xSheet _ _ _) ?_
    refine er_if_eqb (pc' := 36) rfl rfl (fun h33 => ?_) (fun h33 => ?_)
    · refine er_loc (pc' := 42) rfl rfl rfl ?_
      refine er_k (pc' := 43) (nI 1) rfl rfl rfl ?_
      refine er_cIz (pc' := 46) (rest := []) 11 rfl rfl rfl rfl rfl rfl (l_error _ _ _ 1 (by decide)) ?_
      intro Z9
      refine er_iret rfl rfl ?_
      exact RI_of rfl rfl
    · refine er_loc (pc' := 38) rfl rfl rfl ?_
      refine er_if_neT rfl (by decide +kernel) ?_
      exfalso
      rw [h33] at hs
      unfold sBits at hs
      simp only [Bool.true_and, Bool.or_eq_false_iff, decide_eq_false_iff_not] at hs
      first | exact hs.1 h1 | exact hs.2.1 h7 | exact hs.2.2.1 h13 | exact hs.2.2.2 h19
  · refine er_loc (pc' := 5) rfl rfl rfl ?_
    refine er_k (pc' := 7) (nI 8) rfl rfl rfl ?_
    refine er_cm_eq (pc' := 10) rfl rfl (fun h7 => ?_) (fun h7 => ?_)
    · refine er_k (pc' := 23) (nI 1) rfl rfl rfl ?_
      refine er_goto rfl ?_
      refine er_loc (pc' := 29) (L' := [(4, _), (0, _), (1, _), (2, _), (3, _)]) rfl rfl rfl ?_
      refine er_loc (pc' := 30) rfl rfl rfl ?_
      refine er_cSi (pc' := 33) (rest := []) rfl rfl rfl (l_xSheet _ _ _) ?_
      refine er_if_eqb (pc' := 36) rfl rfl (fun h33 => ?_) (fun h33 => ?_)
      · refine er_loc (pc' := 42) rfl rfl rfl ?_
        refine er_k (pc' := 43) (nI 1) rfl rfl rfl ?_
        refine er_cIz (pc' := 46) (rest := []) 11 rfl rfl rfl rfl rfl rfl (l_error _ _ _ 1 (by decide)) ?_
        intro Z9
        refine er_iret rfl rfl ?_
        exact RI_of rfl rfl
      · refine er_loc (pc' := 38) rfl rfl rfl ?_
        refine er_if_neT rfl (by decide +kernel) ?_
        exfalso
        rw [h33] at hs
        unfold sBits at hs
        simp only [Bool.true_and, Bool.or_eq_false_iff, decide_eq_false_iff_not] at hs
        first | exact hs.1 h1 | exact hs.2.1 h7 | exact hs.2.2.1 h13 | exact hs.2.2.2 h19
    · refine er_loc (pc' := 11) rfl rfl rfl ?_
      refine er_k (pc' := 13) (nI 16) rfl rfl rfl ?_
      refine er_cm_eq (pc' := 16) rfl rfl (fun h13 => ?_) (fun h13 => ?_)
      · refine er_k (pc' := 23) (nI 1) rfl rfl rfl ?_
        refine er_goto rfl ?_
        refine er_loc (pc' := 29) (L' := [(4, _), (0, _), (1, _), (2, _), (3, _)]) rfl rfl rfl ?_
        refine er_loc (pc' := 30) rfl rfl rfl ?_
        refine er_cSi (pc' := 33) (rest := []) rfl rfl rfl (l_xSheet _ _ _) ?_
        refine er_if_eqb (pc' := 36) rfl rfl (fun h33 => ?_) (fun h33 => ?_)
        · refine er_loc (pc' := 42) rfl rfl rfl ?_
          refine er_k (pc' := 43) (nI 1) rfl rfl rfl ?_
          refine er_cIz (pc' := 46) (rest := []) 11 rfl rfl rfl rfl rfl rfl (l_error _ _ _ 1 (by decide)) ?_
          intro Z9
          refine er_iret rfl rfl ?_
          exact RI_of rfl rfl
        · refine er_loc (pc' := 38) rfl rfl rfl ?_
          refine er_if_neT rfl (by decide +kernel) ?_
          exfalso
          rw [h33] at hs
          unfold sBits at hs
          simp only [Bool.true_and, Bool.or_eq_false_iff, decide_eq_false_iff_not] at hs
          first | exact hs.1 h1 | exact hs.2.1 h7 | exact hs.2.2.1 h13 | exact hs.2.2.2 h19
      · refine er_loc (pc' := 17) rfl rfl rfl ?_
        refine er_k (pc' := 19) (nI 32) rfl rfl rfl ?_
        refine er_cm_ne (pc' := 22) rfl rfl (fun h19 => ?_) (fun h19 => ?_)
        · refine er_k (pc' := 27) (nI 0) rfl rfl rfl ?_
          refine er_loc (pc' := 29) (L' := [(4, _), (0, _), (1, _), (2, _), (3, _)]) rfl rfl rfl ?_
          refine er_loc (pc' := 30) rfl rfl rfl ?_
          refine er_cSi (pc' := 33) (rest := []) rfl rfl rfl (l_xSheet _ _ _) ?_
          refine er_if_eqb (pc' := 36) rfl rfl (fun h33 => ?_) (fun h33 => ?_)
          · refine er_loc (pc' := 42) rfl rfl rfl ?_
            refine er_k (pc' := 43) (nI 1) rfl rfl rfl ?_
            refine er_cIz (pc' := 46) (rest := []) 11 rfl rfl rfl rfl rfl rfl (l_error _ _ _ 1 (by decide)) ?_
            intro Z9
            refine er_iret rfl rfl ?_
            exact RI_of rfl rfl
          · refine er_loc (pc' := 38) rfl rfl rfl ?_
            refine er_if_neF (pc' := 41) rfl (by decide +kernel) rfl ?_
            refine er_loc (pc' := 42) rfl rfl rfl ?_
            refine er_k (pc' := 43) (nI 1) rfl rfl rfl ?_
            refine er_cIz (pc' := 46) (rest := []) 11 rfl rfl rfl rfl rfl rfl (l_error _ _ _ 1 (by decide)) ?_
            intro Z9
            refine er_iret rfl rfl ?_
            exact RI_of rfl rfl
        · refine er_k (pc' := 23) (nI 1) rfl rfl rfl ?_
          refine er_goto rfl ?_
          refine er_loc (pc' := 29) (L' := [(4, _), (0, _), (1, _), (2, _), (3, _)]) rfl rfl rfl ?_
          refine er_loc (pc' := 30) rfl rfl rfl ?_
          refine er_cSi (pc' := 33) (rest := []) rfl rfl rfl (l_xSheet _ _ _) ?_
          refine er_if_eqb (pc' := 36) rfl rfl (fun h33 => ?_) (fun h33 => ?_)
          · refine er_loc (pc' := 42) rfl rfl rfl ?_
            refine er_k (pc' := 43) (nI 1) rfl rfl rfl ?_
            refine er_cIz (pc' := 46) (rest := []) 11 rfl rfl rfl rfl rfl rfl (l_error _ _ _ 1 (by decide)) ?_
            intro Z9
            refine er_iret rfl rfl ?_
            exact RI_of rfl rfl
          · refine er_loc (pc' := 38) rfl rfl rfl ?_
            refine er_if_neT rfl (by decide +kernel) ?_
            exfalso
            rw [h33] at hs
            unfold sBits at hs
            simp only [Bool.true_and, Bool.or_eq_false_iff, decide_eq_false_iff_not] at hs
            first | exact hs.1 h1 | exact hs.2.1 h7 | exact hs.2.2.1 h13 | exact hs.2.2.2 h19
set_option maxRecDepth 100000 in
set_option maxHeartbeats 4000000 in
theorem l_sheet (d : Nat) (X Z : Nat → Nat → Int32) {a : Nat} (ha : a < 4) (b n : Int32) (hb : sBits b = true) : EC (d + 3) 112 [.ref 0, .int (nI a), .int b, .int n] (Wd X Z) (fun r => if b = 0 then RI (nI 1) (xSheet X a b (nI 0) 40) r else if n < 0 then RI (sErr 3) (xErr X 3) r else if nI 40 < n then RI (sErr 1) (xErr X 1) r else RI (nI 1) (xSheet X a b n 40) r) := by
  obtain ⟨g, hg⟩ : ∃ g : Int32, g = if b = 0 then nI 0 else n := ⟨_, rfl⟩
  refine er_enter (L := [(0, _), (1, _), (2, _), (3, _)]) rfl rfl rfl ?_
  refine er_loc (pc' := 1) rfl rfl rfl ?_
  refine er_if_eq (pc' := 4) rfl rfl (fun h1 => ?_) (fun h1 => ?_)
  · refine er_k (pc' := 23) (nI 1) rfl rfl rfl ?_
    refine er_goto rfl ?_
    refine er_loc (pc' := 29) (L' := [(4, _), (0, _), (1, _), (2, _), (3, _)]) rfl rfl rfl ?_
    refine er_loc (pc' := 30) rfl rfl rfl ?_
    refine er_cSi (pc' := 33) (rest := []) rfl rfl rfl (l_xSheet _ _ _) ?_
    rw [show sIn (nI a) (nI 0) (nI 3) = true from sIn_t (by omega) (by omega) (by omega)]
    refine er_if_eqF (pc' := 36) rfl (by decide +kernel) rfl ?_
    refine er_loc (pc' := 38) rfl rfl rfl ?_
    refine er_if_neT rfl (by decide +kernel) ?_
    refine er_loc (pc' := 48) rfl rfl rfl ?_
    refine er_if_eq (pc' := 51) rfl rfl (fun h48 => ?_) (fun h48 => ?_)
    · refine er_loc (pc' := 74) rfl rfl rfl ?_
      refine er_gf (pc' := 77) (_) rfl rfl rfl rfl rfl ?_
      refine er_loc (pc' := 78) rfl rfl rfl ?_
      refine er_loc (pc' := 79) rfl rfl rfl ?_
      refine er_isX (pc' := 80) (a) rfl rfl (fun _ => rfl) rfl ha rfl rfl ?_
      refine er_loc (pc' := 81) rfl rfl rfl ?_
      refine er_gf (pc' := 84) (_) rfl rfl rfl rfl rfl ?_
      refine er_loc (pc' := 85) rfl rfl rfl ?_
      refine er_loc (pc' := 86) rfl rfl rfl ?_
      refine er_if_ne (pc' := 89) rfl rfl (fun h86 => ?_) (fun h86 => ?_)
      · refine er_loc (pc' := 94) rfl rfl rfl ?_
        refine er_isX (pc' := 95) (a) rfl rfl (fun _ => rfl) rfl ha rfl rfl ?_
        refine er_k (pc' := 96) (nI 0) rfl rfl rfl ?_
        refine er_loc (pc' := 98) (L' := [(5, _), (4, _), (0, _), (1, _), (2, _), (3, _)]) rfl rfl rfl ?_
        refine ER_loc [(0, _), (1, _), (5, _)] rfl (List.forall_mem_cons.mpr ⟨rfl, List.forall_mem_cons.mpr ⟨rfl, List.forall_mem_cons.mpr ⟨rfl, fun _ h => absurd h List.not_mem_nil⟩⟩⟩) rfl rfl ?_
        rw [← xSheet_0 ha]
        refine ER.mono (l_sheet_loop d X Z ha b _ 40 0 _ (by omega) rfl) (fun r hr => ?_)
        first | exact absurd h48 h86 | exact absurd h86 h48 | (rw [if_pos h48]; exact hr) | (rw [if_pos h86]; exact hr) | (rw [if_neg h48, if_neg h52, if_neg h64]; exact hr)
      · refine er_k (pc' := 90) (nI 0) rfl rfl rfl ?_
        refine er_goto rfl ?_
        refine er_isX (pc' := 95) (a) rfl rfl (fun _ => rfl) rfl ha rfl rfl ?_
        refine er_k (pc' := 96) (nI 0) rfl rfl rfl ?_
        refine er_loc (pc' := 98) (L' := [(5, _), (4, _), (0, _), (1, _), (2, _), (3, _)]) rfl rfl rfl ?_
        refine ER_loc [(0, _), (1, _), (5, _)] rfl (List.forall_mem_cons.mpr ⟨rfl, List.forall_mem_cons.mpr ⟨rfl, List.forall_mem_cons.mpr ⟨rfl, fun _ h => absurd h List.not_mem_nil⟩⟩⟩) rfl rfl ?_
        rw [← xSheet_0 ha]
        refine ER.mono (l_sheet_loop d X Z ha b _ 40 0 _ (by omega) rfl) (fun r hr => ?_)
        first | exact absurd h48 h86 | exact absurd h86 h48 | (rw [if_pos h48]; exact hr) | (rw [if_pos h86]; exact hr) | (rw [if_neg h48, if_neg h52, if_neg h64]; exact hr)
    · refine er_loc (pc' := 52) rfl rfl rfl ?_
      refine er_if_ge (pc' := 55) rfl rfl (fun h52 => ?_) (fun h52 => ?_)
      · refine er_loc (pc' := 62) rfl rfl rfl ?_
        refine er_k (pc' := 64) (nI 40) rfl rfl rfl ?_
        refine er_cm_le (pc' := 67) rfl rfl (fun h64 => ?_) (fun h64 => ?_)
        · refine er_loc (pc' := 74) rfl rfl rfl ?_
          refine er_gf (pc' := 77) (_) rfl rfl rfl rfl rfl ?_
          refine er_loc (pc' := 78) rfl rfl rfl ?_
          refine er_loc (pc' := 79) rfl rfl rfl ?_
          refine er_isX (pc' := 80) (a) rfl rfl (fun _ => rfl) rfl ha rfl rfl ?_
          refine er_loc (pc' := 81) rfl rfl rfl ?_
          refine er_gf (pc' := 84) (_) rfl rfl rfl rfl rfl ?_
          refine er_loc (pc' := 85) rfl rfl rfl ?_
          refine er_loc (pc' := 86) rfl rfl rfl ?_
          refine er_if_ne (pc' := 89) rfl rfl (fun h86 => ?_) (fun h86 => ?_)
          · refine er_loc (pc' := 94) rfl rfl rfl ?_
            refine er_isX (pc' := 95) (a) rfl rfl (fun _ => rfl) rfl ha rfl rfl ?_
            refine er_k (pc' := 96) (nI 0) rfl rfl rfl ?_
            refine er_loc (pc' := 98) (L' := [(5, _), (4, _), (0, _), (1, _), (2, _), (3, _)]) rfl rfl rfl ?_
            refine ER_loc [(0, _), (1, _), (5, _)] rfl (List.forall_mem_cons.mpr ⟨rfl, List.forall_mem_cons.mpr ⟨rfl, List.forall_mem_cons.mpr ⟨rfl, fun _ h => absurd h List.not_mem_nil⟩⟩⟩) rfl rfl ?_
            rw [← xSheet_0 ha]
            refine ER.mono (l_sheet_loop d X Z ha b _ 40 0 _ (by omega) rfl) (fun r hr => ?_)
            first | exact absurd h48 h86 | exact absurd h86 h48 | (rw [if_pos h48]; exact hr) | (rw [if_pos h86]; exact hr) | (rw [if_neg h48, if_neg h52, if_neg h64]; exact hr)
          · refine er_k (pc' := 90) (nI 0) rfl rfl rfl ?_
            refine er_goto rfl ?_
            refine er_isX (pc' := 95) (a) rfl rfl (fun _ => rfl) rfl ha rfl rfl ?_
            refine er_k (pc' := 96) (nI 0) rfl rfl rfl ?_
            refine er_loc (pc' := 98) (L' := [(5, _), (4, _), (0, _), (1, _), (2, _), (3, _)]) rfl rfl rfl ?_
            refine ER_loc [(0, _), (1, _), (5, _)] rfl (List.forall_mem_cons.mpr ⟨rfl, List.forall_mem_cons.mpr ⟨rfl, List.forall_mem_cons.mpr ⟨rfl, fun _ h => absurd h List.not_mem_nil⟩⟩⟩) rfl rfl ?_
            rw [← xSheet_0 ha]
            refine ER.mono (l_sheet_loop d X Z ha b _ 40 0 _ (by omega) rfl) (fun r hr => ?_)
            first | exact absurd h48 h86 | exact absurd h86 h48 | (rw [if_pos h48]; exact hr) | (rw [if_pos h86]; exact hr) | (rw [if_neg h48, if_neg h52, if_neg h64]; exact hr)
        · refine er_loc (pc' := 68) rfl rfl rfl ?_
          refine er_k (pc' := 69) (nI 1) rfl rfl rfl ?_
          refine er_cIz (pc' := 72) (rest := []) 11 rfl rfl rfl rfl rfl rfl (l_error _ _ _ 1 (by decide)) ?_
          intro Z9
          refine er_iret rfl rfl ?_
          rw [if_neg h48, if_neg h52, if_pos h64]
          exact RI_of rfl rfl
      · refine er_loc (pc' := 56) rfl rfl rfl ?_
        refine er_k (pc' := 57) (nI 3) rfl rfl rfl ?_
        refine er_cIz (pc' := 60) (rest := []) 11 rfl rfl rfl rfl rfl rfl (l_error _ _ _ 3 (by decide)) ?_
        intro Z9
        refine er_iret rfl rfl ?_
        rw [if_neg h48, if_pos h52]
        exact RI_of rfl rfl
  · refine er_loc (pc' := 5) rfl rfl rfl ?_
    refine er_k (pc' := 7) (nI 8) rfl rfl rfl ?_
    refine er_cm_eq (pc' := 10) rfl rfl (fun h7 => ?_) (fun h7 => ?_)
    · refine er_k (pc' := 23) (nI 1) rfl rfl rfl ?_
      refine er_goto rfl ?_
      refine er_loc (pc' := 29) (L' := [(4, _), (0, _), (1, _), (2, _), (3, _)]) rfl rfl rfl ?_
      refine er_loc (pc' := 30) rfl rfl rfl ?_
      refine er_cSi (pc' := 33) (rest := []) rfl rfl rfl (l_xSheet _ _ _) ?_
      rw [show sIn (nI a) (nI 0) (nI 3) = true from sIn_t (by omega) (by omega) (by omega)]
      refine er_if_eqF (pc' := 36) rfl (by decide +kernel) rfl ?_
      refine er_loc (pc' := 38) rfl rfl rfl ?_
      refine er_if_neT rfl (by decide +kernel) ?_
      refine er_loc (pc' := 48) rfl rfl rfl ?_
      refine er_if_eq (pc' := 51) rfl rfl (fun h48 => ?_) (fun h48 => ?_)
      · refine er_loc (pc' := 74) rfl rfl rfl ?_
        refine er_gf (pc' := 77) (_) rfl rfl rfl rfl rfl ?_
        refine er_loc (pc' := 78) rfl rfl rfl ?_
        refine er_loc (pc' := 79) rfl rfl rfl ?_
        refine er_isX (pc' := 80) (a) rfl rfl (fun _ => rfl) rfl ha rfl rfl ?_
        refine er_loc (pc' := 81) rfl rfl rfl ?_
        refine er_gf (pc' := 84) (_) rfl rfl rfl rfl rfl ?_
        refine er_loc (pc' := 85) rfl rfl rfl ?_
        refine er_loc (pc' := 86) rfl rfl rfl ?_
        refine er_if_ne (pc' := 89) rfl rfl (fun h86 => ?_) (fun h86 => ?_)
        · refine er_loc (pc' := 94) rfl rfl rfl ?_
          refine er_isX (pc' := 95) (a) rfl rfl (fun _ => rfl) rfl ha rfl rfl ?_
          refine er_k (pc' := 96) (nI 0) rfl rfl rfl ?_
          refine er_loc (pc' := 98) (L' := [(5, _), (4, _), (0, _), (1, _), (2, _), (3, _)]) rfl rfl rfl ?_
          refine ER_loc [(0, _), (1, _), (5, _)] rfl (List.forall_mem_cons.mpr ⟨rfl, List.forall_mem_cons.mpr ⟨rfl, List.forall_mem_cons.mpr ⟨rfl, fun _ h => absurd h List.not_mem_nil⟩⟩⟩) rfl rfl ?_
          rw [← xSheet_0 ha]
          refine ER.mono (l_sheet_loop d X Z ha b _ 40 0 _ (by omega) rfl) (fun r hr => ?_)
          first | exact absurd h48 h86 | exact absurd h86 h48 | (rw [if_pos h48]; exact hr) | (rw [if_pos h86]; exact hr) | (rw [if_neg h48, if_neg h52, if_neg h64]; exact hr)
        · refine er_k (pc' := 90) (nI 0) rfl rfl rfl ?_
          refine er_goto rfl ?_
          refine er_isX (pc' := 95) (a) rfl rfl (fun _ => rfl) rfl ha rfl rfl ?_
          refine er_k (pc' := 96) (nI 0) rfl rfl rfl ?_
          refine er_loc (pc' := 98) (L' := [(5, _), (4, _), (0, _), (1, _), (2, _), (3, _)]) rfl rfl rfl ?_
          refine ER_loc [(0, _), (1, _), (5, _)] rfl (List.forall_mem_cons.mpr ⟨rfl, List.forall_mem_cons.mpr ⟨rfl, List.forall_mem_cons.mpr ⟨rfl, fun _ h => absurd h List.not_mem_nil⟩⟩⟩) rfl rfl ?_
          rw [← xSheet_0 ha]
          refine ER.mono (l_sheet_loop d X Z ha b _ 40 0 _ (by omega) rfl) (fun r hr => ?_)
          first | exact absurd h48 h86 | exact absurd h86 h48 | (rw [if_pos h48]; exact hr) | (rw [if_pos h86]; exact hr) | (rw [if_neg h48, if_neg h52, if_neg h64]; exact hr)
      · refine er_loc (pc' := 52) rfl rfl rfl ?_
        refine er_if_ge (pc' := 55) rfl rfl (fun h52 => ?_) (fun h52 => ?_)
        · refine er_loc (pc' := 62) rfl rfl rfl ?_
          refine er_k (pc' := 64) (nI 40) rfl rfl rfl ?_
          refine er_cm_le (pc' := 67) rfl rfl (fun h64 => ?_) (fun h64 => ?_)
          · refine er_loc (pc' := 74) rfl rfl rfl ?_
            refine er_gf (pc' := 77) (_) rfl rfl rfl rfl rfl ?_
            refine er_loc (pc' := 78) rfl rfl rfl ?_
            refine er_loc (pc' := 79) rfl rfl rfl ?_
            refine er_isX (pc' := 80) (a) rfl rfl (fun _ => rfl) rfl ha rfl rfl ?_
            refine er_loc (pc' := 81) rfl rfl rfl ?_
            refine er_gf (pc' := 84) (_) rfl rfl rfl rfl rfl ?_
            refine er_loc (pc' := 85) rfl rfl rfl ?_
            refine er_loc (pc' := 86) rfl rfl rfl ?_
            refine er_if_ne (pc' := 89) rfl rfl (fun h86 => ?_) (fun h86 => ?_)
            · refine er_loc (pc' := 94) rfl rfl rfl ?_
              refine er_isX (pc' := 95) (a) rfl rfl (fun _ => rfl) rfl ha rfl rfl ?_
              refine er_k (pc' := 96) (nI 0) rfl rfl rfl ?_
              refine er_loc (pc' := 98) (L' := [(5, _), (4, _), (0, _), (1, _), (2, _), (3, _)]) rfl rfl rfl ?_
              refine ER_loc [(0, _), (1, _), (5, _)] rfl (List.forall_mem_cons.mpr ⟨rfl, List.forall_mem_cons.mpr ⟨rfl, List.forall_mem_cons.mpr ⟨rfl, fun _ h => absurd h List.not_mem_nil⟩⟩⟩) rfl rfl ?_
              rw [← xSheet_0 ha]
              refine ER.mono (l_sheet_loop d X Z ha b _ 40 0 _ (by omega) rfl) (fun r hr => ?_)
              first | exact absurd h48 h86 | exact absurd h86 h48 | (rw [if_pos h48]; exact hr) | (rw [if_pos h86]; exact hr) | (rw [if_neg h48, if_neg h52, if_neg h64]; exact hr)
            · refine er_k (pc' := 90) (nI 0) rfl rfl rfl ?_
              refine er_goto rfl ?_
              refine er_isX (pc' := 95) (a) rfl rfl (fun _ => rfl) rfl ha rfl rfl ?_
              refine er_k (pc' := 96) (nI 0) rfl rfl rfl ?_
              refine er_loc (pc' := 98) (L' := [(5, _), (4, _), (0, _), (1, _), (2, _), (3, _)]) rfl rfl rfl ?_
              refine ER_loc [(0, _), (1, _), (5, _)] rfl (List.forall_mem_cons.mpr ⟨rfl, List.forall_mem_cons.mpr ⟨rfl, List.forall_mem_cons.mpr ⟨rfl, fun _ h => absurd h List.not_mem_nil⟩⟩⟩) rfl rfl ?_
              rw [← xSheet_0 ha]
              refine ER.mono (l_sheet_loop d X Z ha b _ 40 0 _ (by omega) rfl) (fun r hr => ?_)
              first | exact absurd h48 h86 | exact absurd h86 h48 | (rw [if_pos h48]; exact hr) | (rw [if_pos h86]; exact hr) | (rw [if_neg h48, if_neg h52, if_neg h64]; exact hr)
          · refine er_loc (pc' := 68) rfl rfl rfl ?_
            refine er_k (pc' := 69) (nI 1) rfl rfl rfl ?_
            refine er_cIz (pc' := 72) (rest := []) 11 rfl rfl rfl rfl rfl rfl (l_error _ _ _ 1 (by decide)) ?_
            intro Z9
            refine er_iret rfl rfl ?_
            rw [if_neg h48, if_neg h52, if_pos h64]
            exact RI_of rfl rfl
        · refine er_loc (pc' := 56) rfl rfl rfl ?_
          refine er_k (pc' := 57) (nI 3) rfl rfl rfl ?_
          refine er_cIz (pc' := 60) (rest := []) 11 rfl rfl rfl rfl rfl rfl (l_error _ _ _ 3 (by decide)) ?_
          intro Z9
          refine er_iret rfl rfl ?_
          rw [if_neg h48, if_pos h52]
          exact RI_of rfl rfl
    · refine er_loc (pc' := 11) rfl rfl rfl ?_
      refine er_k (pc' := 13) (nI 16) rfl rfl rfl ?_
      refine er_cm_eq (pc' := 16) rfl rfl (fun h13 => ?_) (fun h13 => ?_)
      · refine er_k (pc' := 23) (nI 1) rfl rfl rfl ?_
        refine er_goto rfl ?_
        refine er_loc (pc' := 29) (L' := [(4, _), (0, _), (1, _), (2, _), (3, _)]) rfl rfl rfl ?_
        refine er_loc (pc' := 30) rfl rfl rfl ?_
        refine er_cSi (pc' := 33) (rest := []) rfl rfl rfl (l_xSheet _ _ _) ?_
        rw [show sIn (nI a) (nI 0) (nI 3) = true from sIn_t (by omega) (by omega) (by omega)]
        refine er_if_eqF (pc' := 36) rfl (by decide +kernel) rfl ?_
        refine er_loc (pc' := 38) rfl rfl rfl ?_
        refine er_if_neT rfl (by decide +kernel) ?_
        refine er_loc (pc' := 48) rfl rfl rfl ?_
        refine er_if_eq (pc' := 51) rfl rfl (fun h48 => ?_) (fun h48 => ?_)
        · refine er_loc (pc' := 74) rfl rfl rfl ?_
          refine er_gf (pc' := 77) (_) rfl rfl rfl rfl rfl ?_
          refine er_loc (pc' := 78) rfl rfl rfl ?_
          refine er_loc (pc' := 79) rfl rfl rfl ?_
          refine er_isX (pc' := 80) (a) rfl rfl (fun _ => rfl) rfl ha rfl rfl ?_
          refine er_loc (pc' := 81) rfl rfl rfl ?_
          refine er_gf (pc' := 84) (_) rfl rfl rfl rfl rfl ?_
          refine er_loc (pc' := 85) rfl rfl rfl ?_
          refine er_loc (pc' := 86) rfl rfl rfl ?_
          refine er_if_ne (pc' := 89) rfl rfl (fun h86 => ?_) (fun h86 => ?_)
          · refine er_loc (pc' := 94) rfl rfl rfl ?_
            refine er_isX (pc' := 95) (a) rfl rfl (fun _ => rfl) rfl ha rfl rfl ?_
            refine er_k (pc' := 96) (nI 0) rfl rfl rfl ?_
            refine er_loc (pc' := 98) (L' := [(5, _), (4, _), (0, _), (1, _), (2, _), (3, _)]) rfl rfl rfl ?_
            refine ER_loc [(0, _), (1, _), (5, _)] rfl (List.forall_mem_cons.mpr ⟨rfl, List.forall_mem_cons.mpr ⟨rfl, List.forall_mem_cons.mpr ⟨rfl, fun _ h => absurd h List.not_mem_nil⟩⟩⟩) rfl rfl ?_
            rw [← xSheet_0 ha]
            refine ER.mono (l_sheet_loop d X Z ha b _ 40 0 _ (by omega) rfl) (fun r hr => ?_)
            first | exact absurd h48 h86 | exact absurd h86 h48 | (rw [if_pos h48]; exact hr) | (rw [if_pos h86]; exact hr) | (rw [if_neg h48, if_neg h52, if_neg h64]; exact hr)
          · refine er_k (pc' := 90) (nI 0) rfl rfl rfl ?_
            refine er_goto rfl ?_
            refine er_isX (pc' := 95) (a) rfl rfl (fun _ => rfl) rfl ha rfl rfl ?_
            refine er_k (pc' := 96) (nI 0) rfl rfl rfl ?_
            refine er_loc (pc' := 98) (L' := [(5, _), (4, _), (0, _), (1, _), (2, _), (3, _)]) rfl rfl rfl ?_
            refine ER_loc [(0, _), (1, _), (5, _)] rfl (List.forall_mem_cons.mpr ⟨rfl, List.forall_mem_cons.mpr ⟨rfl, List.forall_mem_cons.mpr ⟨rfl, fun _ h => absurd h List.not_mem_nil⟩⟩⟩) rfl rfl ?_
            rw [← xSheet_0 ha]
            refine ER.mono (l_sheet_loop d X Z ha b _ 40 0 _ (by omega) rfl) (fun r hr => ?_)
            first | exact absurd h48 h86 | exact absurd h86 h48 | (rw [if_pos h48]; exact hr) | (rw [if_pos h86]; exact hr) | (rw [if_neg h48, if_neg h52, if_neg h64]; exact hr)
        · refine er_loc (pc' := 52) rfl rfl rfl ?_
          refine er_if_ge (pc' := 55) rfl rfl (fun h52 => ?_) (fun h52 => ?_)
          · refine er_loc (pc' := 62) rfl rfl rfl ?_
            refine er_k (pc' := 64) (nI 40) rfl rfl rfl ?_
            refine er_cm_le (pc' := 67) rfl rfl (fun h64 => ?_) (fun h64 => ?_)
            · refine er_loc (pc' := 74) rfl rfl rfl ?_
              refine er_gf (pc' := 77) (_) rfl rfl rfl rfl rfl ?_
              refine er_loc (pc' := 78) rfl rfl rfl ?_
              refine er_loc (pc' := 79) rfl rfl rfl ?_
              refine er_isX (pc' := 80) (a) rfl rfl (fun _ => rfl) rfl ha rfl rfl ?_
              refine er_loc (pc' := 81) rfl rfl rfl ?_
              refine er_gf (pc' := 84) (_) rfl rfl rfl rfl rfl ?_
              refine er_loc (pc' := 85) rfl rfl rfl ?_
              refine er_loc (pc' := 86) rfl rfl rfl ?_
              refine er_if_ne (pc' := 89) rfl rfl (fun h86 => ?_) (fun h86 => ?_)
              · refine er_loc (pc' := 94) rfl rfl rfl ?_
                refine er_isX (pc' := 95) (a) rfl rfl (fun _ => rfl) rfl ha rfl rfl ?_
                refine er_k (pc' := 96) (nI 0) rfl rfl rfl ?_
                refine er_loc (pc' := 98) (L' := [(5, _), (4, _), (0, _), (1, _), (2, _), (3, _)]) rfl rfl rfl ?_
                refine ER_loc [(0, _), (1, _), (5, _)] rfl (List.forall_mem_cons.mpr ⟨rfl, List.forall_mem_cons.mpr ⟨rfl, List.forall_mem_cons.mpr ⟨rfl, fun _ h => absurd h List.not_mem_nil⟩⟩⟩) rfl rfl ?_
                rw [← xSheet_0 ha]
                refine ER.mono (l_sheet_loop d X Z ha b _ 40 0 _ (by omega) rfl) (fun r hr => ?_)
                first | exact absurd h48 h86 | exact absurd h86 h48 | (rw [if_pos h48]; exact hr) | (rw [if_pos h86]; exact hr) | (rw [if_neg h48, if_neg h52, if_neg h64]; exact hr)
              · refine er_k (pc' := 90) (nI 0) rfl rfl rfl ?_
                refine er_goto rfl ?_
                refine er_isX (pc' := 95) (a) rfl rfl (fun _ => rfl) rfl ha rfl rfl ?_
                refine er_k (pc' := 96) (nI 0) rfl rfl rfl ?_
                refine er_loc (pc' := 98) (L' := [(5, _), (4, _), (0, _), (1, _), (2, _), (3, _)]) rfl rfl rfl ?_
                refine ER_loc [(0, _), (1, _), (5, _)] rfl (List.forall_mem_cons.mpr ⟨rfl, List.forall_mem_cons.mpr ⟨rfl, List.forall_mem_cons.mpr ⟨rfl, fun _ h => absurd h List.not_mem_nil⟩⟩⟩) rfl rfl ?_
                rw [← xSheet_0 ha]
                refine ER.mono (l_sheet_loop d X Z ha b _ 40 0 _ (by omega) rfl) (fun r hr => ?_)
                first | exact absurd h48 h86 | exact absurd h86 h48 | (rw [if_pos h48]; exact hr) | (rw [if_pos h86]; exact hr) | (rw [if_neg h48, if_neg h52, if_neg h64]; exact hr)
            · refine er_loc (pc' := 68) rfl rfl rfl ?_
              refine er_k (pc' := 69) (nI 1) rfl rfl rfl ?_
              refine er_cIz (pc' := 72) (rest := []) 11 rfl rfl rfl rfl rfl rfl (l_error _ _ _ 1 (by decide)) ?_
              intro Z9
              refine er_iret rfl rfl ?_
              rw [if_neg h48, if_neg h52, if_pos h64]
              exact RI_of rfl rfl
          · refine er_loc (pc' := 56) rfl rfl rfl ?_
            refine er_k (pc' := 57) (nI 3) rfl rfl rfl ?_
            refine er_cIz (pc' := 60) (rest := []) 11 rfl rfl rfl rfl rfl rfl (l_error _ _ _ 3 (by decide)) ?_
            intro Z9
            refine er_iret rfl rfl ?_
            rw [if_neg h48, if_pos h52]
            exact RI_of rfl rfl
      · refine er_loc (pc' := 17) rfl rfl rfl ?_
        refine er_k (pc' := 19) (nI 32) rfl rfl rfl ?_
        refine er_cm_ne (pc' := 22) rfl rfl (fun h19 => ?_) (fun h19 => ?_)
        · refine er_k (pc' := 27) (nI 0) rfl rfl rfl ?_
          refine er_loc (pc' := 29) (L' := [(4, _), (0, _), (1, _), (2, _), (3, _)]) rfl rfl rfl ?_
          refine er_loc (pc' := 30) rfl rfl rfl ?_
          refine er_cSi (pc' := 33) (rest := []) rfl rfl rfl (l_xSheet _ _ _) ?_
          rw [show sIn (nI a) (nI 0) (nI 3) = true from sIn_t (by omega) (by omega) (by omega)]
          refine er_if_eqF (pc' := 36) rfl (by decide +kernel) rfl ?_
          refine er_loc (pc' := 38) rfl rfl rfl ?_
          refine er_if_neF (pc' := 41) rfl (by decide +kernel) rfl ?_
          exfalso
          unfold sBits at hb
          simp only [Bool.or_eq_true, decide_eq_true_eq] at hb
          rcases hb with c | c | c | c
          · exact h1 c
          · exact h7 c
          · exact h13 c
          · exact h19 c
        · refine er_k (pc' := 23) (nI 1) rfl rfl rfl ?_
          refine er_goto rfl ?_
          refine er_loc (pc' := 29) (L' := [(4, _), (0, _), (1, _), (2, _), (3, _)]) rfl rfl rfl ?_
          refine er_loc (pc' := 30) rfl rfl rfl ?_
          refine er_cSi (pc' := 33) (rest := []) rfl rfl rfl (l_xSheet _ _ _) ?_
          rw [show sIn (nI a) (nI 0) (nI 3) = true from sIn_t (by omega) (by omega) (by omega)]
          refine er_if_eqF (pc' := 36) rfl (by decide +kernel) rfl ?_
          refine er_loc (pc' := 38) rfl rfl rfl ?_
          refine er_if_neT rfl (by decide +kernel) ?_
          refine er_loc (pc' := 48) rfl rfl rfl ?_
          refine er_if_eq (pc' := 51) rfl rfl (fun h48 => ?_) (fun h48 => ?_)
          · refine er_loc (pc' := 74) rfl rfl rfl ?_
            refine er_gf (pc' := 77) (_) rfl rfl rfl rfl rfl ?_
            refine er_loc (pc' := 78) rfl rfl rfl ?_
            refine er_loc (pc' := 79) rfl rfl rfl ?_
            refine er_isX (pc' := 80) (a) rfl rfl (fun _ => rfl) rfl ha rfl rfl ?_
            refine er_loc (pc' := 81) rfl rfl rfl ?_
            refine er_gf (pc' := 84) (_) rfl rfl rfl rfl rfl ?_
            refine er_loc (pc' := 85) rfl rfl rfl ?_
            refine er_loc (pc' := 86) rfl rfl rfl ?_
            refine er_if_ne (pc' := 89) rfl rfl (fun h86 => ?_) (fun h86 => ?_)
            · refine er_loc (pc' := 94) rfl rfl rfl ?_
              refine er_isX (pc' := 95) (a) rfl rfl (fun _ => rfl) rfl ha rfl rfl ?_
              refine er_k (pc' := 96) (nI 0) rfl rfl rfl ?_
              refine er_loc (pc' := 98) (L' := [(5, _), (4, _), (0, _), (1, _), (2, _), (3, _)]) rfl rfl rfl ?_
              refine ER_loc [(0, _), (1, _), (5, _)] rfl (List.forall_mem_cons.mpr ⟨rfl, List.forall_mem_cons.mpr ⟨rfl, List.forall_mem_cons.mpr ⟨rfl, fun _ h => absurd h List.not_mem_nil⟩⟩⟩) rfl rfl ?_
              rw [← xSheet_0 ha]
              refine ER.mono (l_sheet_loop d X Z ha b _ 40 0 _ (by omega) rfl) (fun r hr => ?_)
              first | exact absurd h48 h86 | exact absurd h86 h48 | (rw [if_pos h48]; exact hr) | (rw [if_pos h86]; exact hr) | (rw [if_neg h48, if_neg h52, if_neg h64]; exact hr)
            · refine er_k (pc' := 90) (nI 0) rfl rfl rfl ?_
              refine er_goto rfl ?_
              refine er_isX (pc' := 95) (a) rfl rfl (fun _ => rfl) rfl ha rfl rfl ?_
              refine er_k (pc' := 96) (nI 0) rfl rfl rfl ?_
              refine er_loc (pc' := 98) (L' := [(5, _), (4, _), (0, _), (1, _), (2, _), (3, _)]) rfl rfl rfl ?_
              refine ER_loc [(0, _), (1, _), (5, _)] rfl (List.forall_mem_cons.mpr ⟨rfl, List.forall_mem_cons.mpr ⟨rfl, List.forall_mem_cons.mpr ⟨rfl, fun _ h => absurd h List.not_mem_nil⟩⟩⟩) rfl rfl ?_
              rw [← xSheet_0 ha]
              refine ER.mono (l_sheet_loop d X Z ha b _ 40 0 _ (by omega) rfl) (fun r hr => ?_)
              first | exact absurd h48 h86 | exact absurd h86 h48 | (rw [if_pos h48]; exact hr) | (rw [if_pos h86]; exact hr) | (rw [if_neg h48, if_neg h52, if_neg h64]; exact hr)
          · refine er_loc (pc' := 52) rfl rfl rfl ?_
            refine er_if_ge (pc' := 55) rfl rfl (fun h52 => ?_) (fun h52 => ?_)
            · refine er_loc (pc' := 62) rfl rfl rfl ?_
              refine er_k (pc' := 64) (nI 40) rfl rfl rfl ?_
              refine er_cm_le (pc' := 67) rfl rfl (fun h64 => ?_) (fun h64 => ?_)
              · refine er_loc (pc' := 74) rfl rfl rfl ?_
                refine er_gf (pc' := 77) (_) rfl rfl rfl rfl rfl ?_
                refine er_loc (pc' := 78) rfl rfl rfl ?_
                refine er_loc (pc' := 79) rfl rfl rfl ?_
                refine er_isX (pc' := 80) (a) rfl rfl (fun _ => rfl) rfl ha rfl rfl ?_
                refine er_loc (pc' := 81) rfl rfl rfl ?_
                refine er_gf (pc' := 84) (_) rfl rfl rfl rfl rfl ?_
                refine er_loc (pc' := 85) rfl rfl rfl ?_
                refine er_loc (pc' := 86) rfl rfl rfl ?_
                refine er_if_ne (pc' := 89) rfl rfl (fun h86 => ?_) (fun h86 => ?_)
                · refine er_loc (pc' := 94) rfl rfl rfl ?_
                  refine er_isX (pc' := 95) (a) rfl rfl (fun _ => rfl) rfl ha rfl rfl ?_
                  refine er_k (pc' := 96) (nI 0) rfl rfl rfl ?_
                  refine er_loc (pc' := 98) (L' := [(5, _), (4, _), (0, _), (1, _), (2, _), (3, _)]) rfl rfl rfl ?_
                  refine ER_loc [(0, _), (1, _), (5, _)] rfl (List.forall_mem_cons.mpr ⟨rfl, List.forall_mem_cons.mpr ⟨rfl, List.forall_mem_cons.mpr ⟨rfl, fun _ h => absurd h List.not_mem_nil⟩⟩⟩) rfl rfl ?_
                  rw [← xSheet_0 ha]
                  refine ER.mono (l_sheet_loop d X Z ha b _ 40 0 _ (by omega) rfl) (fun r hr => ?_)
                  first | exact absurd h48 h86 | exact absurd h86 h48 | (rw [if_pos h48]; exact hr) | (rw [if_pos h86]; exact hr) | (rw [if_neg h48, if_neg h52, if_neg h64]; exact hr)
                · refine er_k (pc' := 90) (nI 0) rfl rfl rfl ?_
                  refine er_goto rfl ?_
                  refine er_isX (pc' := 95) (a) rfl rfl (fun _ => rfl) rfl ha rfl rfl ?_
                  refine er_k (pc' := 96) (nI 0) rfl rfl rfl ?_
                  refine er_loc (pc' := 98) (L' := [(5, _), (4, _), (0, _), (1, _), (2, _), (3, _)]) rfl rfl rfl ?_
                  refine ER_loc [(0, _), (1, _), (5, _)] rfl (List.forall_mem_cons.mpr ⟨rfl, List.forall_mem_cons.mpr ⟨rfl, List.forall_mem_cons.mpr ⟨rfl, fun _ h => absurd h List.not_mem_nil⟩⟩⟩) rfl rfl ?_
                  rw [← xSheet_0 ha]
                  refine ER.mono (l_sheet_loop d X Z ha b _ 40 0 _ (by omega) rfl) (fun r hr => ?_)
                  first | exact absurd h48 h86 | exact absurd h86 h48 | (rw [if_pos h48]; exact hr) | (rw [if_pos h86]; exact hr) | (rw [if_neg h48, if_neg h52, if_neg h64]; exact hr)
              · refine er_loc (pc' := 68) rfl rfl rfl ?_
                refine er_k (pc' := 69) (nI 1) rfl rfl rfl ?_
                refine er_cIz (pc' := 72) (rest := []) 11 rfl rfl rfl rfl rfl rfl (l_error _ _ _ 1 (by decide)) ?_
                intro Z9
                refine er_iret rfl rfl ?_
                rw [if_neg h48, if_neg h52, if_pos h64]
                exact RI_of rfl rfl
            · refine er_loc (pc' := 56) rfl rfl rfl ?_
              refine er_k (pc' := 57) (nI 3) rfl rfl rfl ?_
              refine er_cIz (pc' := 60) (rest := []) 11 rfl rfl rfl rfl rfl rfl (l_error _ _ _ 3 (by decide)) ?_
              intro Z9
              refine er_iret rfl rfl ?_
              rw [if_neg h48, if_pos h52]
              exact RI_of rfl rfl
def jSc (f : Nat → Int32) : Nat → Nat → (Nat → Nat → Int32) → (Nat → Nat → Int32) × Nat
  | 0, i, J => (J, i)
  | m + 1, i, J => if sIn (f i) (nI 0) (nI 9) = true then jSc f m (i + 1) (ud J 3 i (f i)) else (J, i)
theorem min_nI {g n : Nat} (hg : g < 2 ^ 31) (hn : n < 2 ^ 31) : (if nI n < nI g then nI n else nI g) = nI (min g n) := by
  by_cases h : n < g
  · rw [if_pos (nI_lt h hg), show min g n = n by omega]
  · rw [if_neg (nI_nlt (by omega) hn), show min g n = g by omega]
set_option maxRecDepth 100000 in
set_option maxHeartbeats 4000000 in
theorem l_screws_loop (d : Nat) {X : Nat → Nat → Int32} {a : Nat} (ha : a < 4) (P : ab_R → Prop) (e : Nat) (he8 : e ≤ 8) : ∀ (m i : Nat) (X1 Z : Nat → Nat → Int32) (x : Int32), i + m = e → x = nI i → O9 X X1 → (∀ r, RJ (nI (jSc (X (55 + a)) m i (jx X1 9)).2) (jSc (X (55 + a)) m i (jx X1 9)).1 X r → P r) → ER (d + 2) tb_m117 47 [(0, .ref 0), (1, .int (nI a)), (2, .int (nI e)), (3, .int x)] [] (Wd X1 Z) P
  | 0, i, X1, Z, x, hi, hx, ho, hP => by
    have hi0 : i = e := by omega
    subst hx
    subst hi0
    refine er_loc (pc' := 48) rfl rfl rfl ?_
    refine er_loc (pc' := 49) rfl rfl rfl ?_
    refine er_cm_geT rfl (nI_nlt (by omega) (by omega)) ?_
    refine er_loc (pc' := 95) rfl rfl rfl ?_
    refine er_iret rfl rfl ?_
    exact hP _ ⟨X1, Z, rfl, rfl, ho⟩
  | m + 1, i, X1, Z, x, hi, hx, ho, hP => by
    subst hx
    refine er_loc (pc' := 48) rfl rfl rfl ?_
    refine er_loc (pc' := 49) rfl rfl rfl ?_
    refine er_cm_geF (pc' := 52) rfl (nI_lt (by omega) (by omega)) rfl ?_
    refine er_loc (pc' := 53) rfl rfl rfl ?_
    refine er_gf (pc' := 56) (_) rfl rfl rfl rfl rfl ?_
    refine er_loc (pc' := 57) rfl rfl rfl ?_
    refine er_aa (pc' := 58) (a) rfl rfl rfl rfl rfl ha rfl rfl ?_
    refine er_loc (pc' := 59) rfl rfl rfl ?_
    refine er_ia (pc' := 60) (i) rfl (blt_R ha) (cO_R ha _ _) rfl (by omega) rfl rfl ?_
    rw [ho (55 + a) (by omega)]
    refine er_k (pc' := 61) (nI 0) rfl rfl rfl ?_
    refine er_k (pc' := 63) (nI 9) rfl rfl rfl ?_
    refine er_cSi (pc' := 66) (rest := []) rfl rfl rfl (l_within _ _ _ _ _) ?_
    refine er_if_neb (pc' := 69) rfl rfl (fun h66 => ?_) (fun h66 => ?_)
    · refine er_loc (pc' := 72) rfl rfl rfl ?_
      refine er_gf (pc' := 75) (_) rfl rfl rfl rfl rfl ?_
      refine er_gf (pc' := 78) (_) rfl rfl rfl rfl rfl ?_
      refine er_loc (pc' := 79) rfl rfl rfl ?_
      refine er_loc (pc' := 80) rfl rfl rfl ?_
      refine er_gf (pc' := 83) (_) rfl rfl rfl rfl rfl ?_
      refine er_loc (pc' := 84) rfl rfl rfl ?_
      refine er_aa (pc' := 85) (a) rfl rfl rfl rfl rfl ha rfl rfl ?_
      refine er_loc (pc' := 86) rfl rfl rfl ?_
      refine er_ia (pc' := 87) (i) rfl (blt_R ha) (cO_R ha _ _) rfl (by omega) rfl rfl ?_
      rw [ho (55 + a) (by omega)]
      refine er_isX (pc' := 88) (i) rfl rfl (fun _ => rfl) rfl (by omega) rfl rfl ?_
      refine er_loc (L' := [(3, .int (_ + nI 1)), (0, _), (1, _), (2, _)]) rfl rfl rfl ?_
      refine er_goto rfl ?_
      refine ER_loc [(0, _), (1, _), (2, _), (3, _)] rfl (List.forall_mem_cons.mpr ⟨rfl, List.forall_mem_cons.mpr ⟨rfl, List.forall_mem_cons.mpr ⟨rfl, List.forall_mem_cons.mpr ⟨rfl, fun _ h => absurd h List.not_mem_nil⟩⟩⟩⟩) rfl rfl ?_
      have e2 : jSc (X (55 + a)) (m + 1) i (jx X1 9) = jSc (X (55 + a)) m (i + 1) (ud (jx X1 9) 3 i (X (55 + a) i)) := by
        show (if _ then _ else _) = _
        rw [if_pos h66]
      refine l_screws_loop d ha P e he8 m (i + 1) _ _ _ (by omega) (nI_add i 1) (ho.ud (by omega)) (fun r hr => hP r ?_)
      rw [e2, ← jx_ud3 (by omega)]
      exact hr
    · refine er_loc (pc' := 70) rfl rfl rfl ?_
      refine er_iret rfl rfl ?_
      have e2 : jSc (X (55 + a)) (m + 1) i (jx X1 9) = (jx X1 9, i) := by
        show (if _ then _ else _) = _
        rw [if_neg (by rw [h66]; decide)]
      apply hP
      rw [e2]
      exact ⟨X1, Z, rfl, rfl, ho⟩
set_option maxRecDepth 100000 in
set_option maxHeartbeats 4000000 in
theorem l_screws (d : Nat) (X Z : Nat → Nat → Int32) {T : Nat} (hI : IJ T (jx X 9)) {a : Nat} (ha : a < 4) {g : Nat} (hg : X 59 a = nI g) (h40 : g ≤ 40) : EC (d + 3) 117 [.ref 0, .int (nI a)] (Wd X Z) (fun r => if X 60 a = 0 then RI (sErr 2) (xErr X 2) r else RJ (nI (jSc (X (55 + a)) (min g (jn (jx X 9))) 0 (jx X 9)).2) (jSc (X (55 + a)) (min g (jn (jx X 9))) 0 (jx X 9)).1 X r) := by
  refine er_enter (L := [(0, _), (1, _)]) rfl rfl rfl ?_
  have h8 := jn8 hI
  refine er_loc (pc' := 1) rfl rfl rfl ?_
  refine er_cSi (pc' := 4) (rest := []) rfl rfl rfl (l_xSheet _ _ _) ?_
  rw [show sIn (nI a) (nI 0) (nI 3) = true from sIn_t (by omega) (by omega) (by omega)]
  refine er_if_neT rfl (by decide +kernel) ?_
  refine er_loc (pc' := 14) rfl rfl rfl ?_
  refine er_gf (pc' := 17) (_) rfl rfl rfl rfl rfl ?_
  refine er_loc (pc' := 18) rfl rfl rfl ?_
  refine er_ia (pc' := 19) (a) rfl rfl rfl rfl ha rfl rfl ?_
  refine er_if_ne (pc' := 22) rfl rfl (fun h19 => ?_) (fun h19 => ?_)
  · refine er_loc (pc' := 29) rfl rfl rfl ?_
    refine er_gf (pc' := 32) (_) rfl rfl rfl rfl rfl ?_
    refine er_loc (pc' := 33) rfl rfl rfl ?_
    refine er_ia (pc' := 34) (a) rfl rfl rfl rfl ha rfl rfl ?_
    rw [hg]
    refine er_loc (pc' := 35) rfl rfl rfl ?_
    refine er_gf (pc' := 38) (_) rfl rfl rfl rfl rfl ?_
    refine er_gf (pc' := 41) (.int (X 9 1)) rfl rfl rfl rfl rfl ?_
    rw [show X 9 1 = nI (jn (jx X 9)) from hI.n.1]
    refine er_min (pc' := 44) rfl rfl rfl rfl ?_
    rw [min_nI (by omega) (by omega)]
    refine er_loc (pc' := 45) (L' := [(2, _), (0, _), (1, _)]) rfl rfl rfl ?_
    refine er_k (pc' := 46) (nI 0) rfl rfl rfl ?_
    refine er_loc (pc' := 47) (L' := [(3, _), (2, _), (0, _), (1, _)]) rfl rfl rfl ?_
    refine ER_loc [(0, _), (1, _), (2, _), (3, _)] rfl (List.forall_mem_cons.mpr ⟨rfl, List.forall_mem_cons.mpr ⟨rfl, List.forall_mem_cons.mpr ⟨rfl, List.forall_mem_cons.mpr ⟨rfl, fun _ h => absurd h List.not_mem_nil⟩⟩⟩⟩) rfl rfl ?_
    refine l_screws_loop d ha _ (min g (jn (jx X 9))) (by omega) (min g (jn (jx X 9))) 0 X Z _ (by omega) rfl (O9.rf X) (fun r hr => ?_)
    rw [if_neg h19]
    exact hr
  · refine er_loc (pc' := 23) rfl rfl rfl ?_
    refine er_k (pc' := 24) (nI 2) rfl rfl rfl ?_
    refine er_cIz (pc' := 27) (rest := []) 11 rfl rfl rfl rfl rfl rfl (l_error _ _ _ 2 (by decide)) ?_
    intro Z9
    refine er_iret rfl rfl ?_
    rw [if_pos h19]
    exact RI_of rfl rfl
def jdg (J : Nat → Nat → Int32) (f : Nat → Int32) : Nat → Nat → Int32 → Int32
  | 0, _, v => v
  | m + 1, i, v => if f i = sLasts J i then jdg J f m (i + 1) v else nI i
set_option maxRecDepth 100000 in
set_option maxHeartbeats 4000000 in
theorem l_judge_loop (d : Nat) {X : Nat → Nat → Int32} {T : Nat} (hI : IJ T (jx X 9)) {a : Nat} (ha : a < 4) (P : ab_R → Prop) {g : Nat} (hg : X 59 a = nI g) (h40 : g ≤ 40) : ∀ (m i : Nat) (Z : Nat → Nat → Int32) (x : Int32), i + m = min g (jn (jx X 9)) → x = nI i → (∀ r, RI (jdg (jx X 9) (X (55 + a)) m i (if nI g = nI (jn (jx X 9)) then -1 else nI (min g (jn (jx X 9))))) X r → P r) → ER (d + 4) tb_m118 47 [(0, .ref 0), (1, .int (nI a)), (2, .int (nI (min g (jn (jx X 9))))), (3, .int x)] [] (Wd X Z) P
  | 0, i, Z, x, hi, hx, hP => by
    have h8 := jn8 hI
    have hi0 : i = min g (jn (jx X 9)) := by omega
    subst hx
    subst hi0
    refine er_loc (pc' := 48) rfl rfl rfl ?_
    refine er_loc (pc' := 49) rfl rfl rfl ?_
    refine er_cm_geT rfl (nI_nlt (by omega) (by omega)) ?_
    refine er_loc (pc' := 80) rfl rfl rfl ?_
    refine er_gf (pc' := 83) (_) rfl rfl rfl rfl rfl ?_
    refine er_loc (pc' := 84) rfl rfl rfl ?_
    refine er_ia (pc' := 85) (a) rfl rfl rfl rfl ha rfl rfl ?_
    rw [hg]
    refine er_loc (pc' := 86) rfl rfl rfl ?_
    refine er_gf (pc' := 89) (_) rfl rfl rfl rfl rfl ?_
    refine er_gf (pc' := 92) (.int (X 9 1)) rfl rfl rfl rfl rfl ?_
    rw [show X 9 1 = nI (jn (jx X 9)) from hI.n.1]
    refine er_cm_ne (pc' := 95) rfl rfl (fun h92 => ?_) (fun h92 => ?_)
    · refine er_loc (pc' := 100) rfl rfl rfl ?_
      refine er_iret rfl rfl ?_
      apply hP
      show RI (jdg (jx X 9) (X (55 + a)) 0 _ _) X _
      unfold jdg
      first | rw [if_pos h92] | rw [if_neg h92]
      exact ⟨_, rfl⟩
    · refine er_k (pc' := 96) (-1) rfl rfl rfl ?_
      refine er_goto rfl ?_
      refine er_iret rfl rfl ?_
      apply hP
      show RI (jdg (jx X 9) (X (55 + a)) 0 _ _) X _
      unfold jdg
      first | rw [if_pos h92] | rw [if_neg h92]
      exact ⟨_, rfl⟩
  | m + 1, i, Z, x, hi, hx, hP => by
    have h8 := jn8 hI
    subst hx
    refine er_loc (pc' := 48) rfl rfl rfl ?_
    refine er_loc (pc' := 49) rfl rfl rfl ?_
    refine er_cm_geF (pc' := 52) rfl (nI_lt (by omega) (by omega)) rfl ?_
    refine er_loc (pc' := 53) rfl rfl rfl ?_
    refine er_gf (pc' := 56) (_) rfl rfl rfl rfl rfl ?_
    refine er_loc (pc' := 57) rfl rfl rfl ?_
    refine er_aa (pc' := 58) (a) rfl rfl rfl rfl rfl ha rfl rfl ?_
    refine er_loc (pc' := 59) rfl rfl rfl ?_
    refine er_ia (pc' := 60) (i) rfl (blt_R ha) (cO_R ha _ _) rfl (by omega) rfl rfl ?_
    refine er_loc (pc' := 61) rfl rfl rfl ?_
    refine er_gf (pc' := 64) (_) rfl rfl rfl rfl rfl ?_
    refine er_loc (pc' := 65) rfl rfl rfl ?_
    refine er_cIz (pc' := 68) (rest := [_]) 7 rfl rfl rfl rfl rfl rfl (l_lasts _ j9 _ _ hI (k := i) (by omega)) ?_
    intro Z2
    refine er_cm_eq (pc' := 71) rfl rfl (fun h68 => ?_) (fun h68 => ?_)
    · refine er_loc (L' := [(3, .int (_ + nI 1)), (0, _), (1, _), (2, _)]) rfl rfl rfl ?_
      refine er_goto rfl ?_
      refine ER_loc [(0, _), (1, _), (2, _), (3, _)] rfl (List.forall_mem_cons.mpr ⟨rfl, List.forall_mem_cons.mpr ⟨rfl, List.forall_mem_cons.mpr ⟨rfl, List.forall_mem_cons.mpr ⟨rfl, fun _ h => absurd h List.not_mem_nil⟩⟩⟩⟩) rfl rfl ?_
      refine l_judge_loop d hI ha P hg h40 m (i + 1) _ _ (by omega) (nI_add i 1) (fun r hr => hP r ?_)
      have e2 : jdg (jx X 9) (X (55 + a)) (m + 1) i (if nI g = nI (jn (jx X 9)) then -1 else nI (min g (jn (jx X 9)))) = jdg (jx X 9) (X (55 + a)) m (i + 1) (if nI g = nI (jn (jx X 9)) then -1 else nI (min g (jn (jx X 9)))) := by
        show (if _ then _ else _) = _
        rw [if_pos h68]
      rw [e2]
      exact hr
    · refine er_loc (pc' := 72) rfl rfl rfl ?_
      refine er_iret rfl rfl ?_
      apply hP
      have e2 : jdg (jx X 9) (X (55 + a)) (m + 1) i (if nI g = nI (jn (jx X 9)) then -1 else nI (min g (jn (jx X 9)))) = nI i := by
        show (if _ then _ else _) = _
        rw [if_neg h68]
      rw [e2]
      exact ⟨_, rfl⟩
set_option maxRecDepth 100000 in
set_option maxHeartbeats 4000000 in
theorem l_judge (d : Nat) (X Z : Nat → Nat → Int32) {T : Nat} (hI : IJ T (jx X 9)) {a : Nat} (ha : a < 4) {g : Nat} (hg : X 59 a = nI g) (h40 : g ≤ 40) : EC (d + 5) 118 [.ref 0, .int (nI a)] (Wd X Z) (fun r => if X 60 a = 0 then RI (sErr 2) (xErr X 2) r else RI (jdg (jx X 9) (X (55 + a)) (min g (jn (jx X 9))) 0 (if nI g = nI (jn (jx X 9)) then -1 else nI (min g (jn (jx X 9))))) X r) := by
  refine er_enter (L := [(0, _), (1, _)]) rfl rfl rfl ?_
  have h8 := jn8 hI
  refine er_loc (pc' := 1) rfl rfl rfl ?_
  refine er_cSi (pc' := 4) (rest := []) rfl rfl rfl (l_xSheet _ _ _) ?_
  rw [show sIn (nI a) (nI 0) (nI 3) = true from sIn_t (by omega) (by omega) (by omega)]
  refine er_if_neT rfl (by decide +kernel) ?_
  refine er_loc (pc' := 14) rfl rfl rfl ?_
  refine er_gf (pc' := 17) (_) rfl rfl rfl rfl rfl ?_
  refine er_loc (pc' := 18) rfl rfl rfl ?_
  refine er_ia (pc' := 19) (a) rfl rfl rfl rfl ha rfl rfl ?_
  refine er_if_ne (pc' := 22) rfl rfl (fun h19 => ?_) (fun h19 => ?_)
  · refine er_loc (pc' := 29) rfl rfl rfl ?_
    refine er_gf (pc' := 32) (_) rfl rfl rfl rfl rfl ?_
    refine er_loc (pc' := 33) rfl rfl rfl ?_
    refine er_ia (pc' := 34) (a) rfl rfl rfl rfl ha rfl rfl ?_
    rw [hg]
    refine er_loc (pc' := 35) rfl rfl rfl ?_
    refine er_gf (pc' := 38) (_) rfl rfl rfl rfl rfl ?_
    refine er_gf (pc' := 41) (.int (X 9 1)) rfl rfl rfl rfl rfl ?_
    rw [show X 9 1 = nI (jn (jx X 9)) from hI.n.1]
    refine er_min (pc' := 44) rfl rfl rfl rfl ?_
    rw [min_nI (by omega) (by omega)]
    refine er_loc (pc' := 45) (L' := [(2, _), (0, _), (1, _)]) rfl rfl rfl ?_
    refine er_k (pc' := 46) (nI 0) rfl rfl rfl ?_
    refine er_loc (pc' := 47) (L' := [(3, _), (2, _), (0, _), (1, _)]) rfl rfl rfl ?_
    refine ER_loc [(0, _), (1, _), (2, _), (3, _)] rfl (List.forall_mem_cons.mpr ⟨rfl, List.forall_mem_cons.mpr ⟨rfl, List.forall_mem_cons.mpr ⟨rfl, List.forall_mem_cons.mpr ⟨rfl, fun _ h => absurd h List.not_mem_nil⟩⟩⟩⟩) rfl rfl ?_
    refine l_judge_loop d hI ha _ hg h40 (min g (jn (jx X 9))) 0 Z _ (by omega) rfl (fun r hr => ?_)
    rw [if_neg h19]
    exact hr
  · refine er_loc (pc' := 23) rfl rfl rfl ?_
    refine er_k (pc' := 24) (nI 2) rfl rfl rfl ?_
    refine er_cIz (pc' := 27) (rest := []) 11 rfl rfl rfl rfl rfl rfl (l_error _ _ _ 2 (by decide)) ?_
    intro Z9
    refine er_iret rfl rfl ?_
    rw [if_pos h19]
    exact RI_of rfl rfl
