/-! JOBS: what changes them -/
theorem jx_ud0 {X : Nat → Nat → Int32} {b k : Nat} {v : Int32} (h : okF k = true) : jx (ud X b k v) b = ud (jx X b) 0 k v := by
  funext i j
  unfold jx
  simp only [ud_at]
  match i with
  | 0 =>
    by_cases hj : j = k
    · subst hj; simp [h]
    · simp [hj]
  | 1 => simp
  | 2 => simp
  | 3 => simp
  | 4 => simp
  | 5 => simp
  | 6 => simp
  | 7 => simp
  | 8 => simp
  | 9 => simp
  | 10 => simp
  | i + 11 => simp
theorem jx_ud1 {X : Nat → Nat → Int32} {b k : Nat} {v : Int32} (h : k < 8) : jx (ud X (b + 1) k v) b = ud (jx X b) 1 k v := by
  funext i j
  unfold jx
  simp only [ud_at]
  match i with
  | 0 => simp
  | 1 =>
    by_cases hj : j = k
    · subst hj; simp [h]
    · simp [hj]
  | 2 => simp
  | 3 => simp
  | 4 => simp
  | 5 => simp
  | 6 => simp
  | 7 => simp
  | 8 => simp
  | 9 => simp
  | 10 => simp
  | i + 11 => simp; try omega
theorem jx_ud2 {X : Nat → Nat → Int32} {b k : Nat} {v : Int32} (h : k < 8) : jx (ud X (b + 2) k v) b = ud (jx X b) 2 k v := by
  funext i j
  unfold jx
  simp only [ud_at]
  match i with
  | 0 => simp
  | 1 => simp
  | 2 =>
    by_cases hj : j = k
    · subst hj; simp [h]
    · simp [hj]
  | 3 => simp
  | 4 => simp
  | 5 => simp
  | 6 => simp
  | 7 => simp
  | 8 => simp
  | 9 => simp
  | 10 => simp
  | i + 11 => simp; try omega
theorem jx_ud3 {X : Nat → Nat → Int32} {b k : Nat} {v : Int32} (h : k < 8) : jx (ud X (b + 3) k v) b = ud (jx X b) 3 k v := by
  funext i j
  unfold jx
  simp only [ud_at]
  match i with
  | 0 => simp
  | 1 => simp
  | 2 => simp
  | 3 =>
    by_cases hj : j = k
    · subst hj; simp [h]
    · simp [hj]
  | 4 => simp
  | 5 => simp
  | 6 => simp
  | 7 => simp
  | 8 => simp
  | 9 => simp
  | 10 => simp
  | i + 11 => simp; try omega
theorem jx_ud4 {X : Nat → Nat → Int32} {b k : Nat} {v : Int32} (h : k < 8) : jx (ud X (b + 4) k v) b = ud (jx X b) 4 k v := by
  funext i j
  unfold jx
  simp only [ud_at]
  match i with
  | 0 => simp
  | 1 => simp
  | 2 => simp
  | 3 => simp
  | 4 =>
    by_cases hj : j = k
    · subst hj; simp [h]
    · simp [hj]
  | 5 => simp
  | 6 => simp
  | 7 => simp
  | 8 => simp
  | 9 => simp
  | 10 => simp
  | i + 11 => simp; try omega
theorem jx_off {X X' : Nat → Nat → Int32} {b : Nat} (h : ∀ c, b ≤ c → c ≤ b + 12 → X' c = X c) : jx X' b = jx X b := by
  funext i j
  unfold jx
  rw [h b (by omega) (by omega), h (b + 1) (by omega) (by omega), h (b + 2) (by omega) (by omega), h (b + 3) (by omega) (by omega), h (b + 4) (by omega) (by omega), h (b + 5) (by omega) (by omega), h (b + 6) (by omega) (by omega), h (b + 8) (by omega) (by omega), h (b + 9) (by omega) (by omega), h (b + 11) (by omega) (by omega), h (b + 12) (by omega) (by omega)]
section IJU
variable {T T' : Nat} {J : Nat → Nat → Int32} {v : Int32}
theorem IJ.uMin (h : IJ T J) (hv : isN v T') : IJ T' (ud J 0 10 v) := ⟨h.n, h.kind, h.m, h.sc, h.needs, h.done, h.wrong, h.hands, h.bag, hv, h.tl, h.te, h.fed, h.waits, h.tape⟩
theorem IJ.uBag (h : IJ T J) (hv : isN v 999) : IJ T (ud J 0 9 v) := ⟨h.n, h.kind, h.m, h.sc, h.needs, h.done, h.wrong, h.hands, hv, h.minute, h.tl, h.te, h.fed, h.waits, h.tape⟩
theorem IJ.uHands (h : IJ T J) (hv : v = nI 1 ∨ v = nI 2) : IJ T (ud J 0 8 v) := ⟨h.n, h.kind, h.m, h.sc, h.needs, h.done, h.wrong, hv, h.bag, h.minute, h.tl, h.te, h.fed, h.waits, h.tape⟩
theorem IJ.uDone (h : IJ T J) (hv : ∀ i, bt v i = true → i < jn J) : IJ T (ud J 0 6 v) := ⟨h.n, h.kind, h.m, h.sc, h.needs, hv, h.wrong, h.hands, h.bag, h.minute, h.tl, h.te, h.fed, h.waits, h.tape⟩
theorem IJ.uWrong (h : IJ T J) (hv : ∀ i, bt v i = true → i < jn J) : IJ T (ud J 0 7 v) := ⟨h.n, h.kind, h.m, h.sc, h.needs, h.done, hv, h.hands, h.bag, h.minute, h.tl, h.te, h.fed, h.waits, h.tape⟩
theorem IJ.uZ (h : IJ T J) : IJ T (ud J 0 17 v) := ⟨h.n, h.kind, h.m, h.sc, h.needs, h.done, h.wrong, h.hands, h.bag, h.minute, h.tl, h.te, h.fed, h.waits, h.tape⟩
theorem IJ.uFed (h : IJ T J) (hv : isN v 50) : IJ T (ud J 0 14 v) := ⟨h.n, h.kind, h.m, h.sc, h.needs, h.done, h.wrong, h.hands, h.bag, h.minute, h.tl, h.te, hv, h.waits, h.tape⟩
theorem IJ.uWaits (h : IJ T J) (hv : isN v 20) : IJ T (ud J 0 16 v) := ⟨h.n, h.kind, h.m, h.sc, h.needs, h.done, h.wrong, h.hands, h.bag, h.minute, h.tl, h.te, h.fed, hv, h.tape⟩
theorem u1_all {f : Nat → Int32} {k : Nat} {p : Int32 → Prop} (h : ∀ i, p (f i)) (hv : p v) : ∀ i, p (u1 f k v i) := by
  intro i
  unfold u1
  split
  · exact hv
  · exact h i
theorem IJ.uKind (h : IJ T J) {k : Nat} (hv : isN v 6) : IJ T (ud J 1 k v) := ⟨h.n, u1_all (p := fun x => isN x 6) h.kind hv, h.m, h.sc, h.needs, h.done, h.wrong, h.hands, h.bag, h.minute, h.tl, h.te, h.fed, h.waits, h.tape⟩
theorem IJ.uM (h : IJ T J) {k : Nat} (hv : isN v 9) : IJ T (ud J 2 k v) := ⟨h.n, h.kind, u1_all (p := fun x => isN x 9) h.m hv, h.sc, h.needs, h.done, h.wrong, h.hands, h.bag, h.minute, h.tl, h.te, h.fed, h.waits, h.tape⟩
theorem IJ.uSc (h : IJ T J) {k : Nat} (hv : isN v 9) : IJ T (ud J 3 k v) := ⟨h.n, h.kind, h.m, u1_all (p := fun x => isN x 9) h.sc hv, h.needs, h.done, h.wrong, h.hands, h.bag, h.minute, h.tl, h.te, h.fed, h.waits, h.tape⟩
theorem IJ.uNeeds (h : IJ T J) {k : Nat} (hv : ∀ i, bt v i = true → i < k) : IJ T (ud J 4 k v) := ⟨h.n, h.kind, h.m, h.sc, (by
  intro j i hi
  have e : ud J 4 k v 4 j = if j = k then v else J 4 j := rfl
  rw [e] at hi
  split at hi
  · rename_i hj; subst hj; exact hv i hi
  · exact h.needs j i hi), h.done, h.wrong, h.hands, h.bag, h.minute, h.tl, h.te, h.fed, h.waits, h.tape⟩
theorem IJ.uN (h : IJ T J) {n : Nat} (hn : n ≤ 8) (hge : jn J ≤ n) : IJ T (ud J 0 1 (nI n)) := ⟨isN.of hn (by omega), h.kind, h.m, h.sc, h.needs, (by
  intro i hi
  have e : jn (ud J 0 1 (nI n)) = n := nN_nI (by omega)
  have := h.done i hi
  rw [e]; omega), (by
  intro i hi
  have e : jn (ud J 0 1 (nI n)) = n := nN_nI (by omega)
  have := h.wrong i hi
  rw [e]; omega), h.hands, h.bag, h.minute, h.tl, h.te, h.fed, h.waits, h.tape⟩
theorem IJ.mono (h : IJ T J) (hT : T ≤ T') : IJ T' J := ⟨h.n, h.kind, h.m, h.sc, h.needs, h.done, h.wrong, h.hands, h.bag, h.minute.mono hT, h.tl, h.te, h.fed, h.waits, h.tape⟩
theorem bt_with_lt {x : Int32} {k n : Nat} {c : Bool} (hk : k < n) (hn : n ≤ 8) (h : ∀ i, bt x i = true → i < n) : ∀ i, bt (sWith x (nI k) c) i = true → i < n := by
  intro i hi
  rw [bt_with (by omega)] at hi
  split at hi
  · omega
  · exact h i hi
end IJU
def xPass (X : Nat → Nat → Int32) (b k : Nat) : Nat → Nat → Int32 := ud (ud (ud X b 10 (X b 10 + sLasts (jx X b) k)) b 9 (X b 9 - X (b + 3) k)) b 6 (sWith (X b 6) (nI k) true)
def jPass (J : Nat → Nat → Int32) (k : Nat) : Nat → Nat → Int32 := ud (ud (ud J 0 10 (J 0 10 + sLasts J k)) 0 9 (J 0 9 - J 3 k)) 0 6 (sWith (J 0 6) (nI k) true)
def xFin (X : Nat → Nat → Int32) (b k : Nat) : Nat → Nat → Int32 := xPass (ud X b 7 (sWith (X b 7) (nI k) (!decide (sErrs (jx X b) k = 0)))) b k
def jFin (J : Nat → Nat → Int32) (k : Nat) : Nat → Nat → Int32 := jPass (ud J 0 7 (sWith (J 0 7) (nI k) (!decide (sErrs J k = 0)))) k
def sGive (g s : Int32) : Int32 := if g + (if nI 0 < s - nI 1 then s - nI 1 else nI 0) < nI 999 then g + (if nI 0 < s - nI 1 then s - nI 1 else nI 0) else nI 999
def xApart (X : Nat → Nat → Int32) (b k : Nat) : Nat → Nat → Int32 := ud (ud (ud (ud X b 10 (X b 10 + sBack (jx X b) k)) b 9 (sGive (X b 9) (X (b + 3) k))) b 6 (sWith (X b 6) (nI k) false)) b 7 (sWith (X b 7) (nI k) false)
def jApart (J : Nat → Nat → Int32) (k : Nat) : Nat → Nat → Int32 := ud (ud (ud (ud J 0 10 (J 0 10 + sBack J k)) 0 9 (sGive (J 0 9) (J 3 k))) 0 6 (sWith (J 0 6) (nI k) false)) 0 7 (sWith (J 0 7) (nI k) false)
def xUnpass (X : Nat → Nat → Int32) (b k : Nat) (g t : Int32) : Nat → Nat → Int32 := ud (ud (ud X b 6 (sWith (X b 6) (nI k) false)) b 9 g) b 10 t
def jUnpass (J : Nat → Nat → Int32) (k : Nat) (g t : Int32) : Nat → Nat → Int32 := ud (ud (ud J 0 6 (sWith (J 0 6) (nI k) false)) 0 9 g) 0 10 t
theorem jx_xPass {X : Nat → Nat → Int32} {b k : Nat} (hk : k < 8) : jx (xPass X b k) b = jPass (jx X b) k := by
  unfold xPass jPass
  rw [jx_ud0 rfl, jx_ud0 rfl, jx_ud0 rfl, jx010, jx09, jx06, jx3 hk]
theorem jx_xFin {X : Nat → Nat → Int32} {b k : Nat} (hk : k < 8) : jx (xFin X b k) b = jFin (jx X b) k := by
  unfold xFin jFin
  rw [jx_xPass hk, jx_ud0 rfl, jx07]
theorem jx_xApart {X : Nat → Nat → Int32} {b k : Nat} (hk : k < 8) : jx (xApart X b k) b = jApart (jx X b) k := by
  unfold xApart jApart
  rw [jx_ud0 rfl, jx_ud0 rfl, jx_ud0 rfl, jx_ud0 rfl, jx010, jx09, jx06, jx07, jx3 hk]
theorem jx_xUnpass {X : Nat → Nat → Int32} {b k : Nat} {g t : Int32} : jx (xUnpass X b k g t) b = jUnpass (jx X b) k g t := by
  unfold xUnpass jUnpass
  rw [jx_ud0 rfl, jx_ud0 rfl, jx_ud0 rfl, jx06]
theorem xPass_off {X : Nat → Nat → Int32} {b k c : Nat} (h : c ≠ b) : xPass X b k c = X c := by
  unfold xPass
  rw [ud_ne h, ud_ne h, ud_ne h]
theorem xFin_off {X : Nat → Nat → Int32} {b k c : Nat} (h : c ≠ b) : xFin X b k c = X c := by
  unfold xFin
  rw [xPass_off h, ud_ne h]
theorem xApart_off {X : Nat → Nat → Int32} {b k c : Nat} (h : c ≠ b) : xApart X b k c = X c := by
  unfold xApart
  rw [ud_ne h, ud_ne h, ud_ne h, ud_ne h]
theorem xUnpass_off {X : Nat → Nat → Int32} {b k c : Nat} {g t : Int32} (h : c ≠ b) : xUnpass X b k g t c = X c := by
  unfold xUnpass
  rw [ud_ne h, ud_ne h, ud_ne h]
set_option maxRecDepth 100000 in
set_option maxHeartbeats 4000000 in
theorem l_pass (d : Nat) {b : Nat} (hb : jb b) (X Z : Nat → Nat → Int32) {T : Nat} (hI : IJ T (jx X b)) {k : Nat} (hk : k < jn (jx X b)) : EC (d + 5) 45 [.ref b, .int (nI k)] (Wd X Z) (RV (xPass X b k)) := by
  refine er_enter (L := [(0, _), (1, _)]) rfl rfl rfl ?_
  have h8 := jn8 hI
  have hk8 : k < 8 := by omega
  have hq := kind7 hI k
  refine er_loc (pc' := 1) rfl rfl rfl ?_
  refine er_loc (pc' := 2) rfl rfl rfl ?_
  refine er_cIi (pc' := 5) (rest := []) 7 rfl rfl rfl (blt_J hb 0 rfl) (cO_J0 hb _ _) rfl (l_has_t _ hb _ _ hI hk) ?_
  refine er_if_eqF (pc' := 8) rfl (by decide +kernel) rfl ?_
  refine er_loc (pc' := 9) rfl rfl rfl ?_
  refine er_pure (pc' := 10) rfl rfl rfl ?_
  refine er_gf (pc' := 13) (_) rfl (blt_J hb 0 rfl) (cO_J0 hb _ _) rfl rfl ?_
  refine er_loc (pc' := 14) rfl rfl rfl ?_
  refine er_loc (pc' := 15) rfl rfl rfl ?_
  refine er_cIz (pc' := 18) (rest := [_, _]) 7 rfl rfl rfl (blt_J hb 0 rfl) (cO_J0 hb _ _) rfl (l_lasts _ hb _ _ hI hk) ?_
  intro Z2
  refine er_iadd (pc' := 19) rfl rfl ?_
  refine er_pfIX (pc' := 22) 10 rfl (blt_J hb 0 rfl) (cO_J0 hb _ _) rfl (cO_J0 hb _ _) rfl ?_
  refine er_loc (pc' := 23) rfl rfl rfl ?_
  refine er_pure (pc' := 24) rfl rfl rfl ?_
  refine er_gf (pc' := 27) (_) rfl (blt_J hb 0 rfl) (cO_J0 hb _ _) rfl rfl ?_
  refine er_loc (pc' := 28) rfl rfl rfl ?_
  refine er_gf (pc' := 31) (_) rfl (blt_J hb 0 rfl) (cO_J0 hb _ _) rfl rfl ?_
  refine er_loc (pc' := 32) rfl rfl rfl ?_
  refine er_ia (pc' := 33) (k) rfl (blt_J hb 3 rfl) (cO_J3 hb _ _) rfl (by omega) rfl rfl ?_
  refine er_isub (pc' := 34) rfl rfl ?_
  refine er_pfIX (pc' := 37) 9 rfl (blt_J hb 0 rfl) (cO_J0 hb _ _) rfl (cO_J0 hb _ _) rfl ?_
  refine er_loc (pc' := 38) rfl rfl rfl ?_
  refine er_loc (pc' := 39) rfl rfl rfl ?_
  refine er_gf (pc' := 42) (_) rfl (blt_J hb 0 rfl) (cO_J0 hb _ _) rfl rfl ?_
  refine er_loc (pc' := 43) rfl rfl rfl ?_
  refine er_k (pc' := 44) (nI 1) rfl rfl rfl ?_
  refine er_cSi (pc' := 47) (rest := [_]) rfl rfl rfl (l_with _ _ _ true _) ?_
  refine er_pfIX (pc' := 50) 6 rfl (blt_J hb 0 rfl) (cO_J0 hb _ _) rfl (cO_J0 hb _ _) rfl ?_
  refine er_vret rfl rfl ?_
  exact RV_of (by simp [xPass, ud_at])
set_option maxRecDepth 100000 in
set_option maxHeartbeats 4000000 in
theorem l_finish (d : Nat) {b : Nat} (hb : jb b) (X Z : Nat → Nat → Int32) {T : Nat} (hI : IJ T (jx X b)) {k : Nat} (hk : k < jn (jx X b)) : EC (d + 6) 44 [.ref b, .int (nI k)] (Wd X Z) (RV (xFin X b k)) := by
  refine er_enter (L := [(0, _), (1, _)]) rfl rfl rfl ?_
  have h8 := jn8 hI
  have hk8 : k < 8 := by omega
  have hq := kind7 hI k
  refine er_loc (pc' := 1) rfl rfl rfl ?_
  refine er_loc (pc' := 2) rfl rfl rfl ?_
  refine er_cIi (pc' := 5) (rest := []) 7 rfl rfl rfl (blt_J hb 0 rfl) (cO_J0 hb _ _) rfl (l_has_t _ hb _ _ hI hk) ?_
  refine er_if_eqF (pc' := 8) rfl (by decide +kernel) rfl ?_
  refine er_loc (pc' := 9) rfl rfl rfl ?_
  refine er_loc (pc' := 10) rfl rfl rfl ?_
  refine er_gf (pc' := 13) (_) rfl (blt_J hb 0 rfl) (cO_J0 hb _ _) rfl rfl ?_
  refine er_loc (pc' := 14) rfl rfl rfl ?_
  refine er_ia (pc' := 15) (k) rfl (blt_J hb 2 rfl) (cO_J2 hb _ _) rfl (by omega) rfl rfl ?_
  refine er_loc (pc' := 16) rfl rfl rfl ?_
  refine er_cIi (pc' := 19) (rest := [_, _]) 7 rfl rfl rfl (blt_J hb 0 rfl) (cO_J0 hb _ _) rfl (l_tired _ hb _ _) ?_
  refine er_loc (pc' := 20) rfl rfl rfl ?_
  refine er_gf (pc' := 23) (_) rfl (blt_J hb 0 rfl) (cO_J0 hb _ _) rfl rfl ?_
  refine er_loc (pc' := 24) rfl rfl rfl ?_
  refine er_ia (pc' := 25) (k) rfl (blt_J hb 1 rfl) (cO_J1 hb _ _) rfl (by omega) rfl rfl ?_
  refine er_cIz (pc' := 28) (rest := []) 7 rfl rfl rfl (blt_J hb 0 rfl) (cO_J0 hb _ _) rfl (l_errsBy _ hb _ _ hI _ _ _) ?_
  intro Z1
  refine er_loc (pc' := 29) (L' := [(2, _), (0, _), (1, _)]) rfl rfl rfl ?_
  refine er_loc (pc' := 30) rfl rfl rfl ?_
  refine er_loc (pc' := 31) rfl rfl rfl ?_
  refine er_gf (pc' := 34) (_) rfl (blt_J hb 0 rfl) (cO_J0 hb _ _) rfl rfl ?_
  refine er_loc (pc' := 35) rfl rfl rfl ?_
  refine er_loc (pc' := 36) rfl rfl rfl ?_
  refine er_if_eq rfl rfl (fun h36 => ?_) (fun h36 => ?_)
  · refine er_k (pc' := 44) (nI 0) rfl rfl rfl ?_
    refine er_cSi (pc' := 47) (rest := [_]) rfl rfl rfl (l_with _ _ _ false _) ?_
    refine er_pfIX 7 rfl (blt_J hb 0 rfl) (cO_J0 hb _ _) rfl (cO_J0 hb _ _) rfl ?_
    refine er_loc (pc' := 51) rfl rfl rfl ?_
    refine er_loc (pc' := 52) rfl rfl rfl ?_
    have hI1 : IJ T (jx (ud X b 7 (sWith (X b 7) (nI k) false)) b) := by
      rw [jx_ud0 rfl]
      exact hI.uWrong (bt_with_lt hk h8 hI.wrong)
    have hk1 : k < jn (jx (ud X b 7 (sWith (X b 7) (nI k) false)) b) := by
      rw [jx_ud0 rfl]
      exact hk
    refine er_cIv (rest := []) 7 rfl rfl rfl (blt_J hb 0 rfl) (cO_J0 hb _ _) rfl (l_pass _ hb _ _ hI1 hk1) ?_
    intro Z3
    refine er_vret rfl rfl (RV_of ?_)
    unfold xFin
    rw [show (!decide (sErrs (jx X b) k = 0)) = false from by
      have e : sErrs (jx X b) k = sErrsBy (jx X b) (X (b + 2) k) (sTired (jx X b)) (X (b + 1) k) := by unfold sErrs; rw [jx2 hk8, jx1 hk8]
      rw [e]; simp [h36]]
  · refine er_k (pc' := 40) (nI 1) rfl rfl rfl ?_
    refine er_goto rfl ?_
    refine er_cSi (pc' := 47) (rest := [_]) rfl rfl rfl (l_with _ _ _ true _) ?_
    refine er_pfIX 7 rfl (blt_J hb 0 rfl) (cO_J0 hb _ _) rfl (cO_J0 hb _ _) rfl ?_
    refine er_loc (pc' := 51) rfl rfl rfl ?_
    refine er_loc (pc' := 52) rfl rfl rfl ?_
    have hI1 : IJ T (jx (ud X b 7 (sWith (X b 7) (nI k) true)) b) := by
      rw [jx_ud0 rfl]
      exact hI.uWrong (bt_with_lt hk h8 hI.wrong)
    have hk1 : k < jn (jx (ud X b 7 (sWith (X b 7) (nI k) true)) b) := by
      rw [jx_ud0 rfl]
      exact hk
    refine er_cIv (rest := []) 7 rfl rfl rfl (blt_J hb 0 rfl) (cO_J0 hb _ _) rfl (l_pass _ hb _ _ hI1 hk1) ?_
    intro Z3
    refine er_vret rfl rfl (RV_of ?_)
    unfold xFin
    rw [show (!decide (sErrs (jx X b) k = 0)) = true from by
      have e : sErrs (jx X b) k = sErrsBy (jx X b) (X (b + 2) k) (sTired (jx X b)) (X (b + 1) k) := by unfold sErrs; rw [jx2 hk8, jx1 hk8]
      rw [e]; simp [h36]]
set_option maxRecDepth 100000 in
set_option maxHeartbeats 4000000 in
theorem l_takeApart (d : Nat) {b : Nat} (hb : jb b) (X Z : Nat → Nat → Int32) {T : Nat} (hI : IJ T (jx X b)) {k : Nat} (hk : k < jn (jx X b)) : EC (d + 6) 46 [.ref b, .int (nI k)] (Wd X Z) (RV (xApart X b k)) := by
  refine er_enter (L := [(0, _), (1, _)]) rfl rfl rfl ?_
  have h8 := jn8 hI
  have hk8 : k < 8 := by omega
  have hq := kind7 hI k
  refine er_loc (pc' := 1) rfl rfl rfl ?_
  refine er_loc (pc' := 2) rfl rfl rfl ?_
  refine er_cIi (pc' := 5) (rest := []) 7 rfl rfl rfl (blt_J hb 0 rfl) (cO_J0 hb _ _) rfl (l_has_t _ hb _ _ hI hk) ?_
  refine er_if_eqF (pc' := 8) rfl (by decide +kernel) rfl ?_
  refine er_loc (pc' := 9) rfl rfl rfl ?_
  refine er_pure (pc' := 10) rfl rfl rfl ?_
  refine er_gf (pc' := 13) (_) rfl (blt_J hb 0 rfl) (cO_J0 hb _ _) rfl rfl ?_
  refine er_loc (pc' := 14) rfl rfl rfl ?_
  refine er_loc (pc' := 15) rfl rfl rfl ?_
  refine er_cIz (pc' := 18) (rest := [_, _]) 7 rfl rfl rfl (blt_J hb 0 rfl) (cO_J0 hb _ _) rfl (l_takesBack _ hb _ _ hI hk) ?_
  intro Z2
  refine er_iadd (pc' := 19) rfl rfl ?_
  refine er_pfIX (pc' := 22) 10 rfl (blt_J hb 0 rfl) (cO_J0 hb _ _) rfl (cO_J0 hb _ _) rfl ?_
  refine er_loc (pc' := 23) rfl rfl rfl ?_
  refine er_k (pc' := 26) (nI 999) rfl rfl rfl ?_
  refine er_loc (pc' := 27) rfl rfl rfl ?_
  refine er_gf (pc' := 30) (_) rfl (blt_J hb 0 rfl) (cO_J0 hb _ _) rfl rfl ?_
  refine er_k (pc' := 31) (nI 0) rfl rfl rfl ?_
  refine er_loc (pc' := 32) rfl rfl rfl ?_
  refine er_gf (pc' := 35) (_) rfl (blt_J hb 0 rfl) (cO_J0 hb _ _) rfl rfl ?_
  refine er_loc (pc' := 36) rfl rfl rfl ?_
  refine er_ia (pc' := 37) (k) rfl (blt_J hb 3 rfl) (cO_J3 hb _ _) rfl (by omega) rfl rfl ?_
  refine er_k (pc' := 38) (nI 1) rfl rfl rfl ?_
  refine er_isub (pc' := 39) rfl rfl ?_
  refine er_max (pc' := 42) rfl rfl rfl rfl ?_
  refine er_iadd (pc' := 43) rfl rfl ?_
  refine er_min (pc' := 46) rfl rfl rfl rfl ?_
  refine er_pfIX (pc' := 49) 9 rfl (blt_J hb 0 rfl) (cO_J0 hb _ _) rfl (cO_J0 hb _ _) rfl ?_
  refine er_loc (pc' := 50) rfl rfl rfl ?_
  refine er_loc (pc' := 51) rfl rfl rfl ?_
  refine er_gf (pc' := 54) (_) rfl (blt_J hb 0 rfl) (cO_J0 hb _ _) rfl rfl ?_
  refine er_loc (pc' := 55) rfl rfl rfl ?_
  refine er_k (pc' := 56) (nI 0) rfl rfl rfl ?_
  refine er_cSi (pc' := 59) (rest := [_]) rfl rfl rfl (l_with _ _ _ false _) ?_
  refine er_pfIX (pc' := 62) 6 rfl (blt_J hb 0 rfl) (cO_J0 hb _ _) rfl (cO_J0 hb _ _) rfl ?_
  refine er_loc (pc' := 63) rfl rfl rfl ?_
  refine er_loc (pc' := 64) rfl rfl rfl ?_
  refine er_gf (pc' := 67) (_) rfl (blt_J hb 0 rfl) (cO_J0 hb _ _) rfl rfl ?_
  refine er_loc (pc' := 68) rfl rfl rfl ?_
  refine er_k (pc' := 69) (nI 0) rfl rfl rfl ?_
  refine er_cSi (pc' := 72) (rest := [_]) rfl rfl rfl (l_with _ _ _ false _) ?_
  refine er_pfIX (pc' := 75) 7 rfl (blt_J hb 0 rfl) (cO_J0 hb _ _) rfl (cO_J0 hb _ _) rfl ?_
  refine er_vret rfl rfl ?_
  exact RV_of (by simp [xApart, sGive, ud_at])
set_option maxRecDepth 100000 in
set_option maxHeartbeats 4000000 in
theorem l_unpass (d : Nat) {b : Nat} (hb : jb b) (X Z : Nat → Nat → Int32) (k : Nat) (g t : Int32) : EC (d + 2) 51 [.ref b, .int (nI k), .int g, .int t] (Wd X Z) (RV (xUnpass X b k g t)) := by
  refine er_enter (L := [(0, _), (1, _), (2, _), (3, _)]) rfl rfl rfl ?_
  refine er_loc (pc' := 1) rfl rfl rfl ?_
  refine er_loc (pc' := 2) rfl rfl rfl ?_
  refine er_gf (pc' := 5) (_) rfl (blt_J hb 0 rfl) (cO_J0 hb _ _) rfl rfl ?_
  refine er_loc (pc' := 6) rfl rfl rfl ?_
  refine er_k (pc' := 7) (nI 0) rfl rfl rfl ?_
  refine er_cSi (pc' := 10) (rest := [_]) rfl rfl rfl (l_with _ _ _ false _) ?_
  refine er_pfIX (pc' := 13) 6 rfl (blt_J hb 0 rfl) (cO_J0 hb _ _) rfl (cO_J0 hb _ _) rfl ?_
  refine er_loc (pc' := 14) rfl rfl rfl ?_
  refine er_loc (pc' := 15) rfl rfl rfl ?_
  refine er_pfIX (pc' := 18) 9 rfl (blt_J hb 0 rfl) (cO_J0 hb _ _) rfl (cO_J0 hb _ _) rfl ?_
  refine er_loc (pc' := 19) rfl rfl rfl ?_
  refine er_loc (pc' := 20) rfl rfl rfl ?_
  refine er_pfIX (pc' := 23) 10 rfl (blt_J hb 0 rfl) (cO_J0 hb _ _) rfl (cO_J0 hb _ _) rfl ?_
  refine er_vret rfl rfl ?_
  exact RV_of (by simp [xUnpass, ud_at])
def sZ (z : Int32) : Int32 := z * 1103515245 + nI 12345
def sDraw (z : Int32) : Int32 := (z.toUInt32 >>> ((nI 8).toUInt32 &&& Int32.toUInt32 31)).toInt32
set_option maxRecDepth 100000 in
set_option maxHeartbeats 4000000 in
theorem l_draw (d : Nat) {b : Nat} (hb : jb b) (X Z : Nat → Nat → Int32) : EC (d + 1) 47 [.ref b] (Wd X Z) (RI (sDraw (sZ (X b 17))) (ud X b 17 (sZ (X b 17)))) := by
  refine er_enter (L := [(0, _)]) rfl rfl rfl ?_
  refine er_loc (pc' := 1) rfl rfl rfl ?_
  refine er_loc (pc' := 2) rfl rfl rfl ?_
  refine er_gf (pc' := 5) (_) rfl (blt_J hb 0 rfl) (cO_J0 hb _ _) rfl rfl ?_
  refine er_ldc (pc' := 7) (1103515245) rfl rfl rfl rfl rfl ?_
  refine er_imul (pc' := 8) rfl rfl ?_
  refine er_k (pc' := 11) (nI 12345) rfl rfl rfl ?_
  refine er_iadd (pc' := 12) rfl rfl ?_
  refine er_pfIX (pc' := 15) 17 rfl (blt_J hb 0 rfl) (cO_J0 hb _ _) rfl (cO_J0 hb _ _) rfl ?_
  refine er_loc (pc' := 16) rfl rfl rfl ?_
  refine er_gf (pc' := 19) (_) rfl (blt_J hb 0 rfl) (cO_J0 hb _ _) rfl rfl ?_
  refine er_k (pc' := 21) (nI 8) rfl rfl rfl ?_
  refine er_iushr (pc' := 22) rfl rfl ?_
  refine er_iret rfl rfl ?_
  exact RI_of (by simp [sDraw, sZ, ud_at]) rfl
def xAdd (X : Nat → Nat → Int32) (b n : Nat) (km s nd : Int32) : Nat → Nat → Int32 := ud (ud (ud (ud (ud X (b + 1) n (km / nI 10)) (b + 2) n (km - km / nI 10 * nI 10)) (b + 3) n s) (b + 4) n nd) b 1 (nI (n + 1))
def jAdd (J : Nat → Nat → Int32) (n : Nat) (km s nd : Int32) : Nat → Nat → Int32 := ud (ud (ud (ud (ud J 1 n (km / nI 10)) 2 n (km - km / nI 10 * nI 10)) 3 n s) 4 n nd) 0 1 (nI (n + 1))
theorem jx_xAdd {X : Nat → Nat → Int32} {b n : Nat} {km s nd : Int32} (h : n < 8) : jx (xAdd X b n km s nd) b = jAdd (jx X b) n km s nd := by
  unfold xAdd jAdd
  rw [jx_ud0 rfl, jx_ud4 h, jx_ud3 h, jx_ud2 h, jx_ud1 h]
set_option maxRecDepth 100000 in
set_option maxHeartbeats 4000000 in
theorem l_add (d : Nat) {b : Nat} (hb : jb b) (X Z : Nat → Nat → Int32) (n : Nat) (km s nd : Int32) (hn : X b 1 = nI n) (h8 : n < 8) : EC (d + 1) 32 [.ref b, .int km, .int s, .int nd] (Wd X Z) (RI (nI n) (xAdd X b n km s nd)) := by
  refine er_enter (L := [(0, _), (1, _), (2, _), (3, _)]) rfl rfl rfl ?_
  refine er_loc (pc' := 1) rfl rfl rfl ?_
  refine er_gf (pc' := 4) (_) rfl (blt_J hb 0 rfl) (cO_J0 hb _ _) rfl rfl ?_
  rw [hn]
  refine er_loc (pc' := 6) (L' := [(4, _), (0, _), (1, _), (2, _), (3, _)]) rfl rfl rfl ?_
  refine er_loc (pc' := 8) rfl rfl rfl ?_
  refine er_k (pc' := 10) (nI 8) rfl rfl rfl ?_
  refine er_cm_geF (pc' := 13) rfl (nI_lt h8 (by omega)) rfl ?_
  refine er_loc (pc' := 14) rfl rfl rfl ?_
  refine er_gf (pc' := 17) (_) rfl (blt_J hb 0 rfl) (cO_J0 hb _ _) rfl rfl ?_
  refine er_loc (pc' := 19) rfl rfl rfl ?_
  refine er_loc (pc' := 20) rfl rfl rfl ?_
  refine er_k (pc' := 22) (nI 10) rfl rfl rfl ?_
  refine er_idiv (pc' := 23) rfl rfl (by decide) ?_
  refine er_isX (pc' := 24) (n) rfl (blt_J hb 1 rfl) (fun f => cO_J1 hb f _) rfl (by omega) rfl rfl ?_
  refine er_loc (pc' := 25) rfl rfl rfl ?_
  refine er_gf (pc' := 28) (_) rfl (blt_J hb 0 rfl) (cO_J0 hb _ _) rfl rfl ?_
  refine er_loc (pc' := 30) rfl rfl rfl ?_
  refine er_loc (pc' := 31) rfl rfl rfl ?_
  refine er_k (pc' := 33) (nI 10) rfl rfl rfl ?_
  refine er_irem (pc' := 34) rfl rfl (by decide) ?_
  refine er_isX (pc' := 35) (n) rfl (blt_J hb 2 rfl) (fun f => cO_J2 hb f _) rfl (by omega) rfl rfl ?_
  refine er_loc (pc' := 36) rfl rfl rfl ?_
  refine er_gf (pc' := 39) (_) rfl (blt_J hb 0 rfl) (cO_J0 hb _ _) rfl rfl ?_
  refine er_loc (pc' := 41) rfl rfl rfl ?_
  refine er_loc (pc' := 42) rfl rfl rfl ?_
  refine er_isX (pc' := 43) (n) rfl (blt_J hb 3 rfl) (fun f => cO_J3 hb f _) rfl (by omega) rfl rfl ?_
  refine er_loc (pc' := 44) rfl rfl rfl ?_
  refine er_gf (pc' := 47) (_) rfl (blt_J hb 0 rfl) (cO_J0 hb _ _) rfl rfl ?_
  refine er_loc (pc' := 49) rfl rfl rfl ?_
  refine er_loc (pc' := 50) rfl rfl rfl ?_
  refine er_isX (pc' := 51) (n) rfl (blt_J hb 4 rfl) (fun f => cO_J4 hb f _) rfl (by omega) rfl rfl ?_
  refine er_loc (pc' := 52) rfl rfl rfl ?_
  refine er_pure (pc' := 53) rfl rfl rfl ?_
  refine er_gf (pc' := 56) (_) rfl (blt_J hb 0 rfl) (cO_J0 hb _ _) rfl rfl ?_
  refine er_k (pc' := 57) (nI 1) rfl rfl rfl ?_
  refine er_iadd (pc' := 58) rfl rfl ?_
  refine er_pfIX (pc' := 61) 1 rfl (blt_J hb 0 rfl) (cO_J0 hb _ _) rfl (cO_J0 hb _ _) rfl ?_
  refine er_loc (pc' := 63) rfl rfl rfl ?_
  refine er_iret rfl rfl ?_
  exact RI_of rfl (by simp [xAdd, ud_at, hn, nI_add])
