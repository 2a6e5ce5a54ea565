section
/-! THE REFERENCE, its face: voices -/
def YT (X : Nat → Nat → Int32) (t : VT) : Nat → Nat → Int32 := ud (uc X 75 t.2) 63 21 (nI t.1)
theorem YT_64 {X : Nat → Nat → Int32} {t : VT} : YT X t 64 = X 64 := by
  unfold YT
  rw [ud_ne (by omega), uc_ne (by omega)]
theorem YT_bg {X : Nat → Nat → Int32} {t : VT} {b : Int32} (h : t.1 < 40) : ud (ud (YT X t) 75 t.1 b) 63 21 (nI t.1 + nI 1) = YT X (bg t b) := by
  have e : bg t b = (t.1 + 1, u1 t.2 t.1 b) := if_pos h
  rw [e, nI_add]
  unfold YT
  funext i j
  simp only [ud_at, uc]
  by_cases h1 : i = 63
  · subst h1
    by_cases h2 : j = 21
    · subst h2; simp
    · simp [h2]
  · by_cases h3 : i = 75
    · subst h3
      simp [u1]
    · simp [h1, h3]
theorem YT_id {X : Nat → Nat → Int32} {g : Nat} (h : X 63 21 = nI g) : YT X (g, X 75) = X := by
  unfold YT
  rw [uc_id, ← h, ud_id]
set_option maxRecDepth 100000 in
set_option maxHeartbeats 4000000 in
theorem l_yBegins (d : Nat) (X Z : Nat → Nat → Int32) (t : VT) (ht : t.1 ≤ 40) (b : Int32) : EC (d + 1) 202 [.ref 63, .int b] (Wd (YT X t) Z) (RV (YT X (bg t b))) := by
  refine er_enter (L := [(0, _), (1, _)]) rfl rfl rfl ?_
  refine er_loc (pc' := 1) rfl rfl rfl ?_
  refine er_gf (pc' := 4) (.int (nI t.1)) rfl rfl rfl rfl rfl ?_
  refine er_k (pc' := 6) (nI 40) rfl rfl rfl ?_
  refine er_cm_ge (pc' := 9) rfl rfl (fun h6 => ?_) (fun h6 => ?_)
  · have hlt : ¬ t.1 < 40 := fun c => h6 (nI_lt c (by omega))
    refine er_vret rfl rfl ?_
    exact RV_of (by rw [show bg t b = t from if_neg hlt])
  · have hlt : t.1 < 40 := by
      rcases Nat.lt_or_ge t.1 40 with c | c
      · exact c
      · exact absurd h6 (nI_nlt c (by omega))
    refine er_loc (pc' := 10) rfl rfl rfl ?_
    refine er_gf (pc' := 13) (_) rfl rfl rfl rfl rfl ?_
    refine er_loc (pc' := 14) rfl rfl rfl ?_
    refine er_gf (pc' := 17) (.int (nI t.1)) rfl rfl rfl rfl rfl ?_
    refine er_loc (pc' := 18) rfl rfl rfl ?_
    refine er_isX (pc' := 19) (t.1) rfl rfl (fun _ => rfl) rfl (by omega) rfl rfl ?_
    refine er_loc (pc' := 20) rfl rfl rfl ?_
    refine er_pure (pc' := 21) rfl rfl rfl ?_
    refine er_gf (pc' := 24) (.int (nI t.1)) rfl rfl rfl rfl rfl ?_
    refine er_k (pc' := 25) (nI 1) rfl rfl rfl ?_
    refine er_iadd (pc' := 26) rfl rfl ?_
    refine er_pfIX (pc' := 29) 21 rfl rfl rfl rfl rfl rfl ?_
    refine er_vret rfl rfl ?_
    exact RV_of (YT_bg hlt)
theorem l_yo0 (d : Nat) (X Z : Nat → Nat → Int32) {T : Nat} (hI : RK T (X 64)) {k q : Nat} (hk8 : k < 8) (hq0 : sKind (jm (X 64)) k = q) (t : VT) : EC (d + 1) 133 [.ref 63, .int (nI k), .int (nI 0)] (Wd (YT X t) Z) (PI (nI q) (Wd (YT X t) Z)) := by
  have h := l_of0 d (YT X t) Z (T := T) (by rw [YT_64]; exact hI) hk8
  rw [YT_64, hq0] at h
  exact h
theorem l_yo1 (d : Nat) (X Z : Nat → Nat → Int32) {k : Nat} (hk8 : k < 8) (m : Int32) (hm : jm (X 64) 2 k = m) (t : VT) : EC (d + 1) 133 [.ref 63, .int (nI k), .int (nI 1)] (Wd (YT X t) Z) (PI m (Wd (YT X t) Z)) := by
  have h := l_of1 d (YT X t) Z hk8
  rw [YT_64, hm] at h
  exact h
set_option maxRecDepth 100000 in
set_option maxHeartbeats 4000000 in
theorem l_yPF (d : Nat) (X Z : Nat → Nat → Int32) {T : Nat} (hI : RK T (X 64)) {k q : Nat} (hk8 : k < 8) (hq : q < 7) (hq0 : sKind (jm (X 64)) k = q) (m : Int32) (hm : jm (X 64) 2 k = m) (t : VT) (ht : t.1 ≤ 40) (x : Int32) : EC (d + 2) 203 [.ref 63, .int (nI k), .int x] (Wd (YT X t) Z) (RI (vPF (nI k) x t).1 (YT X (vPF (nI k) x t).2)) := by
  refine er_enter (L := [(0, _), (1, _), (2, _)]) rfl rfl rfl ?_
  unfold vPF
  refine er_loc (pc' := 1) rfl rfl rfl ?_
  refine er_k (pc' := 3) (nI 10) rfl rfl rfl ?_
  refine er_cIv (pc' := 6) (rest := []) 12 rfl rfl rfl rfl rfl rfl (l_yBegins _ X _ _ (ht) _) ?_
  intro Z7
  refine er_loc (pc' := 7) rfl rfl rfl ?_
  refine er_loc (pc' := 8) rfl rfl rfl ?_
  refine er_iadd (pc' := 9) rfl rfl ?_
  refine er_iret rfl rfl ?_
  exact RI_of (by dsimp only) (by dsimp only)
set_option maxRecDepth 100000 in
set_option maxHeartbeats 4000000 in
theorem l_yFits (d : Nat) (X Z : Nat → Nat → Int32) {T : Nat} (hI : RK T (X 64)) {k q : Nat} (hk8 : k < 8) (hq : q < 7) (hq0 : sKind (jm (X 64)) k = q) (m : Int32) (hm : jm (X 64) 2 k = m) (t : VT) (ht : t.1 ≤ 40) (x : Int32) : EC (d + 3) 201 [.ref 63, .int (nI k), .int x] (Wd (YT X t) Z) (RI (vFits q (nI k) x t).1 (YT X (vFits q (nI k) x t).2)) := by
  rcases lt7 hq with e | e | e | e | e | e | e
  · subst e
    rw [show vFits 0 (nI k) x t = vPF (nI k) x t from if_neg (by omega)]
    refine er_enter (L := [(0, _), (1, _), (2, _)]) rfl rfl rfl ?_
    refine er_loc (pc' := 1) rfl rfl rfl ?_
    refine er_loc (pc' := 2) rfl rfl rfl ?_
    refine er_k (pc' := 3) (nI 0) rfl rfl rfl ?_
    refine er_cIi (pc' := 6) (rest := []) 12 rfl rfl rfl rfl rfl rfl (l_yo0 _ X _ hI hk8 hq0 _) ?_
    refine er_k (pc' := 7) (nI 1) rfl rfl rfl ?_
    refine er_cm_eqF (pc' := 10) rfl (by decide +kernel) rfl ?_
    refine er_loc (pc' := 11) rfl rfl rfl ?_
    refine er_loc (pc' := 12) rfl rfl rfl ?_
    refine er_k (pc' := 13) (nI 0) rfl rfl rfl ?_
    refine er_cIi (pc' := 16) (rest := []) 12 rfl rfl rfl rfl rfl rfl (l_yo0 _ X _ hI hk8 hq0 _) ?_
    refine er_k (pc' := 17) (nI 4) rfl rfl rfl ?_
    refine er_cm_neT rfl (by decide +kernel) ?_
    refine er_loc (pc' := 36) rfl rfl rfl ?_
    refine er_loc (pc' := 37) rfl rfl rfl ?_
    refine er_loc (pc' := 38) rfl rfl rfl ?_
    refine er_cIz (pc' := 41) (rest := []) 12 rfl rfl rfl rfl rfl rfl (l_yPF _ X _ hI hk8 hq hq0 m hm _ (ht) _) ?_
    intro Z2
    refine er_iret rfl rfl ?_
    exact RI_of (by dsimp only) (by dsimp only)
  · subst e
    rw [show vFits 1 (nI k) x t = ((vPF (nI k) x (bg t (nI 20))).1 * nI 3, (vPF (nI k) x (bg t (nI 20))).2) from if_pos (by omega)]
    refine er_enter (L := [(0, _), (1, _), (2, _)]) rfl rfl rfl ?_
    refine er_loc (pc' := 1) rfl rfl rfl ?_
    refine er_loc (pc' := 2) rfl rfl rfl ?_
    refine er_k (pc' := 3) (nI 0) rfl rfl rfl ?_
    refine er_cIi (pc' := 6) (rest := []) 12 rfl rfl rfl rfl rfl rfl (l_yo0 _ X _ hI hk8 hq0 _) ?_
    refine er_k (pc' := 7) (nI 1) rfl rfl rfl ?_
    refine er_cm_eqT rfl (rfl) ?_
    refine er_loc (pc' := 21) rfl rfl rfl ?_
    refine er_k (pc' := 23) (nI 20) rfl rfl rfl ?_
    refine er_cIv (pc' := 26) (rest := []) 12 rfl rfl rfl rfl rfl rfl (l_yBegins _ X _ _ (ht) _) ?_
    intro Z7
    refine er_loc (pc' := 27) rfl rfl rfl ?_
    refine er_loc (pc' := 28) rfl rfl rfl ?_
    refine er_loc (pc' := 29) rfl rfl rfl ?_
    refine er_cIz (pc' := 32) (rest := []) 12 rfl rfl rfl rfl rfl rfl (l_yPF _ X _ hI hk8 hq hq0 m hm _ (bg_le ht) _) ?_
    intro Z2
    refine er_k (pc' := 33) (nI 3) rfl rfl rfl ?_
    refine er_imul (pc' := 34) rfl rfl ?_
    refine er_iret rfl rfl ?_
    exact RI_of (by dsimp only) (by dsimp only)
  · subst e
    rw [show vFits 2 (nI k) x t = vPF (nI k) x t from if_neg (by omega)]
    refine er_enter (L := [(0, _), (1, _), (2, _)]) rfl rfl rfl ?_
    refine er_loc (pc' := 1) rfl rfl rfl ?_
    refine er_loc (pc' := 2) rfl rfl rfl ?_
    refine er_k (pc' := 3) (nI 0) rfl rfl rfl ?_
    refine er_cIi (pc' := 6) (rest := []) 12 rfl rfl rfl rfl rfl rfl (l_yo0 _ X _ hI hk8 hq0 _) ?_
    refine er_k (pc' := 7) (nI 1) rfl rfl rfl ?_
    refine er_cm_eqF (pc' := 10) rfl (by decide +kernel) rfl ?_
    refine er_loc (pc' := 11) rfl rfl rfl ?_
    refine er_loc (pc' := 12) rfl rfl rfl ?_
    refine er_k (pc' := 13) (nI 0) rfl rfl rfl ?_
    refine er_cIi (pc' := 16) (rest := []) 12 rfl rfl rfl rfl rfl rfl (l_yo0 _ X _ hI hk8 hq0 _) ?_
    refine er_k (pc' := 17) (nI 4) rfl rfl rfl ?_
    refine er_cm_neT rfl (by decide +kernel) ?_
    refine er_loc (pc' := 36) rfl rfl rfl ?_
    refine er_loc (pc' := 37) rfl rfl rfl ?_
    refine er_loc (pc' := 38) rfl rfl rfl ?_
    refine er_cIz (pc' := 41) (rest := []) 12 rfl rfl rfl rfl rfl rfl (l_yPF _ X _ hI hk8 hq hq0 m hm _ (ht) _) ?_
    intro Z2
    refine er_iret rfl rfl ?_
    exact RI_of (by dsimp only) (by dsimp only)
  · subst e
    rw [show vFits 3 (nI k) x t = vPF (nI k) x t from if_neg (by omega)]
    refine er_enter (L := [(0, _), (1, _), (2, _)]) rfl rfl rfl ?_
    refine er_loc (pc' := 1) rfl rfl rfl ?_
    refine er_loc (pc' := 2) rfl rfl rfl ?_
    refine er_k (pc' := 3) (nI 0) rfl rfl rfl ?_
    refine er_cIi (pc' := 6) (rest := []) 12 rfl rfl rfl rfl rfl rfl (l_yo0 _ X _ hI hk8 hq0 _) ?_
    refine er_k (pc' := 7) (nI 1) rfl rfl rfl ?_
    refine er_cm_eqF (pc' := 10) rfl (by decide +kernel) rfl ?_
    refine er_loc (pc' := 11) rfl rfl rfl ?_
    refine er_loc (pc' := 12) rfl rfl rfl ?_
    refine er_k (pc' := 13) (nI 0) rfl rfl rfl ?_
    refine er_cIi (pc' := 16) (rest := []) 12 rfl rfl rfl rfl rfl rfl (l_yo0 _ X _ hI hk8 hq0 _) ?_
    refine er_k (pc' := 17) (nI 4) rfl rfl rfl ?_
    refine er_cm_neT rfl (by decide +kernel) ?_
    refine er_loc (pc' := 36) rfl rfl rfl ?_
    refine er_loc (pc' := 37) rfl rfl rfl ?_
    refine er_loc (pc' := 38) rfl rfl rfl ?_
    refine er_cIz (pc' := 41) (rest := []) 12 rfl rfl rfl rfl rfl rfl (l_yPF _ X _ hI hk8 hq hq0 m hm _ (ht) _) ?_
    intro Z2
    refine er_iret rfl rfl ?_
    exact RI_of (by dsimp only) (by dsimp only)
  · subst e
    rw [show vFits 4 (nI k) x t = ((vPF (nI k) x (bg t (nI 20))).1 * nI 3, (vPF (nI k) x (bg t (nI 20))).2) from if_pos (by omega)]
    refine er_enter (L := [(0, _), (1, _), (2, _)]) rfl rfl rfl ?_
    refine er_loc (pc' := 1) rfl rfl rfl ?_
    refine er_loc (pc' := 2) rfl rfl rfl ?_
    refine er_k (pc' := 3) (nI 0) rfl rfl rfl ?_
    refine er_cIi (pc' := 6) (rest := []) 12 rfl rfl rfl rfl rfl rfl (l_yo0 _ X _ hI hk8 hq0 _) ?_
    refine er_k (pc' := 7) (nI 1) rfl rfl rfl ?_
    refine er_cm_eqF (pc' := 10) rfl (by decide +kernel) rfl ?_
    refine er_loc (pc' := 11) rfl rfl rfl ?_
    refine er_loc (pc' := 12) rfl rfl rfl ?_
    refine er_k (pc' := 13) (nI 0) rfl rfl rfl ?_
    refine er_cIi (pc' := 16) (rest := []) 12 rfl rfl rfl rfl rfl rfl (l_yo0 _ X _ hI hk8 hq0 _) ?_
    refine er_k (pc' := 17) (nI 4) rfl rfl rfl ?_
    refine er_cm_neF (pc' := 20) rfl (rfl) rfl ?_
    refine er_loc (pc' := 21) rfl rfl rfl ?_
    refine er_k (pc' := 23) (nI 20) rfl rfl rfl ?_
    refine er_cIv (pc' := 26) (rest := []) 12 rfl rfl rfl rfl rfl rfl (l_yBegins _ X _ _ (ht) _) ?_
    intro Z7
    refine er_loc (pc' := 27) rfl rfl rfl ?_
    refine er_loc (pc' := 28) rfl rfl rfl ?_
    refine er_loc (pc' := 29) rfl rfl rfl ?_
    refine er_cIz (pc' := 32) (rest := []) 12 rfl rfl rfl rfl rfl rfl (l_yPF _ X _ hI hk8 hq hq0 m hm _ (bg_le ht) _) ?_
    intro Z2
    refine er_k (pc' := 33) (nI 3) rfl rfl rfl ?_
    refine er_imul (pc' := 34) rfl rfl ?_
    refine er_iret rfl rfl ?_
    exact RI_of (by dsimp only) (by dsimp only)
  · subst e
    rw [show vFits 5 (nI k) x t = vPF (nI k) x t from if_neg (by omega)]
    refine er_enter (L := [(0, _), (1, _), (2, _)]) rfl rfl rfl ?_
    refine er_loc (pc' := 1) rfl rfl rfl ?_
    refine er_loc (pc' := 2) rfl rfl rfl ?_
    refine er_k (pc' := 3) (nI 0) rfl rfl rfl ?_
    refine er_cIi (pc' := 6) (rest := []) 12 rfl rfl rfl rfl rfl rfl (l_yo0 _ X _ hI hk8 hq0 _) ?_
    refine er_k (pc' := 7) (nI 1) rfl rfl rfl ?_
    refine er_cm_eqF (pc' := 10) rfl (by decide +kernel) rfl ?_
    refine er_loc (pc' := 11) rfl rfl rfl ?_
    refine er_loc (pc' := 12) rfl rfl rfl ?_
    refine er_k (pc' := 13) (nI 0) rfl rfl rfl ?_
    refine er_cIi (pc' := 16) (rest := []) 12 rfl rfl rfl rfl rfl rfl (l_yo0 _ X _ hI hk8 hq0 _) ?_
    refine er_k (pc' := 17) (nI 4) rfl rfl rfl ?_
    refine er_cm_neT rfl (by decide +kernel) ?_
    refine er_loc (pc' := 36) rfl rfl rfl ?_
    refine er_loc (pc' := 37) rfl rfl rfl ?_
    refine er_loc (pc' := 38) rfl rfl rfl ?_
    refine er_cIz (pc' := 41) (rest := []) 12 rfl rfl rfl rfl rfl rfl (l_yPF _ X _ hI hk8 hq hq0 m hm _ (ht) _) ?_
    intro Z2
    refine er_iret rfl rfl ?_
    exact RI_of (by dsimp only) (by dsimp only)
  · subst e
    rw [show vFits 6 (nI k) x t = vPF (nI k) x t from if_neg (by omega)]
    refine er_enter (L := [(0, _), (1, _), (2, _)]) rfl rfl rfl ?_
    refine er_loc (pc' := 1) rfl rfl rfl ?_
    refine er_loc (pc' := 2) rfl rfl rfl ?_
    refine er_k (pc' := 3) (nI 0) rfl rfl rfl ?_
    refine er_cIi (pc' := 6) (rest := []) 12 rfl rfl rfl rfl rfl rfl (l_yo0 _ X _ hI hk8 hq0 _) ?_
    refine er_k (pc' := 7) (nI 1) rfl rfl rfl ?_
    refine er_cm_eqF (pc' := 10) rfl (by decide +kernel) rfl ?_
    refine er_loc (pc' := 11) rfl rfl rfl ?_
    refine er_loc (pc' := 12) rfl rfl rfl ?_
    refine er_k (pc' := 13) (nI 0) rfl rfl rfl ?_
    refine er_cIi (pc' := 16) (rest := []) 12 rfl rfl rfl rfl rfl rfl (l_yo0 _ X _ hI hk8 hq0 _) ?_
    refine er_k (pc' := 17) (nI 4) rfl rfl rfl ?_
    refine er_cm_neT rfl (by decide +kernel) ?_
    refine er_loc (pc' := 36) rfl rfl rfl ?_
    refine er_loc (pc' := 37) rfl rfl rfl ?_
    refine er_loc (pc' := 38) rfl rfl rfl ?_
    refine er_cIz (pc' := 41) (rest := []) 12 rfl rfl rfl rfl rfl rfl (l_yPF _ X _ hI hk8 hq hq0 m hm _ (ht) _) ?_
    intro Z2
    refine er_iret rfl rfl ?_
    exact RI_of (by dsimp only) (by dsimp only)
set_option maxRecDepth 100000 in
set_option maxHeartbeats 4000000 in
theorem l_yPE (d : Nat) (X Z : Nat → Nat → Int32) {T : Nat} (hI : RK T (X 64)) {k q : Nat} (hk8 : k < 8) (hq : q < 7) (hq0 : sKind (jm (X 64)) k = q) (m : Int32) (hm : jm (X 64) 2 k = m) (t : VT) (ht : t.1 ≤ 40) (x : Int32) : EC (d + 4) 206 [.ref 63, .int (nI k), .int x] (Wd (YT X t) Z) (RI (vPE q (nI k) x t).1 (YT X (vPE q (nI k) x t).2)) := by
  refine er_enter (L := [(0, _), (1, _), (2, _)]) rfl rfl rfl ?_
  unfold vPE
  refine er_loc (pc' := 1) rfl rfl rfl ?_
  refine er_k (pc' := 3) (nI 11) rfl rfl rfl ?_
  refine er_cIv (pc' := 6) (rest := []) 12 rfl rfl rfl rfl rfl rfl (l_yBegins _ X _ _ (ht) _) ?_
  intro Z7
  refine er_loc (pc' := 7) rfl rfl rfl ?_
  refine er_loc (pc' := 8) rfl rfl rfl ?_
  refine er_loc (pc' := 9) rfl rfl rfl ?_
  refine er_cIz (pc' := 12) (rest := []) 12 rfl rfl rfl rfl rfl rfl (l_yFits _ X _ hI hk8 hq hq0 m hm _ (bg_le ht) _) ?_
  intro Z2
  refine er_k (pc' := 13) (nI 2) rfl rfl rfl ?_
  refine er_imul (pc' := 14) rfl rfl ?_
  refine er_iret rfl rfl ?_
  exact RI_of (by dsimp only) (by dsimp only)
set_option maxRecDepth 100000 in
set_option maxHeartbeats 4000000 in
theorem l_yPL (d : Nat) (X Z : Nat → Nat → Int32) {T : Nat} (hI : RK T (X 64)) {k q : Nat} (hk8 : k < 8) (hq : q < 7) (hq0 : sKind (jm (X 64)) k = q) (m : Int32) (hm : jm (X 64) 2 k = m) (t : VT) (ht : t.1 ≤ 40) (x : Int32) : EC (d + 2) 209 [.ref 63, .int (nI k), .int x] (Wd (YT X t) Z) (RI (vPL m x t).1 (YT X (vPL m x t).2)) := by
  refine er_enter (L := [(0, _), (1, _), (2, _)]) rfl rfl rfl ?_
  unfold vPL
  refine er_loc (pc' := 1) rfl rfl rfl ?_
  refine er_k (pc' := 3) (nI 12) rfl rfl rfl ?_
  refine er_cIv (pc' := 6) (rest := []) 12 rfl rfl rfl rfl rfl rfl (l_yBegins _ X _ _ (ht) _) ?_
  intro Z7
  refine er_loc (pc' := 7) rfl rfl rfl ?_
  refine er_loc (pc' := 8) rfl rfl rfl ?_
  refine er_loc (pc' := 9) rfl rfl rfl ?_
  refine er_k (pc' := 10) (nI 1) rfl rfl rfl ?_
  refine er_cIi (pc' := 13) (rest := [_]) 12 rfl rfl rfl rfl rfl rfl (l_yo1 _ X _ hk8 m hm _) ?_
  refine er_isub (pc' := 14) rfl rfl ?_
  refine er_iret rfl rfl ?_
  exact RI_of (by dsimp only) (by dsimp only)
set_option maxRecDepth 100000 in
set_option maxHeartbeats 4000000 in
theorem l_yHL (d : Nat) (X Z : Nat → Nat → Int32) {T : Nat} (hI : RK T (X 64)) {k q : Nat} (hk8 : k < 8) (hq : q < 7) (hq0 : sKind (jm (X 64)) k = q) (m : Int32) (hm : jm (X 64) 2 k = m) (t : VT) (ht : t.1 ≤ 40) (x : Int32) : EC (d + 3) 208 [.ref 63, .int (nI k), .int x] (Wd (YT X t) Z) (RI (vHL m x t).1 (YT X (vHL m x t).2)) := by
  refine er_enter (L := [(0, _), (1, _), (2, _)]) rfl rfl rfl ?_
  unfold vHL
  refine er_loc (pc' := 1) rfl rfl rfl ?_
  refine er_k (pc' := 3) (nI 40) rfl rfl rfl ?_
  refine er_cIv (pc' := 6) (rest := []) 12 rfl rfl rfl rfl rfl rfl (l_yBegins _ X _ _ (ht) _) ?_
  intro Z7
  refine er_loc (pc' := 7) rfl rfl rfl ?_
  refine er_loc (pc' := 8) rfl rfl rfl ?_
  refine er_loc (pc' := 9) rfl rfl rfl ?_
  refine er_cIz (pc' := 12) (rest := []) 12 rfl rfl rfl rfl rfl rfl (l_yPL _ X _ hI hk8 hq hq0 m hm _ (bg_le ht) _) ?_
  intro Z2
  refine er_ineg (pc' := 13) rfl rfl ?_
  refine er_iret rfl rfl ?_
  exact RI_of (by dsimp only) (by dsimp only)
set_option maxRecDepth 100000 in
set_option maxHeartbeats 4000000 in
theorem l_yLooks (d : Nat) (X Z : Nat → Nat → Int32) {T : Nat} (hI : RK T (X 64)) {k q : Nat} (hk8 : k < 8) (hq : q < 7) (hq0 : sKind (jm (X 64)) k = q) (m : Int32) (hm : jm (X 64) 2 k = m) (t : VT) (ht : t.1 ≤ 40) (x : Int32) : EC (d + 4) 207 [.ref 63, .int (nI k), .int x] (Wd (YT X t) Z) (RI (vLooks q (nI k) m x t).1 (YT X (vLooks q (nI k) m x t).2)) := by
  rcases lt7 hq with e | e | e | e | e | e | e
  · subst e
    rw [show vLooks 0 (nI k) m x t = vPL m x t from (if_neg (by omega)).trans (if_neg (by omega))]
    refine er_enter (L := [(0, _), (1, _), (2, _)]) rfl rfl rfl ?_
    refine er_loc (pc' := 1) rfl rfl rfl ?_
    refine er_loc (pc' := 2) rfl rfl rfl ?_
    refine er_k (pc' := 3) (nI 0) rfl rfl rfl ?_
    refine er_cIi (pc' := 6) (rest := []) 12 rfl rfl rfl rfl rfl rfl (l_yo0 _ X _ hI hk8 hq0 _) ?_
    refine er_sw (3) rfl rfl (fun s6_3 => ?_) (fun s6_3 => ?_)
    · exact absurd s6_3 (by decide +kernel)
    refine er_sw (6) rfl rfl (fun s6_6 => ?_) (fun s6_6 => ?_)
    · exact absurd s6_6 (by decide +kernel)
    refine er_lsD rfl rfl rfl (List.forall_mem_cons.mpr ⟨ne_toInt s6_3 rfl, List.forall_mem_cons.mpr ⟨ne_toInt s6_6 rfl, fun _ h => absurd h List.not_mem_nil⟩⟩) ?_
    refine er_loc (pc' := 55) rfl rfl rfl ?_
    refine er_loc (pc' := 56) rfl rfl rfl ?_
    refine er_loc (pc' := 57) rfl rfl rfl ?_
    refine er_cIz (pc' := 60) (rest := []) 12 rfl rfl rfl rfl rfl rfl (l_yPL _ X _ hI hk8 hq hq0 m hm _ (ht) _) ?_
    intro Z2
    refine er_iret rfl rfl ?_
    exact RI_of (by dsimp only) (by dsimp only)
  · subst e
    rw [show vLooks 1 (nI k) m x t = vPL m x t from (if_neg (by omega)).trans (if_neg (by omega))]
    refine er_enter (L := [(0, _), (1, _), (2, _)]) rfl rfl rfl ?_
    refine er_loc (pc' := 1) rfl rfl rfl ?_
    refine er_loc (pc' := 2) rfl rfl rfl ?_
    refine er_k (pc' := 3) (nI 0) rfl rfl rfl ?_
    refine er_cIi (pc' := 6) (rest := []) 12 rfl rfl rfl rfl rfl rfl (l_yo0 _ X _ hI hk8 hq0 _) ?_
    refine er_sw (3) rfl rfl (fun s6_3 => ?_) (fun s6_3 => ?_)
    · exact absurd s6_3 (by decide +kernel)
    refine er_sw (6) rfl rfl (fun s6_6 => ?_) (fun s6_6 => ?_)
    · exact absurd s6_6 (by decide +kernel)
    refine er_lsD rfl rfl rfl (List.forall_mem_cons.mpr ⟨ne_toInt s6_3 rfl, List.forall_mem_cons.mpr ⟨ne_toInt s6_6 rfl, fun _ h => absurd h List.not_mem_nil⟩⟩) ?_
    refine er_loc (pc' := 55) rfl rfl rfl ?_
    refine er_loc (pc' := 56) rfl rfl rfl ?_
    refine er_loc (pc' := 57) rfl rfl rfl ?_
    refine er_cIz (pc' := 60) (rest := []) 12 rfl rfl rfl rfl rfl rfl (l_yPL _ X _ hI hk8 hq hq0 m hm _ (ht) _) ?_
    intro Z2
    refine er_iret rfl rfl ?_
    exact RI_of (by dsimp only) (by dsimp only)
  · subst e
    rw [show vLooks 2 (nI k) m x t = vPL m x t from (if_neg (by omega)).trans (if_neg (by omega))]
    refine er_enter (L := [(0, _), (1, _), (2, _)]) rfl rfl rfl ?_
    refine er_loc (pc' := 1) rfl rfl rfl ?_
    refine er_loc (pc' := 2) rfl rfl rfl ?_
    refine er_k (pc' := 3) (nI 0) rfl rfl rfl ?_
    refine er_cIi (pc' := 6) (rest := []) 12 rfl rfl rfl rfl rfl rfl (l_yo0 _ X _ hI hk8 hq0 _) ?_
    refine er_sw (3) rfl rfl (fun s6_3 => ?_) (fun s6_3 => ?_)
    · exact absurd s6_3 (by decide +kernel)
    refine er_sw (6) rfl rfl (fun s6_6 => ?_) (fun s6_6 => ?_)
    · exact absurd s6_6 (by decide +kernel)
    refine er_lsD rfl rfl rfl (List.forall_mem_cons.mpr ⟨ne_toInt s6_3 rfl, List.forall_mem_cons.mpr ⟨ne_toInt s6_6 rfl, fun _ h => absurd h List.not_mem_nil⟩⟩) ?_
    refine er_loc (pc' := 55) rfl rfl rfl ?_
    refine er_loc (pc' := 56) rfl rfl rfl ?_
    refine er_loc (pc' := 57) rfl rfl rfl ?_
    refine er_cIz (pc' := 60) (rest := []) 12 rfl rfl rfl rfl rfl rfl (l_yPL _ X _ hI hk8 hq hq0 m hm _ (ht) _) ?_
    intro Z2
    refine er_iret rfl rfl ?_
    exact RI_of (by dsimp only) (by dsimp only)
  · subst e
    rw [show vLooks 3 (nI k) m x t = vHL m x t from if_pos rfl]
    refine er_enter (L := [(0, _), (1, _), (2, _)]) rfl rfl rfl ?_
    refine er_loc (pc' := 1) rfl rfl rfl ?_
    refine er_loc (pc' := 2) rfl rfl rfl ?_
    refine er_k (pc' := 3) (nI 0) rfl rfl rfl ?_
    refine er_cIi (pc' := 6) (rest := []) 12 rfl rfl rfl rfl rfl rfl (l_yo0 _ X _ hI hk8 hq0 _) ?_
    refine er_swT (3) rfl (by decide +kernel) rfl ?_
    refine er_loc (pc' := 33) rfl rfl rfl ?_
    refine er_loc (pc' := 34) rfl rfl rfl ?_
    refine er_loc (pc' := 35) rfl rfl rfl ?_
    refine er_cIz (pc' := 38) (rest := []) 12 rfl rfl rfl rfl rfl rfl (l_yHL _ X _ hI hk8 hq hq0 m hm _ (ht) _) ?_
    intro Z2
    refine er_iret rfl rfl ?_
    exact RI_of (by dsimp only) (by dsimp only)
  · subst e
    rw [show vLooks 4 (nI k) m x t = vPL m x t from (if_neg (by omega)).trans (if_neg (by omega))]
    refine er_enter (L := [(0, _), (1, _), (2, _)]) rfl rfl rfl ?_
    refine er_loc (pc' := 1) rfl rfl rfl ?_
    refine er_loc (pc' := 2) rfl rfl rfl ?_
    refine er_k (pc' := 3) (nI 0) rfl rfl rfl ?_
    refine er_cIi (pc' := 6) (rest := []) 12 rfl rfl rfl rfl rfl rfl (l_yo0 _ X _ hI hk8 hq0 _) ?_
    refine er_sw (3) rfl rfl (fun s6_3 => ?_) (fun s6_3 => ?_)
    · exact absurd s6_3 (by decide +kernel)
    refine er_sw (6) rfl rfl (fun s6_6 => ?_) (fun s6_6 => ?_)
    · exact absurd s6_6 (by decide +kernel)
    refine er_lsD rfl rfl rfl (List.forall_mem_cons.mpr ⟨ne_toInt s6_3 rfl, List.forall_mem_cons.mpr ⟨ne_toInt s6_6 rfl, fun _ h => absurd h List.not_mem_nil⟩⟩) ?_
    refine er_loc (pc' := 55) rfl rfl rfl ?_
    refine er_loc (pc' := 56) rfl rfl rfl ?_
    refine er_loc (pc' := 57) rfl rfl rfl ?_
    refine er_cIz (pc' := 60) (rest := []) 12 rfl rfl rfl rfl rfl rfl (l_yPL _ X _ hI hk8 hq hq0 m hm _ (ht) _) ?_
    intro Z2
    refine er_iret rfl rfl ?_
    exact RI_of (by dsimp only) (by dsimp only)
  · subst e
    rw [show vLooks 5 (nI k) m x t = vPL m x t from (if_neg (by omega)).trans (if_neg (by omega))]
    refine er_enter (L := [(0, _), (1, _), (2, _)]) rfl rfl rfl ?_
    refine er_loc (pc' := 1) rfl rfl rfl ?_
    refine er_loc (pc' := 2) rfl rfl rfl ?_
    refine er_k (pc' := 3) (nI 0) rfl rfl rfl ?_
    refine er_cIi (pc' := 6) (rest := []) 12 rfl rfl rfl rfl rfl rfl (l_yo0 _ X _ hI hk8 hq0 _) ?_
    refine er_sw (3) rfl rfl (fun s6_3 => ?_) (fun s6_3 => ?_)
    · exact absurd s6_3 (by decide +kernel)
    refine er_sw (6) rfl rfl (fun s6_6 => ?_) (fun s6_6 => ?_)
    · exact absurd s6_6 (by decide +kernel)
    refine er_lsD rfl rfl rfl (List.forall_mem_cons.mpr ⟨ne_toInt s6_3 rfl, List.forall_mem_cons.mpr ⟨ne_toInt s6_6 rfl, fun _ h => absurd h List.not_mem_nil⟩⟩) ?_
    refine er_loc (pc' := 55) rfl rfl rfl ?_
    refine er_loc (pc' := 56) rfl rfl rfl ?_
    refine er_loc (pc' := 57) rfl rfl rfl ?_
    refine er_cIz (pc' := 60) (rest := []) 12 rfl rfl rfl rfl rfl rfl (l_yPL _ X _ hI hk8 hq hq0 m hm _ (ht) _) ?_
    intro Z2
    refine er_iret rfl rfl ?_
    exact RI_of (by dsimp only) (by dsimp only)
  · subst e
    rw [show vLooks 6 (nI k) m x t = ((vHL m x (bg t (nI 70))).1 ^^^ (nI k), (vHL m x (bg t (nI 70))).2) from (if_neg (by omega)).trans (if_pos rfl)]
    refine er_enter (L := [(0, _), (1, _), (2, _)]) rfl rfl rfl ?_
    refine er_loc (pc' := 1) rfl rfl rfl ?_
    refine er_loc (pc' := 2) rfl rfl rfl ?_
    refine er_k (pc' := 3) (nI 0) rfl rfl rfl ?_
    refine er_cIi (pc' := 6) (rest := []) 12 rfl rfl rfl rfl rfl rfl (l_yo0 _ X _ hI hk8 hq0 _) ?_
    refine er_swT (6) rfl (by decide +kernel) rfl ?_
    refine er_loc (pc' := 40) rfl rfl rfl ?_
    refine er_k (pc' := 42) (nI 70) rfl rfl rfl ?_
    refine er_cIv (pc' := 45) (rest := []) 12 rfl rfl rfl rfl rfl rfl (l_yBegins _ X _ _ (ht) _) ?_
    intro Z7
    refine er_loc (pc' := 46) rfl rfl rfl ?_
    refine er_loc (pc' := 47) rfl rfl rfl ?_
    refine er_loc (pc' := 48) rfl rfl rfl ?_
    refine er_cIz (pc' := 51) (rest := []) 12 rfl rfl rfl rfl rfl rfl (l_yHL _ X _ hI hk8 hq hq0 m hm _ (bg_le ht) _) ?_
    intro Z2
    refine er_loc (pc' := 52) rfl rfl rfl ?_
    refine er_ixor (pc' := 53) rfl rfl ?_
    refine er_iret rfl rfl ?_
    exact RI_of (by dsimp only) (by dsimp only)
set_option maxRecDepth 100000 in
set_option maxHeartbeats 4000000 in
theorem l_yGE (d : Nat) (X Z : Nat → Nat → Int32) {T : Nat} (hI : RK T (X 64)) {k q : Nat} (hk8 : k < 8) (hq : q < 7) (hq0 : sKind (jm (X 64)) k = q) (m : Int32) (hm : jm (X 64) 2 k = m) (t : VT) (ht : t.1 ≤ 40) (x : Int32) : EC (d + 5) 205 [.ref 63, .int (nI k), .int x] (Wd (YT X t) Z) (RI (vGE q (nI k) m x t).1 (YT X (vGE q (nI k) m x t).2)) := by
  refine er_enter (L := [(0, _), (1, _), (2, _)]) rfl rfl rfl ?_
  unfold vGE
  refine er_loc (pc' := 1) rfl rfl rfl ?_
  refine er_k (pc' := 3) (nI 30) rfl rfl rfl ?_
  refine er_cIv (pc' := 6) (rest := []) 12 rfl rfl rfl rfl rfl rfl (l_yBegins _ X _ _ (ht) _) ?_
  intro Z7
  refine er_loc (pc' := 7) rfl rfl rfl ?_
  refine er_loc (pc' := 8) rfl rfl rfl ?_
  refine er_loc (pc' := 9) rfl rfl rfl ?_
  refine er_cIz (pc' := 12) (rest := []) 12 rfl rfl rfl rfl rfl rfl (l_yPE _ X _ hI hk8 hq hq0 m hm _ (bg_le ht) _) ?_
  intro Z2
  refine er_loc (pc' := 13) (L' := [(3, _), (0, _), (1, _), (2, _)]) rfl rfl rfl ?_
  refine er_loc (pc' := 14) rfl rfl rfl ?_
  refine er_loc (pc' := 15) rfl rfl rfl ?_
  refine er_loc (pc' := 16) rfl rfl rfl ?_
  refine er_k (pc' := 17) (nI 1) rfl rfl rfl ?_
  refine er_cIz (pc' := 20) (rest := [_]) 12 rfl rfl rfl rfl rfl rfl (l_yLooks _ X _ hI hk8 hq hq0 m hm _ (vPE_le (q := q) (n := nI k) (x := x) (bg_le ht)) _) ?_
  intro Z2
  refine er_isub (pc' := 21) rfl rfl ?_
  refine er_iret rfl rfl ?_
  exact RI_of (by dsimp only) (by dsimp only)
set_option maxRecDepth 100000 in
set_option maxHeartbeats 4000000 in
theorem l_yErrs (d : Nat) (X Z : Nat → Nat → Int32) {T : Nat} (hI : RK T (X 64)) {k q : Nat} (hk8 : k < 8) (hq : q < 7) (hq0 : sKind (jm (X 64)) k = q) (m : Int32) (hm : jm (X 64) 2 k = m) (t : VT) (ht : t.1 ≤ 40) (x : Int32) : EC (d + 6) 204 [.ref 63, .int (nI k), .int x] (Wd (YT X t) Z) (RI (vErrs q (nI k) m x t).1 (YT X (vErrs q (nI k) m x t).2)) := by
  rcases lt7 hq with e | e | e | e | e | e | e
  · subst e
    rw [show vErrs 0 (nI k) m x t = vPE 0 (nI k) x t from (if_neg (by omega)).trans (if_neg (by omega))]
    refine er_enter (L := [(0, _), (1, _), (2, _)]) rfl rfl rfl ?_
    refine er_loc (pc' := 1) rfl rfl rfl ?_
    refine er_loc (pc' := 2) rfl rfl rfl ?_
    refine er_k (pc' := 3) (nI 0) rfl rfl rfl ?_
    refine er_cIi (pc' := 6) (rest := []) 12 rfl rfl rfl rfl rfl rfl (l_yo0 _ X _ hI hk8 hq0 _) ?_
    refine er_sw (2) rfl rfl (fun s6_2 => ?_) (fun s6_2 => ?_)
    · exact absurd s6_2 (by decide +kernel)
    refine er_sw (5) rfl rfl (fun s6_5 => ?_) (fun s6_5 => ?_)
    · exact absurd s6_5 (by decide +kernel)
    refine er_lsD rfl rfl rfl (List.forall_mem_cons.mpr ⟨ne_toInt s6_2 rfl, List.forall_mem_cons.mpr ⟨ne_toInt s6_5 rfl, fun _ h => absurd h List.not_mem_nil⟩⟩) ?_
    refine er_loc (pc' := 55) rfl rfl rfl ?_
    refine er_loc (pc' := 56) rfl rfl rfl ?_
    refine er_loc (pc' := 57) rfl rfl rfl ?_
    refine er_cIz (pc' := 60) (rest := []) 12 rfl rfl rfl rfl rfl rfl (l_yPE _ X _ hI hk8 hq hq0 m hm _ (ht) _) ?_
    intro Z2
    refine er_iret rfl rfl ?_
    exact RI_of (by dsimp only) (by dsimp only)
  · subst e
    rw [show vErrs 1 (nI k) m x t = vPE 1 (nI k) x t from (if_neg (by omega)).trans (if_neg (by omega))]
    refine er_enter (L := [(0, _), (1, _), (2, _)]) rfl rfl rfl ?_
    refine er_loc (pc' := 1) rfl rfl rfl ?_
    refine er_loc (pc' := 2) rfl rfl rfl ?_
    refine er_k (pc' := 3) (nI 0) rfl rfl rfl ?_
    refine er_cIi (pc' := 6) (rest := []) 12 rfl rfl rfl rfl rfl rfl (l_yo0 _ X _ hI hk8 hq0 _) ?_
    refine er_sw (2) rfl rfl (fun s6_2 => ?_) (fun s6_2 => ?_)
    · exact absurd s6_2 (by decide +kernel)
    refine er_sw (5) rfl rfl (fun s6_5 => ?_) (fun s6_5 => ?_)
    · exact absurd s6_5 (by decide +kernel)
    refine er_lsD rfl rfl rfl (List.forall_mem_cons.mpr ⟨ne_toInt s6_2 rfl, List.forall_mem_cons.mpr ⟨ne_toInt s6_5 rfl, fun _ h => absurd h List.not_mem_nil⟩⟩) ?_
    refine er_loc (pc' := 55) rfl rfl rfl ?_
    refine er_loc (pc' := 56) rfl rfl rfl ?_
    refine er_loc (pc' := 57) rfl rfl rfl ?_
    refine er_cIz (pc' := 60) (rest := []) 12 rfl rfl rfl rfl rfl rfl (l_yPE _ X _ hI hk8 hq hq0 m hm _ (ht) _) ?_
    intro Z2
    refine er_iret rfl rfl ?_
    exact RI_of (by dsimp only) (by dsimp only)
  · subst e
    rw [show vErrs 2 (nI k) m x t = vGE 2 (nI k) m x t from if_pos rfl]
    refine er_enter (L := [(0, _), (1, _), (2, _)]) rfl rfl rfl ?_
    refine er_loc (pc' := 1) rfl rfl rfl ?_
    refine er_loc (pc' := 2) rfl rfl rfl ?_
    refine er_k (pc' := 3) (nI 0) rfl rfl rfl ?_
    refine er_cIi (pc' := 6) (rest := []) 12 rfl rfl rfl rfl rfl rfl (l_yo0 _ X _ hI hk8 hq0 _) ?_
    refine er_swT (2) rfl (by decide +kernel) rfl ?_
    refine er_loc (pc' := 33) rfl rfl rfl ?_
    refine er_loc (pc' := 34) rfl rfl rfl ?_
    refine er_loc (pc' := 35) rfl rfl rfl ?_
    refine er_cIz (pc' := 38) (rest := []) 12 rfl rfl rfl rfl rfl rfl (l_yGE _ X _ hI hk8 hq hq0 m hm _ (ht) _) ?_
    intro Z2
    refine er_iret rfl rfl ?_
    exact RI_of (by dsimp only) (by dsimp only)
  · subst e
    rw [show vErrs 3 (nI k) m x t = vPE 3 (nI k) x t from (if_neg (by omega)).trans (if_neg (by omega))]
    refine er_enter (L := [(0, _), (1, _), (2, _)]) rfl rfl rfl ?_
    refine er_loc (pc' := 1) rfl rfl rfl ?_
    refine er_loc (pc' := 2) rfl rfl rfl ?_
    refine er_k (pc' := 3) (nI 0) rfl rfl rfl ?_
    refine er_cIi (pc' := 6) (rest := []) 12 rfl rfl rfl rfl rfl rfl (l_yo0 _ X _ hI hk8 hq0 _) ?_
    refine er_sw (2) rfl rfl (fun s6_2 => ?_) (fun s6_2 => ?_)
    · exact absurd s6_2 (by decide +kernel)
    refine er_sw (5) rfl rfl (fun s6_5 => ?_) (fun s6_5 => ?_)
    · exact absurd s6_5 (by decide +kernel)
    refine er_lsD rfl rfl rfl (List.forall_mem_cons.mpr ⟨ne_toInt s6_2 rfl, List.forall_mem_cons.mpr ⟨ne_toInt s6_5 rfl, fun _ h => absurd h List.not_mem_nil⟩⟩) ?_
    refine er_loc (pc' := 55) rfl rfl rfl ?_
    refine er_loc (pc' := 56) rfl rfl rfl ?_
    refine er_loc (pc' := 57) rfl rfl rfl ?_
    refine er_cIz (pc' := 60) (rest := []) 12 rfl rfl rfl rfl rfl rfl (l_yPE _ X _ hI hk8 hq hq0 m hm _ (ht) _) ?_
    intro Z2
    refine er_iret rfl rfl ?_
    exact RI_of (by dsimp only) (by dsimp only)
  · subst e
    rw [show vErrs 4 (nI k) m x t = vPE 4 (nI k) x t from (if_neg (by omega)).trans (if_neg (by omega))]
    refine er_enter (L := [(0, _), (1, _), (2, _)]) rfl rfl rfl ?_
    refine er_loc (pc' := 1) rfl rfl rfl ?_
    refine er_loc (pc' := 2) rfl rfl rfl ?_
    refine er_k (pc' := 3) (nI 0) rfl rfl rfl ?_
    refine er_cIi (pc' := 6) (rest := []) 12 rfl rfl rfl rfl rfl rfl (l_yo0 _ X _ hI hk8 hq0 _) ?_
    refine er_sw (2) rfl rfl (fun s6_2 => ?_) (fun s6_2 => ?_)
    · exact absurd s6_2 (by decide +kernel)
    refine er_sw (5) rfl rfl (fun s6_5 => ?_) (fun s6_5 => ?_)
    · exact absurd s6_5 (by decide +kernel)
    refine er_lsD rfl rfl rfl (List.forall_mem_cons.mpr ⟨ne_toInt s6_2 rfl, List.forall_mem_cons.mpr ⟨ne_toInt s6_5 rfl, fun _ h => absurd h List.not_mem_nil⟩⟩) ?_
    refine er_loc (pc' := 55) rfl rfl rfl ?_
    refine er_loc (pc' := 56) rfl rfl rfl ?_
    refine er_loc (pc' := 57) rfl rfl rfl ?_
    refine er_cIz (pc' := 60) (rest := []) 12 rfl rfl rfl rfl rfl rfl (l_yPE _ X _ hI hk8 hq hq0 m hm _ (ht) _) ?_
    intro Z2
    refine er_iret rfl rfl ?_
    exact RI_of (by dsimp only) (by dsimp only)
  · subst e
    rw [show vErrs 5 (nI k) m x t = vGE 5 (nI k) m (x + nI 1) (bg t (nI 60)) from (if_neg (by omega)).trans (if_pos rfl)]
    refine er_enter (L := [(0, _), (1, _), (2, _)]) rfl rfl rfl ?_
    refine er_loc (pc' := 1) rfl rfl rfl ?_
    refine er_loc (pc' := 2) rfl rfl rfl ?_
    refine er_k (pc' := 3) (nI 0) rfl rfl rfl ?_
    refine er_cIi (pc' := 6) (rest := []) 12 rfl rfl rfl rfl rfl rfl (l_yo0 _ X _ hI hk8 hq0 _) ?_
    refine er_swT (5) rfl (by decide +kernel) rfl ?_
    refine er_loc (pc' := 40) rfl rfl rfl ?_
    refine er_k (pc' := 42) (nI 60) rfl rfl rfl ?_
    refine er_cIv (pc' := 45) (rest := []) 12 rfl rfl rfl rfl rfl rfl (l_yBegins _ X _ _ (ht) _) ?_
    intro Z7
    refine er_loc (pc' := 46) rfl rfl rfl ?_
    refine er_loc (pc' := 47) rfl rfl rfl ?_
    refine er_loc (pc' := 48) rfl rfl rfl ?_
    refine er_k (pc' := 49) (nI 1) rfl rfl rfl ?_
    refine er_iadd (pc' := 50) rfl rfl ?_
    refine er_cIz (pc' := 53) (rest := []) 12 rfl rfl rfl rfl rfl rfl (l_yGE _ X _ hI hk8 hq hq0 m hm _ (bg_le ht) _) ?_
    intro Z2
    refine er_iret rfl rfl ?_
    exact RI_of (by dsimp only) (by dsimp only)
  · subst e
    rw [show vErrs 6 (nI k) m x t = vPE 6 (nI k) x t from (if_neg (by omega)).trans (if_neg (by omega))]
    refine er_enter (L := [(0, _), (1, _), (2, _)]) rfl rfl rfl ?_
    refine er_loc (pc' := 1) rfl rfl rfl ?_
    refine er_loc (pc' := 2) rfl rfl rfl ?_
    refine er_k (pc' := 3) (nI 0) rfl rfl rfl ?_
    refine er_cIi (pc' := 6) (rest := []) 12 rfl rfl rfl rfl rfl rfl (l_yo0 _ X _ hI hk8 hq0 _) ?_
    refine er_sw (2) rfl rfl (fun s6_2 => ?_) (fun s6_2 => ?_)
    · exact absurd s6_2 (by decide +kernel)
    refine er_sw (5) rfl rfl (fun s6_5 => ?_) (fun s6_5 => ?_)
    · exact absurd s6_5 (by decide +kernel)
    refine er_lsD rfl rfl rfl (List.forall_mem_cons.mpr ⟨ne_toInt s6_2 rfl, List.forall_mem_cons.mpr ⟨ne_toInt s6_5 rfl, fun _ h => absurd h List.not_mem_nil⟩⟩) ?_
    refine er_loc (pc' := 55) rfl rfl rfl ?_
    refine er_loc (pc' := 56) rfl rfl rfl ?_
    refine er_loc (pc' := 57) rfl rfl rfl ?_
    refine er_cIz (pc' := 60) (rest := []) 12 rfl rfl rfl rfl rfl rfl (l_yPE _ X _ hI hk8 hq hq0 m hm _ (ht) _) ?_
    intro Z2
    refine er_iret rfl rfl ?_
    exact RI_of (by dsimp only) (by dsimp only)
set_option maxRecDepth 100000 in
set_option maxHeartbeats 4000000 in
theorem l_yPU (d : Nat) (X Z : Nat → Nat → Int32) {T : Nat} (hI : RK T (X 64)) {k q : Nat} (hk8 : k < 8) (hq : q < 7) (hq0 : sKind (jm (X 64)) k = q) (m : Int32) (hm : jm (X 64) 2 k = m) (t : VT) (ht : t.1 ≤ 40) (x : Int32) : EC (d + 7) 211 [.ref 63, .int (nI k), .int x] (Wd (YT X t) Z) (RI (vPU q (nI k) m x t).1 (YT X (vPU q (nI k) m x t).2)) := by
  refine er_enter (L := [(0, _), (1, _), (2, _)]) rfl rfl rfl ?_
  unfold vPU
  refine er_loc (pc' := 1) rfl rfl rfl ?_
  refine er_k (pc' := 3) (nI 13) rfl rfl rfl ?_
  refine er_cIv (pc' := 6) (rest := []) 12 rfl rfl rfl rfl rfl rfl (l_yBegins _ X _ _ (ht) _) ?_
  intro Z7
  refine er_loc (pc' := 7) rfl rfl rfl ?_
  refine er_loc (pc' := 8) rfl rfl rfl ?_
  refine er_loc (pc' := 9) rfl rfl rfl ?_
  refine er_cIz (pc' := 12) (rest := []) 12 rfl rfl rfl rfl rfl rfl (l_yErrs _ X _ hI hk8 hq hq0 m hm _ (bg_le ht) _) ?_
  intro Z2
  refine er_loc (pc' := 13) (L' := [(3, _), (0, _), (1, _), (2, _)]) rfl rfl rfl ?_
  refine er_loc (pc' := 14) rfl rfl rfl ?_
  refine er_loc (pc' := 15) rfl rfl rfl ?_
  refine er_loc (pc' := 16) rfl rfl rfl ?_
  refine er_loc (pc' := 17) rfl rfl rfl ?_
  refine er_cIz (pc' := 20) (rest := [_]) 12 rfl rfl rfl rfl rfl rfl (l_yLooks _ X _ hI hk8 hq hq0 m hm _ (vErrs_le (q := q) (n := nI k) (m := m) (x := x) (bg_le ht)) _) ?_
  intro Z2
  refine er_ixor (pc' := 21) rfl rfl ?_
  refine er_iret rfl rfl ?_
  exact RI_of (by dsimp only) (by dsimp only)
set_option maxRecDepth 100000 in
set_option maxHeartbeats 4000000 in
theorem l_yUndoes (d : Nat) (X Z : Nat → Nat → Int32) {T : Nat} (hI : RK T (X 64)) {k q : Nat} (hk8 : k < 8) (hq : q < 7) (hq0 : sKind (jm (X 64)) k = q) (m : Int32) (hm : jm (X 64) 2 k = m) (t : VT) (ht : t.1 ≤ 40) (x : Int32) : EC (d + 8) 210 [.ref 63, .int (nI k), .int x] (Wd (YT X t) Z) (RI (vUndoes q (nI k) m x t).1 (YT X (vUndoes q (nI k) m x t).2)) := by
  rcases lt7 hq with e | e | e | e | e | e | e
  · subst e
    rw [show vUndoes 0 (nI k) m x t = vPU 0 (nI k) m x t from (if_neg (by omega)).trans (if_neg (by omega))]
    refine er_enter (L := [(0, _), (1, _), (2, _)]) rfl rfl rfl ?_
    refine er_loc (pc' := 1) rfl rfl rfl ?_
    refine er_loc (pc' := 2) rfl rfl rfl ?_
    refine er_k (pc' := 3) (nI 0) rfl rfl rfl ?_
    refine er_cIi (pc' := 6) (rest := []) 12 rfl rfl rfl rfl rfl rfl (l_yo0 _ X _ hI hk8 hq0 _) ?_
    refine er_sw (4) rfl rfl (fun s6_4 => ?_) (fun s6_4 => ?_)
    · exact absurd s6_4 (by decide +kernel)
    refine er_sw (6) rfl rfl (fun s6_6 => ?_) (fun s6_6 => ?_)
    · exact absurd s6_6 (by decide +kernel)
    refine er_lsD rfl rfl rfl (List.forall_mem_cons.mpr ⟨ne_toInt s6_4 rfl, List.forall_mem_cons.mpr ⟨ne_toInt s6_6 rfl, fun _ h => absurd h List.not_mem_nil⟩⟩) ?_
    refine er_loc (pc' := 79) rfl rfl rfl ?_
    refine er_loc (pc' := 80) rfl rfl rfl ?_
    refine er_loc (pc' := 81) rfl rfl rfl ?_
    refine er_cIz (pc' := 84) (rest := []) 12 rfl rfl rfl rfl rfl rfl (l_yPU _ X _ hI hk8 hq hq0 m hm _ (ht) _) ?_
    intro Z2
    refine er_iret rfl rfl ?_
    exact RI_of (by dsimp only) (by dsimp only)
  · subst e
    rw [show vUndoes 1 (nI k) m x t = vPU 1 (nI k) m x t from (if_neg (by omega)).trans (if_neg (by omega))]
    refine er_enter (L := [(0, _), (1, _), (2, _)]) rfl rfl rfl ?_
    refine er_loc (pc' := 1) rfl rfl rfl ?_
    refine er_loc (pc' := 2) rfl rfl rfl ?_
    refine er_k (pc' := 3) (nI 0) rfl rfl rfl ?_
    refine er_cIi (pc' := 6) (rest := []) 12 rfl rfl rfl rfl rfl rfl (l_yo0 _ X _ hI hk8 hq0 _) ?_
    refine er_sw (4) rfl rfl (fun s6_4 => ?_) (fun s6_4 => ?_)
    · exact absurd s6_4 (by decide +kernel)
    refine er_sw (6) rfl rfl (fun s6_6 => ?_) (fun s6_6 => ?_)
    · exact absurd s6_6 (by decide +kernel)
    refine er_lsD rfl rfl rfl (List.forall_mem_cons.mpr ⟨ne_toInt s6_4 rfl, List.forall_mem_cons.mpr ⟨ne_toInt s6_6 rfl, fun _ h => absurd h List.not_mem_nil⟩⟩) ?_
    refine er_loc (pc' := 79) rfl rfl rfl ?_
    refine er_loc (pc' := 80) rfl rfl rfl ?_
    refine er_loc (pc' := 81) rfl rfl rfl ?_
    refine er_cIz (pc' := 84) (rest := []) 12 rfl rfl rfl rfl rfl rfl (l_yPU _ X _ hI hk8 hq hq0 m hm _ (ht) _) ?_
    intro Z2
    refine er_iret rfl rfl ?_
    exact RI_of (by dsimp only) (by dsimp only)
  · subst e
    rw [show vUndoes 2 (nI k) m x t = vPU 2 (nI k) m x t from (if_neg (by omega)).trans (if_neg (by omega))]
    refine er_enter (L := [(0, _), (1, _), (2, _)]) rfl rfl rfl ?_
    refine er_loc (pc' := 1) rfl rfl rfl ?_
    refine er_loc (pc' := 2) rfl rfl rfl ?_
    refine er_k (pc' := 3) (nI 0) rfl rfl rfl ?_
    refine er_cIi (pc' := 6) (rest := []) 12 rfl rfl rfl rfl rfl rfl (l_yo0 _ X _ hI hk8 hq0 _) ?_
    refine er_sw (4) rfl rfl (fun s6_4 => ?_) (fun s6_4 => ?_)
    · exact absurd s6_4 (by decide +kernel)
    refine er_sw (6) rfl rfl (fun s6_6 => ?_) (fun s6_6 => ?_)
    · exact absurd s6_6 (by decide +kernel)
    refine er_lsD rfl rfl rfl (List.forall_mem_cons.mpr ⟨ne_toInt s6_4 rfl, List.forall_mem_cons.mpr ⟨ne_toInt s6_6 rfl, fun _ h => absurd h List.not_mem_nil⟩⟩) ?_
    refine er_loc (pc' := 79) rfl rfl rfl ?_
    refine er_loc (pc' := 80) rfl rfl rfl ?_
    refine er_loc (pc' := 81) rfl rfl rfl ?_
    refine er_cIz (pc' := 84) (rest := []) 12 rfl rfl rfl rfl rfl rfl (l_yPU _ X _ hI hk8 hq hq0 m hm _ (ht) _) ?_
    intro Z2
    refine er_iret rfl rfl ?_
    exact RI_of (by dsimp only) (by dsimp only)
  · subst e
    rw [show vUndoes 3 (nI k) m x t = vPU 3 (nI k) m x t from (if_neg (by omega)).trans (if_neg (by omega))]
    refine er_enter (L := [(0, _), (1, _), (2, _)]) rfl rfl rfl ?_
    refine er_loc (pc' := 1) rfl rfl rfl ?_
    refine er_loc (pc' := 2) rfl rfl rfl ?_
    refine er_k (pc' := 3) (nI 0) rfl rfl rfl ?_
    refine er_cIi (pc' := 6) (rest := []) 12 rfl rfl rfl rfl rfl rfl (l_yo0 _ X _ hI hk8 hq0 _) ?_
    refine er_sw (4) rfl rfl (fun s6_4 => ?_) (fun s6_4 => ?_)
    · exact absurd s6_4 (by decide +kernel)
    refine er_sw (6) rfl rfl (fun s6_6 => ?_) (fun s6_6 => ?_)
    · exact absurd s6_6 (by decide +kernel)
    refine er_lsD rfl rfl rfl (List.forall_mem_cons.mpr ⟨ne_toInt s6_4 rfl, List.forall_mem_cons.mpr ⟨ne_toInt s6_6 rfl, fun _ h => absurd h List.not_mem_nil⟩⟩) ?_
    refine er_loc (pc' := 79) rfl rfl rfl ?_
    refine er_loc (pc' := 80) rfl rfl rfl ?_
    refine er_loc (pc' := 81) rfl rfl rfl ?_
    refine er_cIz (pc' := 84) (rest := []) 12 rfl rfl rfl rfl rfl rfl (l_yPU _ X _ hI hk8 hq hq0 m hm _ (ht) _) ?_
    intro Z2
    refine er_iret rfl rfl ?_
    exact RI_of (by dsimp only) (by dsimp only)
  · subst e
    rw [show vUndoes 4 (nI k) m x t = ((vPU 4 (nI k) m x (bg t (nI 50))).1 - (vFits 4 (nI k) (nI 2) (vPU 4 (nI k) m x (bg t (nI 50))).2).1, (vFits 4 (nI k) (nI 2) (vPU 4 (nI k) m x (bg t (nI 50))).2).2) from if_pos rfl]
    refine er_enter (L := [(0, _), (1, _), (2, _)]) rfl rfl rfl ?_
    refine er_loc (pc' := 1) rfl rfl rfl ?_
    refine er_loc (pc' := 2) rfl rfl rfl ?_
    refine er_k (pc' := 3) (nI 0) rfl rfl rfl ?_
    refine er_cIi (pc' := 6) (rest := []) 12 rfl rfl rfl rfl rfl rfl (l_yo0 _ X _ hI hk8 hq0 _) ?_
    refine er_swT (4) rfl (by decide +kernel) rfl ?_
    refine er_loc (pc' := 33) rfl rfl rfl ?_
    refine er_k (pc' := 35) (nI 50) rfl rfl rfl ?_
    refine er_cIv (pc' := 38) (rest := []) 12 rfl rfl rfl rfl rfl rfl (l_yBegins _ X _ _ (ht) _) ?_
    intro Z7
    refine er_loc (pc' := 39) rfl rfl rfl ?_
    refine er_loc (pc' := 40) rfl rfl rfl ?_
    refine er_loc (pc' := 41) rfl rfl rfl ?_
    refine er_cIz (pc' := 44) (rest := []) 12 rfl rfl rfl rfl rfl rfl (l_yPU _ X _ hI hk8 hq hq0 m hm _ (bg_le ht) _) ?_
    intro Z2
    refine er_loc (pc' := 45) (L' := [(3, _), (0, _), (1, _), (2, _)]) rfl rfl rfl ?_
    refine er_loc (pc' := 46) rfl rfl rfl ?_
    refine er_loc (pc' := 47) rfl rfl rfl ?_
    refine er_loc (pc' := 48) rfl rfl rfl ?_
    refine er_k (pc' := 49) (nI 2) rfl rfl rfl ?_
    refine er_cIz (pc' := 52) (rest := [_]) 12 rfl rfl rfl rfl rfl rfl (l_yFits _ X _ hI hk8 hq hq0 m hm _ (vPU_le (q := 4) (n := nI k) (m := m) (x := x) (bg_le ht)) _) ?_
    intro Z2
    refine er_isub (pc' := 53) rfl rfl ?_
    refine er_iret rfl rfl ?_
    exact RI_of (by dsimp only) (by dsimp only)
  · subst e
    rw [show vUndoes 5 (nI k) m x t = vPU 5 (nI k) m x t from (if_neg (by omega)).trans (if_neg (by omega))]
    refine er_enter (L := [(0, _), (1, _), (2, _)]) rfl rfl rfl ?_
    refine er_loc (pc' := 1) rfl rfl rfl ?_
    refine er_loc (pc' := 2) rfl rfl rfl ?_
    refine er_k (pc' := 3) (nI 0) rfl rfl rfl ?_
    refine er_cIi (pc' := 6) (rest := []) 12 rfl rfl rfl rfl rfl rfl (l_yo0 _ X _ hI hk8 hq0 _) ?_
    refine er_sw (4) rfl rfl (fun s6_4 => ?_) (fun s6_4 => ?_)
    · exact absurd s6_4 (by decide +kernel)
    refine er_sw (6) rfl rfl (fun s6_6 => ?_) (fun s6_6 => ?_)
    · exact absurd s6_6 (by decide +kernel)
    refine er_lsD rfl rfl rfl (List.forall_mem_cons.mpr ⟨ne_toInt s6_4 rfl, List.forall_mem_cons.mpr ⟨ne_toInt s6_6 rfl, fun _ h => absurd h List.not_mem_nil⟩⟩) ?_
    refine er_loc (pc' := 79) rfl rfl rfl ?_
    refine er_loc (pc' := 80) rfl rfl rfl ?_
    refine er_loc (pc' := 81) rfl rfl rfl ?_
    refine er_cIz (pc' := 84) (rest := []) 12 rfl rfl rfl rfl rfl rfl (l_yPU _ X _ hI hk8 hq hq0 m hm _ (ht) _) ?_
    intro Z2
    refine er_iret rfl rfl ?_
    exact RI_of (by dsimp only) (by dsimp only)
  · subst e
    rw [show vUndoes 6 (nI k) m x t = ((vErrs 6 (nI k) m x (bg t (nI 71))).1 - (vPU 6 (nI k) m x (vErrs 6 (nI k) m x (bg t (nI 71))).2).1, (vPU 6 (nI k) m x (vErrs 6 (nI k) m x (bg t (nI 71))).2).2) from (if_neg (by omega)).trans (if_pos rfl)]
    refine er_enter (L := [(0, _), (1, _), (2, _)]) rfl rfl rfl ?_
    refine er_loc (pc' := 1) rfl rfl rfl ?_
    refine er_loc (pc' := 2) rfl rfl rfl ?_
    refine er_k (pc' := 3) (nI 0) rfl rfl rfl ?_
    refine er_cIi (pc' := 6) (rest := []) 12 rfl rfl rfl rfl rfl rfl (l_yo0 _ X _ hI hk8 hq0 _) ?_
    refine er_swT (6) rfl (by decide +kernel) rfl ?_
    refine er_loc (pc' := 55) rfl rfl rfl ?_
    refine er_k (pc' := 57) (nI 71) rfl rfl rfl ?_
    refine er_cIv (pc' := 60) (rest := []) 12 rfl rfl rfl rfl rfl rfl (l_yBegins _ X _ _ (ht) _) ?_
    intro Z7
    refine er_loc (pc' := 61) rfl rfl rfl ?_
    refine er_loc (pc' := 62) rfl rfl rfl ?_
    refine er_loc (pc' := 63) rfl rfl rfl ?_
    refine er_cIz (pc' := 66) (rest := []) 12 rfl rfl rfl rfl rfl rfl (l_yErrs _ X _ hI hk8 hq hq0 m hm _ (bg_le ht) _) ?_
    intro Z2
    refine er_loc (pc' := 68) (L' := [(4, _), (0, _), (1, _), (2, _)]) rfl rfl rfl ?_
    refine er_loc (pc' := 70) rfl rfl rfl ?_
    refine er_loc (pc' := 71) rfl rfl rfl ?_
    refine er_loc (pc' := 72) rfl rfl rfl ?_
    refine er_loc (pc' := 73) rfl rfl rfl ?_
    refine er_cIz (pc' := 76) (rest := [_]) 12 rfl rfl rfl rfl rfl rfl (l_yPU _ X _ hI hk8 hq hq0 m hm _ (vErrs_le (q := 6) (n := nI k) (m := m) (x := x) (bg_le ht)) _) ?_
    intro Z2
    refine er_isub (pc' := 77) rfl rfl ?_
    refine er_iret rfl rfl ?_
    exact RI_of (by dsimp only) (by dsimp only)
set_option maxRecDepth 100000 in
set_option maxHeartbeats 4000000 in
theorem l_rVoice_no (d : Nat) (X Z : Nat → Nat → Int32) {T : Nat} (hI : RK T (X 64)) (s w x : Int32) (hs : jHas (jm (X 64)) s = false) : EC (d + 3) 200 [.ref 63, .int s, .int w, .int x] (Wd X Z) (RI (sErr 1) (yErr X 1)) := by
  refine er_enter (L := [(0, _), (1, _), (2, _), (3, _)]) rfl rfl rfl ?_
  refine er_loc (pc' := 1) rfl rfl rfl ?_
  refine er_loc (pc' := 2) rfl rfl rfl ?_
  refine er_cIi (pc' := 5) (rest := []) 12 rfl rfl rfl rfl rfl rfl (l_rHas_f _ X _ hI hs) ?_
  refine er_if_eqT rfl (by decide +kernel) ?_
  refine er_loc (pc' := 18) rfl rfl rfl ?_
  refine er_ldc (pc' := 20) (-1000000001) rfl rfl rfl rfl rfl ?_
  refine er_cIz (pc' := 23) (rest := []) 12 rfl rfl rfl rfl rfl rfl (l_rError1 _ _ _) ?_
  intro Z9
  refine er_iret rfl rfl ?_
  exact RI_of rfl rfl
set_option maxRecDepth 100000 in
set_option maxHeartbeats 4000000 in
theorem l_rVoice0 (d : Nat) (X Z : Nat → Nat → Int32) {T : Nat} (hI : RK T (X 64)) {k : Nat} (hk : k < jn (jm (X 64))) (x : Int32) : EC (d + 9) 200 [.ref 63, .int (nI k), .int (nI 0), .int x] (Wd X Z) (RI (vFits (sKind (jm (X 64)) k) (nI k) x (0, X 75)).1 (YT X (vFits (sKind (jm (X 64)) k) (nI k) x (0, X 75)).2)) := by
  refine er_enter (L := [(0, _), (1, _), (2, _), (3, _)]) rfl rfl rfl ?_
  have h8 := jn8 hI.ij
  have hk8 : k < 8 := by omega
  refine er_loc (pc' := 1) rfl rfl rfl ?_
  refine er_loc (pc' := 2) rfl rfl rfl ?_
  refine er_cIi (pc' := 5) (rest := []) 12 rfl rfl rfl rfl rfl rfl (l_rHas_t _ X _ hI hk) ?_
  refine er_if_eqF (pc' := 8) rfl (by decide +kernel) rfl ?_
  refine er_loc (pc' := 9) rfl rfl rfl ?_
  refine er_k (pc' := 10) (nI 0) rfl rfl rfl ?_
  refine er_k (pc' := 11) (nI 3) rfl rfl rfl ?_
  refine er_cSi (pc' := 14) (rest := []) rfl rfl rfl (l_in _ _ _ _ _) ?_
  rw [show sIn (nI 0) (nI 0) (nI 3) = true from by decide +kernel]
  refine er_if_neT rfl (by decide +kernel) ?_
  refine er_loc (pc' := 25) rfl rfl rfl ?_
  refine er_k (pc' := 26) (nI 0) rfl rfl rfl ?_
  refine er_pfIX (pc' := 29) 21 rfl rfl rfl rfl rfl rfl ?_
  rw [show ud X 63 21 (nI 0) = YT X (0, X 75) from by unfold YT; rw [uc_id]]
  refine er_loc (pc' := 30) rfl rfl rfl ?_
  refine er_if_neF (pc' := 33) rfl (rfl) rfl ?_
  refine er_loc (pc' := 34) rfl rfl rfl ?_
  refine er_loc (pc' := 35) rfl rfl rfl ?_
  refine er_loc (pc' := 36) rfl rfl rfl ?_
  refine er_cIz (pc' := 39) (rest := []) 12 rfl rfl rfl rfl rfl rfl (l_yFits _ X _ hI hk8 (kind7 hI.ij k) rfl (jm (X 64) 2 k) rfl (0, X 75) (Nat.zero_le _) _) ?_
  intro Z2
  refine er_goto rfl ?_
  refine er_iret rfl rfl ?_
  exact RI_of rfl rfl
set_option maxRecDepth 100000 in
set_option maxHeartbeats 4000000 in
theorem l_rVoice1 (d : Nat) (X Z : Nat → Nat → Int32) {T : Nat} (hI : RK T (X 64)) {k : Nat} (hk : k < jn (jm (X 64))) (x : Int32) : EC (d + 9) 200 [.ref 63, .int (nI k), .int (nI 1), .int x] (Wd X Z) (RI (vErrs (sKind (jm (X 64)) k) (nI k) (jm (X 64) 2 k) x (0, X 75)).1 (YT X (vErrs (sKind (jm (X 64)) k) (nI k) (jm (X 64) 2 k) x (0, X 75)).2)) := by
  refine er_enter (L := [(0, _), (1, _), (2, _), (3, _)]) rfl rfl rfl ?_
  have h8 := jn8 hI.ij
  have hk8 : k < 8 := by omega
  refine er_loc (pc' := 1) rfl rfl rfl ?_
  refine er_loc (pc' := 2) rfl rfl rfl ?_
  refine er_cIi (pc' := 5) (rest := []) 12 rfl rfl rfl rfl rfl rfl (l_rHas_t _ X _ hI hk) ?_
  refine er_if_eqF (pc' := 8) rfl (by decide +kernel) rfl ?_
  refine er_loc (pc' := 9) rfl rfl rfl ?_
  refine er_k (pc' := 10) (nI 0) rfl rfl rfl ?_
  refine er_k (pc' := 11) (nI 3) rfl rfl rfl ?_
  refine er_cSi (pc' := 14) (rest := []) rfl rfl rfl (l_in _ _ _ _ _) ?_
  rw [show sIn (nI 1) (nI 0) (nI 3) = true from by decide +kernel]
  refine er_if_neT rfl (by decide +kernel) ?_
  refine er_loc (pc' := 25) rfl rfl rfl ?_
  refine er_k (pc' := 26) (nI 0) rfl rfl rfl ?_
  refine er_pfIX (pc' := 29) 21 rfl rfl rfl rfl rfl rfl ?_
  rw [show ud X 63 21 (nI 0) = YT X (0, X 75) from by unfold YT; rw [uc_id]]
  refine er_loc (pc' := 30) rfl rfl rfl ?_
  refine er_if_neT rfl (by decide +kernel) ?_
  refine er_loc (pc' := 43) rfl rfl rfl ?_
  refine er_k (pc' := 44) (nI 1) rfl rfl rfl ?_
  refine er_cm_neF (pc' := 47) rfl (rfl) rfl ?_
  refine er_loc (pc' := 48) rfl rfl rfl ?_
  refine er_loc (pc' := 49) rfl rfl rfl ?_
  refine er_loc (pc' := 50) rfl rfl rfl ?_
  refine er_cIz (pc' := 53) (rest := []) 12 rfl rfl rfl rfl rfl rfl (l_yErrs _ X _ hI hk8 (kind7 hI.ij k) rfl (jm (X 64) 2 k) rfl (0, X 75) (Nat.zero_le _) _) ?_
  intro Z2
  refine er_goto rfl ?_
  refine er_iret rfl rfl ?_
  exact RI_of rfl rfl
set_option maxRecDepth 100000 in
set_option maxHeartbeats 4000000 in
theorem l_rVoice2 (d : Nat) (X Z : Nat → Nat → Int32) {T : Nat} (hI : RK T (X 64)) {k : Nat} (hk : k < jn (jm (X 64))) (x : Int32) : EC (d + 9) 200 [.ref 63, .int (nI k), .int (nI 2), .int x] (Wd X Z) (RI (vLooks (sKind (jm (X 64)) k) (nI k) (jm (X 64) 2 k) x (0, X 75)).1 (YT X (vLooks (sKind (jm (X 64)) k) (nI k) (jm (X 64) 2 k) x (0, X 75)).2)) := by
  refine er_enter (L := [(0, _), (1, _), (2, _), (3, _)]) rfl rfl rfl ?_
  have h8 := jn8 hI.ij
  have hk8 : k < 8 := by omega
  refine er_loc (pc' := 1) rfl rfl rfl ?_
  refine er_loc (pc' := 2) rfl rfl rfl ?_
  refine er_cIi (pc' := 5) (rest := []) 12 rfl rfl rfl rfl rfl rfl (l_rHas_t _ X _ hI hk) ?_
  refine er_if_eqF (pc' := 8) rfl (by decide +kernel) rfl ?_
  refine er_loc (pc' := 9) rfl rfl rfl ?_
  refine er_k (pc' := 10) (nI 0) rfl rfl rfl ?_
  refine er_k (pc' := 11) (nI 3) rfl rfl rfl ?_
  refine er_cSi (pc' := 14) (rest := []) rfl rfl rfl (l_in _ _ _ _ _) ?_
  rw [show sIn (nI 2) (nI 0) (nI 3) = true from by decide +kernel]
  refine er_if_neT rfl (by decide +kernel) ?_
  refine er_loc (pc' := 25) rfl rfl rfl ?_
  refine er_k (pc' := 26) (nI 0) rfl rfl rfl ?_
  refine er_pfIX (pc' := 29) 21 rfl rfl rfl rfl rfl rfl ?_
  rw [show ud X 63 21 (nI 0) = YT X (0, X 75) from by unfold YT; rw [uc_id]]
  refine er_loc (pc' := 30) rfl rfl rfl ?_
  refine er_if_neT rfl (by decide +kernel) ?_
  refine er_loc (pc' := 43) rfl rfl rfl ?_
  refine er_k (pc' := 44) (nI 1) rfl rfl rfl ?_
  refine er_cm_neT rfl (by decide +kernel) ?_
  refine er_loc (pc' := 57) rfl rfl rfl ?_
  refine er_k (pc' := 58) (nI 2) rfl rfl rfl ?_
  refine er_cm_neF (pc' := 61) rfl (rfl) rfl ?_
  refine er_loc (pc' := 62) rfl rfl rfl ?_
  refine er_loc (pc' := 63) rfl rfl rfl ?_
  refine er_loc (pc' := 64) rfl rfl rfl ?_
  refine er_cIz (pc' := 67) (rest := []) 12 rfl rfl rfl rfl rfl rfl (l_yLooks _ X _ hI hk8 (kind7 hI.ij k) rfl (jm (X 64) 2 k) rfl (0, X 75) (Nat.zero_le _) _) ?_
  intro Z2
  refine er_goto rfl ?_
  refine er_iret rfl rfl ?_
  exact RI_of rfl rfl
set_option maxRecDepth 100000 in
set_option maxHeartbeats 4000000 in
theorem l_rVoice3 (d : Nat) (X Z : Nat → Nat → Int32) {T : Nat} (hI : RK T (X 64)) {k : Nat} (hk : k < jn (jm (X 64))) (x : Int32) : EC (d + 9) 200 [.ref 63, .int (nI k), .int (nI 3), .int x] (Wd X Z) (RI (vUndoes (sKind (jm (X 64)) k) (nI k) (jm (X 64) 2 k) x (0, X 75)).1 (YT X (vUndoes (sKind (jm (X 64)) k) (nI k) (jm (X 64) 2 k) x (0, X 75)).2)) := by
  refine er_enter (L := [(0, _), (1, _), (2, _), (3, _)]) rfl rfl rfl ?_
  have h8 := jn8 hI.ij
  have hk8 : k < 8 := by omega
  refine er_loc (pc' := 1) rfl rfl rfl ?_
  refine er_loc (pc' := 2) rfl rfl rfl ?_
  refine er_cIi (pc' := 5) (rest := []) 12 rfl rfl rfl rfl rfl rfl (l_rHas_t _ X _ hI hk) ?_
  refine er_if_eqF (pc' := 8) rfl (by decide +kernel) rfl ?_
  refine er_loc (pc' := 9) rfl rfl rfl ?_
  refine er_k (pc' := 10) (nI 0) rfl rfl rfl ?_
  refine er_k (pc' := 11) (nI 3) rfl rfl rfl ?_
  refine er_cSi (pc' := 14) (rest := []) rfl rfl rfl (l_in _ _ _ _ _) ?_
  rw [show sIn (nI 3) (nI 0) (nI 3) = true from by decide +kernel]
  refine er_if_neT rfl (by decide +kernel) ?_
  refine er_loc (pc' := 25) rfl rfl rfl ?_
  refine er_k (pc' := 26) (nI 0) rfl rfl rfl ?_
  refine er_pfIX (pc' := 29) 21 rfl rfl rfl rfl rfl rfl ?_
  rw [show ud X 63 21 (nI 0) = YT X (0, X 75) from by unfold YT; rw [uc_id]]
  refine er_loc (pc' := 30) rfl rfl rfl ?_
  refine er_if_neT rfl (by decide +kernel) ?_
  refine er_loc (pc' := 43) rfl rfl rfl ?_
  refine er_k (pc' := 44) (nI 1) rfl rfl rfl ?_
  refine er_cm_neT rfl (by decide +kernel) ?_
  refine er_loc (pc' := 57) rfl rfl rfl ?_
  refine er_k (pc' := 58) (nI 2) rfl rfl rfl ?_
  refine er_cm_neT rfl (by decide +kernel) ?_
  refine er_loc (pc' := 71) rfl rfl rfl ?_
  refine er_loc (pc' := 72) rfl rfl rfl ?_
  refine er_loc (pc' := 73) rfl rfl rfl ?_
  refine er_cIz (pc' := 76) (rest := []) 12 rfl rfl rfl rfl rfl rfl (l_yUndoes _ X _ hI hk8 (kind7 hI.ij k) rfl (jm (X 64) 2 k) rfl (0, X 75) (Nat.zero_le _) _) ?_
  intro Z2
  refine er_iret rfl rfl ?_
  exact RI_of rfl rfl
theorem l_rVoice (d : Nat) (X Z : Nat → Nat → Int32) {T : Nat} (hI : RK T (X 64)) {k : Nat} (hk : k < jn (jm (X 64))) (w x : Int32) : EC (d + 9) 200 [.ref 63, .int (nI k), .int w, .int x] (Wd X Z) (fun r => if sIn w (nI 0) (nI 3) = true then RI (sVoice (sKind (jm (X 64)) k) k (jm (X 64) 2 k) w x (0, X 75)).1 (YT X (sVoice (sKind (jm (X 64)) k) k (jm (X 64) 2 k) w x (0, X 75)).2) r else RI (sErr 1) (yErr X 1) r) := by
  by_cases hw : sIn w (nI 0) (nI 3) = true
  · refine EC.mono (P := RI (sVoice (sKind (jm (X 64)) k) k (jm (X 64) 2 k) w x (0, X 75)).1 (YT X (sVoice (sKind (jm (X 64)) k) k (jm (X 64) 2 k) w x (0, X 75)).2)) ?_ (fun r hr => by rw [if_pos hw]; exact hr)
    obtain ⟨j, _, h2, rfl⟩ := sIn_ex (by omega) (by omega) hw
    have : j = 0 ∨ j = 1 ∨ j = 2 ∨ j = 3 := by omega
    unfold sVoice
    rcases this with rfl | rfl | rfl | rfl
    · rw [if_pos (by decide +kernel)]
      exact l_rVoice0 d X Z hI hk x
    · rw [if_neg (by decide +kernel), if_pos (by decide +kernel)]
      exact l_rVoice1 d X Z hI hk x
    · rw [if_neg (by decide +kernel), if_neg (by decide +kernel), if_pos (by decide +kernel)]
      exact l_rVoice2 d X Z hI hk x
    · rw [if_neg (by decide +kernel), if_neg (by decide +kernel), if_neg (by decide +kernel)]
      exact l_rVoice3 d X Z hI hk x
  · refine EC.mono (P := RI (sErr 1) (yErr X 1)) ?_ (fun r hr => by rw [if_neg hw]; exact hr)
    have hw2 : sIn w (nI 0) (nI 3) = false := by simpa using hw
    refine er_enter (L := [(0, _), (1, _), (2, _), (3, _)]) rfl rfl rfl ?_
    refine er_loc (pc' := 1) rfl rfl rfl ?_
    refine er_loc (pc' := 2) rfl rfl rfl ?_
    refine er_cIi (pc' := 5) (rest := []) 12 rfl rfl rfl rfl rfl rfl (l_rHas_t _ X _ hI hk) ?_
    refine er_if_eqF (pc' := 8) rfl (by decide +kernel) rfl ?_
    refine er_loc (pc' := 9) rfl rfl rfl ?_
    refine er_k (pc' := 10) (nI 0) rfl rfl rfl ?_
    refine er_k (pc' := 11) (nI 3) rfl rfl rfl ?_
    refine er_cSi (pc' := 14) (rest := []) rfl rfl rfl (l_in _ _ _ _ _) ?_
    rw [hw2]
    refine er_if_neF (pc' := 17) rfl (by decide +kernel) rfl ?_
    refine er_loc (pc' := 18) rfl rfl rfl ?_
    refine er_ldc (pc' := 20) (-1000000001) rfl rfl rfl rfl rfl ?_
    refine er_cIz (pc' := 23) (rest := []) 12 rfl rfl rfl rfl rfl rfl (l_rError1 _ _ _) ?_
    intro Z9
    refine er_iret rfl rfl ?_
    exact RI_of rfl rfl
end
section
/-! THE REFERENCE reads: bytes, names, numbers -/
abbrev YS : Type := Nat × (Nat → Int32) × (Nat → Int32)
def yzf (l p op : Nat) (bad : Bool) (u : Nat) : Nat → Int32 := fun k => match k with
  | 9 => nI l
  | 10 => nI p
  | 11 => nI op
  | 12 => bI bad
  | 13 => nI u
  | _ => 0
def QZ (Z : Nat → Nat → Int32) (u op : Nat) (bad : Bool) (p : Nat) (y : YS) : Nat → Nat → Int32 := uc (uc (uc Z 63 (yzf y.1 p op bad u)) 68 y.2.1) 69 y.2.2
def wrY (y : YS) (a w : Int32) : YS := if y.1 < 50 then (y.1 + 1, u1 y.2.1 y.1 a, u1 y.2.2 y.1 w) else y
theorem wrY_le {y : YS} {a w : Int32} (h : y.1 ≤ 50) : (wrY y a w).1 ≤ 50 := by
  unfold wrY
  split
  · show y.1 + 1 ≤ 50; omega
  · exact h
section QZS
variable {Z : Nat → Nat → Int32} {u op p l q : Nat} {bad c : Bool} {y : YS}
theorem yzf_p : u1 (yzf l p op bad u) 10 (nI q) = yzf l q op bad u := by
  funext k
  match k with
  | 9 => rfl
  | 10 => rfl
  | 11 => rfl
  | 12 => rfl
  | 13 => rfl
  | 0 | 1 | 2 | 3 | 4 | 5 | 6 | 7 | 8 => rfl
  | k + 14 => rfl
theorem yzf_l : u1 (yzf l p op bad u) 9 (nI q) = yzf q p op bad u := by
  funext k
  match k with
  | 9 => rfl
  | 10 => rfl
  | 11 => rfl
  | 12 => rfl
  | 13 => rfl
  | 0 | 1 | 2 | 3 | 4 | 5 | 6 | 7 | 8 => rfl
  | k + 14 => rfl
theorem yzf_o : u1 (yzf l p op bad u) 11 (nI q) = yzf l p q bad u := by
  funext k
  match k with
  | 9 => rfl
  | 10 => rfl
  | 11 => rfl
  | 12 => rfl
  | 13 => rfl
  | 0 | 1 | 2 | 3 | 4 | 5 | 6 | 7 | 8 => rfl
  | k + 14 => rfl
theorem yzf_b : u1 (yzf l p op bad u) 12 (bI c) = yzf l p op c u := by
  funext k
  match k with
  | 9 => rfl
  | 10 => rfl
  | 11 => rfl
  | 12 => rfl
  | 13 => rfl
  | 0 | 1 | 2 | 3 | 4 | 5 | 6 | 7 | 8 => rfl
  | k + 14 => rfl
theorem QZ_63 : QZ Z u op bad p y 63 = yzf y.1 p op bad u := by
  unfold QZ
  rw [uc_ne (by omega), uc_ne (by omega), uc_same]
theorem QZ_u {f : Nat → Int32} {op' p' : Nat} {bad' : Bool} (h : f = yzf y.1 p' op' bad' u) : uc (QZ Z u op bad p y) 63 f = QZ Z u op' bad' p' y := by
  subst h
  unfold QZ
  rw [uc_comm (show 69 ≠ 63 by omega), uc_comm (show 68 ≠ 63 by omega), uc_uc]
theorem QZ_p : ud (QZ Z u op bad p y) 63 10 (nI q) = QZ Z u op bad q y := by
  unfold ud
  rw [QZ_63, yzf_p]
  exact QZ_u rfl
theorem QZ_o : ud (QZ Z u op bad p y) 63 11 (nI q) = QZ Z u q bad p y := by
  unfold ud
  rw [QZ_63, yzf_o]
  exact QZ_u rfl
theorem QZ_b : ud (QZ Z u op bad p y) 63 12 (bI c) = QZ Z u op c p y := by
  unfold ud
  rw [QZ_63, yzf_b]
  exact QZ_u rfl
theorem QZ_w {a w : Int32} (h : y.1 < 50) : ud (ud (ud (QZ Z u op bad p y) 68 y.1 a) 69 y.1 w) 63 9 (nI (y.1 + 1)) = QZ Z u op bad p (wrY y a w) := by
  rw [show wrY y a w = (y.1 + 1, u1 y.2.1 y.1 a, u1 y.2.2 y.1 w) from if_pos h]
  funext i j
  unfold QZ
  simp only [ud_at, uc]
  by_cases h63 : i = 63
  · subst h63
    by_cases h9 : j = 9
    · subst h9; simp [yzf]
    · simp only [if_neg h9]
      simp
      rw [← yzf_l (l := y.1) (q := y.1 + 1), u1_ne h9]
  · by_cases h68 : i = 68
    · subst h68; simp [u1]
    · by_cases h69 : i = 69
      · subst h69; simp [u1]
      · simp [h63, h68, h69]
end QZS
def CA (s : Nat × (Nat → Int32)) (y : YS) : Prop := s.1 = y.1 ∧ ∀ k, k < s.1 → s.2 k = cM (y.2.1 k) (y.2.2 k) ∧ aOK (y.2.1 k) (y.2.2 k)
theorem CA.wr {s : Nat × (Nat → Int32)} {y : YS} {a w g : Int32} (h : CA s y) (ha : aOK a w) (hg : cM a w = g) : CA (wrC s g) (wrY y a w) := by
  unfold wrC wrY
  rw [← h.1]
  by_cases hl : s.1 < 50
  · rw [if_pos hl, if_pos hl]
    refine ⟨rfl, fun k hk => ?_⟩
    show u1 s.2 s.1 g k = cM (u1 y.2.1 s.1 a k) (u1 y.2.2 s.1 w k) ∧ aOK (u1 y.2.1 s.1 a k) (u1 y.2.2 s.1 w k)
    rw [u1_at, u1_at, u1_at]
    by_cases he : k = s.1
    · rw [if_pos he, if_pos he, if_pos he]
      exact ⟨hg.symm, ha⟩
    · rw [if_neg he, if_neg he, if_neg he]
      exact h.2 k (by have : k < s.1 + 1 := hk; omega)
  · rw [if_neg hl, if_neg hl]
    exact h
theorem CA.le {s : Nat × (Nat → Int32)} {y : YS} (h : CA s y) (hs : s.1 ≤ 50) : y.1 ≤ 50 := by rw [← h.1]; exact hs
set_option maxRecDepth 100000 in
set_option maxHeartbeats 4000000 in
theorem l_yByte (d : Nat) (X Z : Nat → Nat → Int32) {u op e p : Nat} {bad : Bool} {y : YS} (he : X 64 5 = nI e) (he50 : e ≤ 50) (hp : p ≤ e) : EC (d + 1) 159 [.ref 63] (Wd X (QZ Z u op bad p y)) (PI (pk (jm (X 64) 9) e p) (Wd X (QZ Z u op bad p y))) := by
  refine er_enter (L := [(0, _)]) rfl rfl rfl ?_
  refine er_loc (pc' := 1) rfl rfl rfl ?_
  refine er_gf (pc' := 4) (.int (nI p)) rfl rfl rfl rfl rfl ?_
  refine er_loc (pc' := 5) rfl rfl rfl ?_
  refine er_gf (pc' := 8) (_) rfl rfl rfl rfl rfl ?_
  refine er_k (pc' := 9) (nI 5) rfl rfl rfl ?_
  refine er_ia (pc' := 10) (5) rfl rfl rfl rfl (by omega) rfl rfl ?_
  rw [he]
  refine er_cm_ge (pc' := 13) rfl rfl (fun h10 => ?_) (fun h10 => ?_)
  · have hlt : ¬ p < e := fun h => h10 (nI_lt h (by omega))
    refine er_k (pc' := 29) (-1) rfl rfl rfl ?_
    refine er_iret rfl rfl ?_
    exact PI_of (if_neg hlt).symm
  · have hlt : p < e := by
      rcases Nat.lt_or_ge p e with h | h
      · exact h
      · exact absurd h10 (nI_nlt h (by omega))
    refine er_loc (pc' := 14) rfl rfl rfl ?_
    refine er_gf (pc' := 17) (_) rfl rfl rfl rfl rfl ?_
    refine er_k (pc' := 19) (nI 55) rfl rfl rfl ?_
    refine er_loc (pc' := 20) rfl rfl rfl ?_
    refine er_gf (pc' := 23) (.int (nI p)) rfl rfl rfl rfl rfl ?_
    refine er_iadd (pc' := 24) rfl rfl ?_
    refine er_ia (pc' := 25) ((55 + p)) rfl rfl rfl (by simp only [nI_add, nI_mul]) (by omega) rfl rfl ?_
    refine er_goto rfl ?_
    refine er_iret rfl rfl ?_
    exact PI_of (((if_pos hlt).trans (jm9 (by omega))).symm)
section ERP
variable {d pc pc' lk : Nat} {M : ab_M} {L L' : ab_Lo} {st : List Value} {w : ab_W} {P : ab_R → Prop} {X Z : Nat → Nat → Int32}
theorem er_cIP (cls : Nat) {c j : Nat} {Q : ab_R → Prop} {ins : Instr} {fs As rest : List Value} (hf : ab_fetch M.2.2.2.2.2.2.2 pc = some (ins, lk)) (hi : isCI ins = true) (hq : qI lk cls st = some (c, j, As, rest)) (hc : Nat.blt c 79 = true) (ho : cO c (X c) (Z c) = .inl (cls, fs)) (hp : pc + 3 = pc') (h : EC d j As (Wd X Z) Q) (k : ∀ r, Q r → ER d M pc' L (r.1.toList ++ rest) r.2 P) : ER d M pc L st (Wd X Z) P :=
  er_cI cls hf hi hq hc ho hp h k
end ERP
set_option maxRecDepth 100000 in
set_option maxHeartbeats 4000000 in
theorem l_yLays (d : Nat) (X Z : Nat → Nat → Int32) {u op p : Nat} {bad : Bool} {y : YS} (hy : y.1 ≤ 50) (a w : Int32) : EC (d + 1) 161 [.ref 63, .int a, .int w] (Wd X (QZ Z u op bad p y)) (PN X (QZ Z u op bad p (wrY y a w))) := by
  refine er_enter (L := [(0, _), (1, _), (2, _)]) rfl rfl rfl ?_
  refine er_loc (pc' := 1) rfl rfl rfl ?_
  refine er_gf (pc' := 4) (.int (nI y.1)) rfl rfl rfl rfl rfl ?_
  refine er_loc (pc' := 5) rfl rfl rfl ?_
  refine er_gf (pc' := 8) (_) rfl rfl rfl rfl rfl ?_
  refine er_al (pc' := 9) rfl rfl rfl rfl ?_
  refine er_cm_ge (pc' := 12) rfl rfl (fun h9 => ?_) (fun h9 => ?_)
  · have hlt : ¬ y.1 < 50 := fun h => h9 (nI_lt h (by omega))
    refine er_vret rfl rfl ?_
    exact PN_of (by rw [show wrY y a w = y from if_neg hlt])
  · have hlt : y.1 < 50 := by
      rcases Nat.lt_or_ge y.1 50 with h | h
      · exact h
      · exact absurd h9 (nI_nlt h (by omega))
    refine er_loc (pc' := 13) rfl rfl rfl ?_
    refine er_gf (pc' := 16) (_) rfl rfl rfl rfl rfl ?_
    refine er_loc (pc' := 17) rfl rfl rfl ?_
    refine er_gf (pc' := 20) (.int (nI y.1)) rfl rfl rfl rfl rfl ?_
    refine er_loc (pc' := 21) rfl rfl rfl ?_
    refine er_isZ (pc' := 22) (y.1) rfl rfl (fun _ => rfl) rfl hlt rfl rfl ?_
    refine er_loc (pc' := 23) rfl rfl rfl ?_
    refine er_gf (pc' := 26) (_) rfl rfl rfl rfl rfl ?_
    refine er_loc (pc' := 27) rfl rfl rfl ?_
    refine er_gf (pc' := 30) (.int (nI y.1)) rfl rfl rfl rfl rfl ?_
    refine er_loc (pc' := 31) rfl rfl rfl ?_
    refine er_isZ (pc' := 32) (y.1) rfl rfl (fun _ => rfl) rfl hlt rfl rfl ?_
    refine er_loc (pc' := 33) rfl rfl rfl ?_
    refine er_pure (pc' := 34) rfl rfl rfl ?_
    refine er_gf (pc' := 37) (.int (nI y.1)) rfl rfl rfl rfl rfl ?_
    refine er_k (pc' := 38) (nI 1) rfl rfl rfl ?_
    refine er_iadd (pc' := 39) rfl rfl ?_
    rw [nI_add y.1 1]
    refine er_pfIZ (pc' := 42) 9 rfl rfl rfl rfl rfl rfl ?_
    refine er_vret rfl rfl ?_
    exact PN_of (QZ_w hlt)
theorem nmQ_no {u : Nat} {b : Int32} (h1 : ¬ b = 115) (h2 : ¬ b = 109) (h3 : ¬ b = 116) (h4 : ¬ b = 107) : nmQ u b = -1 := by
  unfold nmQ
  by_cases h : b < 0
  · rw [if_pos h]
  · rw [if_neg h]
    obtain ⟨c, hc, rfl⟩ := nI_of h
    rw [nN_nI hc]
    unfold nmI
    have c1 : ¬ c = 115 := fun e => h1 (by rw [e]; decide +kernel)
    have c2 : ¬ c = 109 := fun e => h2 (by rw [e]; decide +kernel)
    have c3 : ¬ c = 116 := fun e => h3 (by rw [e]; decide +kernel)
    have c4 : ¬ c = 107 := fun e => h4 (by rw [e]; decide +kernel)
    by_cases hu : u = 0
    · rw [if_pos hu, if_neg c1, if_neg c2, if_neg c3]
    · rw [if_neg hu, if_neg c2, if_neg c3, if_neg c4]
set_option maxRecDepth 100000 in
set_option maxHeartbeats 4000000 in
theorem l_yName0 (d : Nat) (X Z : Nat → Nat → Int32) {op p : Nat} {bad : Bool} {y : YS} (b : Int32) : EC (d + 1) 160 [.ref 63, .int b] (Wd X (QZ Z 0 op bad p y)) (PI (nmQ 0 b) (Wd X (QZ Z 0 op bad p y))) := by
  refine er_enter (L := [(0, _), (1, _)]) rfl rfl rfl ?_
  refine er_loc (pc' := 1) rfl rfl rfl ?_
  refine er_sw (107) rfl rfl (fun s1_107 => ?_) (fun s1_107 => ?_)
  · refine er_loc (pc' := 96) rfl rfl rfl ?_
    refine er_gf (pc' := 99) (.int (nI 0)) rfl rfl rfl rfl rfl ?_
    refine er_k (pc' := 100) (nI 1) rfl rfl rfl ?_
    refine er_cm_neT rfl (by decide +kernel) ?_
    refine er_k (pc' := 108) (-1) rfl rfl rfl ?_
    refine er_iret rfl rfl ?_
    rw [s1_107]
    exact PI_of (by decide +kernel)
  refine er_sw (109) rfl rfl (fun s1_109 => ?_) (fun s1_109 => ?_)
  · refine er_loc (pc' := 70) rfl rfl rfl ?_
    refine er_gf (pc' := 73) (.int (nI 0)) rfl rfl rfl rfl rfl ?_
    refine er_if_neF (pc' := 76) rfl (by decide +kernel) rfl ?_
    refine er_k (pc' := 77) (nI 1) rfl rfl rfl ?_
    refine er_goto rfl ?_
    refine er_iret rfl rfl ?_
    rw [s1_109]
    exact PI_of (by decide +kernel)
  refine er_sw (115) rfl rfl (fun s1_115 => ?_) (fun s1_115 => ?_)
  · refine er_loc (pc' := 57) rfl rfl rfl ?_
    refine er_gf (pc' := 60) (.int (nI 0)) rfl rfl rfl rfl rfl ?_
    refine er_if_neF (pc' := 63) rfl (by decide +kernel) rfl ?_
    refine er_k (pc' := 64) (nI 0) rfl rfl rfl ?_
    refine er_goto rfl ?_
    refine er_iret rfl rfl ?_
    rw [s1_115]
    exact PI_of (by decide +kernel)
  refine er_sw (116) rfl rfl (fun s1_116 => ?_) (fun s1_116 => ?_)
  · refine er_loc (pc' := 83) rfl rfl rfl ?_
    refine er_gf (pc' := 86) (.int (nI 0)) rfl rfl rfl rfl rfl ?_
    refine er_if_neF (pc' := 89) rfl (by decide +kernel) rfl ?_
    refine er_k (pc' := 90) (nI 2) rfl rfl rfl ?_
    refine er_goto rfl ?_
    refine er_iret rfl rfl ?_
    rw [s1_116]
    exact PI_of (by decide +kernel)
  refine er_tsD [107, 109, 115, 116] rfl rfl rfl rfl (List.forall_mem_cons.mpr ⟨ne_toInt s1_107 rfl, List.forall_mem_cons.mpr ⟨ne_toInt s1_109 rfl, List.forall_mem_cons.mpr ⟨ne_toInt s1_115 rfl, List.forall_mem_cons.mpr ⟨ne_toInt s1_116 rfl, fun _ h => absurd h List.not_mem_nil⟩⟩⟩⟩) ?_
  refine er_k (pc' := 110) (-1) rfl rfl rfl ?_
  refine er_iret rfl rfl ?_
  exact PI_of (nmQ_no s1_115 s1_109 s1_116 s1_107).symm
set_option maxRecDepth 100000 in
set_option maxHeartbeats 4000000 in
theorem l_yName1 (d : Nat) (X Z : Nat → Nat → Int32) {op p : Nat} {bad : Bool} {y : YS} (b : Int32) : EC (d + 1) 160 [.ref 63, .int b] (Wd X (QZ Z 1 op bad p y)) (PI (nmQ 1 b) (Wd X (QZ Z 1 op bad p y))) := by
  refine er_enter (L := [(0, _), (1, _)]) rfl rfl rfl ?_
  refine er_loc (pc' := 1) rfl rfl rfl ?_
  refine er_sw (107) rfl rfl (fun s1_107 => ?_) (fun s1_107 => ?_)
  · refine er_loc (pc' := 96) rfl rfl rfl ?_
    refine er_gf (pc' := 99) (.int (nI 1)) rfl rfl rfl rfl rfl ?_
    refine er_k (pc' := 100) (nI 1) rfl rfl rfl ?_
    refine er_cm_neF (pc' := 103) rfl (rfl) rfl ?_
    refine er_k (pc' := 104) (nI 2) rfl rfl rfl ?_
    refine er_goto rfl ?_
    refine er_iret rfl rfl ?_
    rw [s1_107]
    exact PI_of (by decide +kernel)
  refine er_sw (109) rfl rfl (fun s1_109 => ?_) (fun s1_109 => ?_)
  · refine er_loc (pc' := 70) rfl rfl rfl ?_
    refine er_gf (pc' := 73) (.int (nI 1)) rfl rfl rfl rfl rfl ?_
    refine er_if_neT rfl (by decide +kernel) ?_
    refine er_k (pc' := 81) (nI 0) rfl rfl rfl ?_
    refine er_iret rfl rfl ?_
    rw [s1_109]
    exact PI_of (by decide +kernel)
  refine er_sw (115) rfl rfl (fun s1_115 => ?_) (fun s1_115 => ?_)
  · refine er_loc (pc' := 57) rfl rfl rfl ?_
    refine er_gf (pc' := 60) (.int (nI 1)) rfl rfl rfl rfl rfl ?_
    refine er_if_neT rfl (by decide +kernel) ?_
    refine er_k (pc' := 68) (-1) rfl rfl rfl ?_
    refine er_iret rfl rfl ?_
    rw [s1_115]
    exact PI_of (by decide +kernel)
  refine er_sw (116) rfl rfl (fun s1_116 => ?_) (fun s1_116 => ?_)
  · refine er_loc (pc' := 83) rfl rfl rfl ?_
    refine er_gf (pc' := 86) (.int (nI 1)) rfl rfl rfl rfl rfl ?_
    refine er_if_neT rfl (by decide +kernel) ?_
    refine er_k (pc' := 94) (nI 1) rfl rfl rfl ?_
    refine er_iret rfl rfl ?_
    rw [s1_116]
    exact PI_of (by decide +kernel)
  refine er_tsD [107, 109, 115, 116] rfl rfl rfl rfl (List.forall_mem_cons.mpr ⟨ne_toInt s1_107 rfl, List.forall_mem_cons.mpr ⟨ne_toInt s1_109 rfl, List.forall_mem_cons.mpr ⟨ne_toInt s1_115 rfl, List.forall_mem_cons.mpr ⟨ne_toInt s1_116 rfl, fun _ h => absurd h List.not_mem_nil⟩⟩⟩⟩) ?_
  refine er_k (pc' := 110) (-1) rfl rfl rfl ?_
  refine er_iret rfl rfl ?_
  exact PI_of (nmQ_no s1_115 s1_109 s1_116 s1_107).symm
theorem l_yName (d : Nat) (X Z : Nat → Nat → Int32) {u op p : Nat} (hu : u = 0 ∨ u = 1) {bad : Bool} {y : YS} (b : Int32) : EC (d + 1) 160 [.ref 63, .int b] (Wd X (QZ Z u op bad p y)) (PI (nmQ u b) (Wd X (QZ Z u op bad p y))) := by
  rcases hu with h | h <;> subst h
  · exact l_yName0 d X Z b
  · exact l_yName1 d X Z b
theorem dg_in {b : Int32} : sIn b (nI 48) (nI 57) = dg b := rfl
set_option maxRecDepth 100000 in
set_option maxHeartbeats 4000000 in
theorem l_yNum_loop (d : Nat) (X Z : Nat → Nat → Int32) {u op e : Nat} {y : YS} (he : X 64 5 = nI e) (he50 : e ≤ 50) (hy : y.1 ≤ 50) : ∀ (m i p : Nat) (v x : Int32), (1 ≤ i ∧ i + m = 4) → x = nI i → p ≤ e → ER (d + 1) tb_m163 4 [(0, .ref 63), (1, .int v), (2, .int x)] [] (Wd X (QZ Z u op false p y)) (PN X (QZ Z u op false (pNum (jm (X 64) 9) e m p v).1 (wrY y (nI 1) (pNum (jm (X 64) 9) e m p v).2)))
  | 0, i, p, v, x, hi, hx, hp => by
    have hi0 : i = 4 := by omega
    subst hx
    subst hi0
    refine er_loc (pc' := 5) rfl rfl rfl ?_
    refine er_k (pc' := 6) (nI 4) rfl rfl rfl ?_
    refine er_cm_geT rfl (nI_nlt (by omega) (by omega)) ?_
    refine er_loc (pc' := 53) rfl rfl rfl ?_
    refine er_loc (pc' := 54) rfl rfl rfl ?_
    refine er_if_neT rfl (nI_ne0 (by omega) (by omega)) ?_
    refine er_k (pc' := 62) (nI 0) rfl rfl rfl ?_
    refine er_pfIZ 12 rfl rfl rfl rfl rfl rfl ?_
    rw [show (nI 0 : Int32) = bI false from rfl, QZ_b]
    refine er_loc (pc' := 66) rfl rfl rfl ?_
    refine er_k (pc' := 67) (nI 1) rfl rfl rfl ?_
    refine er_loc (pc' := 68) rfl rfl rfl ?_
    refine er_cIn (pc' := 71) (rest := []) 12 rfl rfl rfl rfl rfl rfl (l_yLays _ X _ (hy) _ _) ?_
    refine er_vret rfl rfl ?_
    exact PN_of rfl
  | m + 1, i, p, v, x, hi, hx, hp => by
    subst hx
    refine er_loc (pc' := 5) rfl rfl rfl ?_
    refine er_k (pc' := 6) (nI 4) rfl rfl rfl ?_
    refine er_cm_geF (pc' := 9) rfl (nI_lt (by omega) (by omega)) rfl ?_
    refine er_loc (pc' := 10) rfl rfl rfl ?_
    refine er_cIi (pc' := 13) (rest := []) 12 rfl rfl rfl rfl rfl rfl (l_yByte _ X _ he he50 hp) ?_
    refine er_k (pc' := 15) (nI 48) rfl rfl rfl ?_
    refine er_k (pc' := 17) (nI 57) rfl rfl rfl ?_
    refine er_cSi (pc' := 20) (rest := []) rfl rfl rfl (l_in _ _ _ _ _) ?_
    rw [dg_in]
    refine er_if_eqb (pc' := 23) rfl rfl (fun h20 => ?_) (fun h20 => ?_)
    · refine er_loc (pc' := 53) rfl rfl rfl ?_
      refine er_loc (pc' := 54) rfl rfl rfl ?_
      refine er_if_neT rfl (nI_ne0 (by omega) (by omega)) ?_
      refine er_k (pc' := 62) (nI 0) rfl rfl rfl ?_
      refine er_pfIZ 12 rfl rfl rfl rfl rfl rfl ?_
      rw [show (nI 0 : Int32) = bI false from rfl, QZ_b]
      refine er_loc (pc' := 66) rfl rfl rfl ?_
      refine er_k (pc' := 67) (nI 1) rfl rfl rfl ?_
      refine er_loc (pc' := 68) rfl rfl rfl ?_
      refine er_cIn (pc' := 71) (rest := []) 12 rfl rfl rfl rfl rfl rfl (l_yLays _ X _ (hy) _ _) ?_
      refine er_vret rfl rfl ?_
      rw [show pNum (jm (X 64) 9) e (m + 1) p v = (p, v) from if_neg (by rw [h20]; decide)]
      exact PN_of rfl
    · refine er_k (pc' := 25) (nI 10) rfl rfl rfl ?_
      refine er_loc (pc' := 26) rfl rfl rfl ?_
      refine er_imul (pc' := 27) rfl rfl ?_
      refine er_loc (pc' := 28) rfl rfl rfl ?_
      refine er_cIi (pc' := 31) (rest := [_]) 12 rfl rfl rfl rfl rfl rfl (l_yByte _ X _ he he50 hp) ?_
      refine er_iadd (pc' := 32) rfl rfl ?_
      refine er_k (pc' := 34) (nI 48) rfl rfl rfl ?_
      refine er_isub (pc' := 35) rfl rfl ?_
      refine er_loc (pc' := 36) (L' := [(1, _), (0, _), (2, _)]) rfl rfl rfl ?_
      refine er_loc (pc' := 37) rfl rfl rfl ?_
      refine er_pure (pc' := 38) rfl rfl rfl ?_
      refine er_gf (pc' := 41) (.int (nI p)) rfl rfl rfl rfl rfl ?_
      refine er_k (pc' := 42) (nI 1) rfl rfl rfl ?_
      refine er_iadd (pc' := 43) rfl rfl ?_
      rw [nI_add p 1]
      refine er_pfIZ (pc' := 46) 10 rfl rfl rfl rfl rfl rfl ?_
      rw [QZ_p]
      refine er_loc (L' := [(2, .int (_ + nI 1)), (1, _), (0, _)]) rfl rfl rfl ?_
      refine er_goto rfl ?_
      refine ER_loc [(0, _), (1, _), (2, _)] rfl (List.forall_mem_cons.mpr ⟨rfl, List.forall_mem_cons.mpr ⟨rfl, List.forall_mem_cons.mpr ⟨rfl, fun _ h => absurd h List.not_mem_nil⟩⟩⟩) rfl rfl ?_
      have e2 : pNum (jm (X 64) 9) e (m + 1) p v = pNum (jm (X 64) 9) e m (p + 1) (v * nI 10 + pk (jm (X 64) 9) e p - nI 48) := if_pos h20
      rw [e2, Int32.mul_comm (nI 10) v]
      exact l_yNum_loop d X Z he he50 hy m (i + 1) (p + 1) _ _ (by omega) (nI_add i 1) (dg_lt h20)
set_option maxRecDepth 100000 in
set_option maxHeartbeats 4000000 in
theorem l_yNum (d : Nat) (X Z : Nat → Nat → Int32) {u op e p : Nat} {y : YS} (he : X 64 5 = nI e) (he50 : e ≤ 50) (hp : p ≤ e) (hy : y.1 ≤ 50) : EC (d + 3) 163 [.ref 63] (Wd X (QZ Z u op false p y)) (PN X (if dg (pk (jm (X 64) 9) e p) = true then QZ Z u op false (pNum (jm (X 64) 9) e 4 p (nI 0)).1 (wrY y (nI 1) (pNum (jm (X 64) 9) e 4 p (nI 0)).2) else QZ Z u op true p (wrY y (nI 1) (nI 0)))) := by
  refine er_enter (L := [(0, _)]) rfl rfl rfl ?_
  refine er_k (pc' := 1) (nI 0) rfl rfl rfl ?_
  refine er_loc (pc' := 2) (L' := [(1, _), (0, _)]) rfl rfl rfl ?_
  refine er_k (pc' := 3) (nI 0) rfl rfl rfl ?_
  refine er_loc (pc' := 4) (L' := [(2, _), (1, _), (0, _)]) rfl rfl rfl ?_
  refine er_loc (pc' := 5) rfl rfl rfl ?_
  refine er_k (pc' := 6) (nI 4) rfl rfl rfl ?_
  refine er_cm_geF (pc' := 9) rfl (nI_lt (by omega) (by omega)) rfl ?_
  refine er_loc (pc' := 10) rfl rfl rfl ?_
  refine er_cIi (pc' := 13) (rest := []) 12 rfl rfl rfl rfl rfl rfl (l_yByte _ X _ he he50 hp) ?_
  refine er_k (pc' := 15) (nI 48) rfl rfl rfl ?_
  refine er_k (pc' := 17) (nI 57) rfl rfl rfl ?_
  refine er_cSi (pc' := 20) (rest := []) rfl rfl rfl (l_in _ _ _ _ _) ?_
  rw [dg_in]
  refine er_if_eqb (pc' := 23) rfl rfl (fun h20 => ?_) (fun h20 => ?_)
  · refine er_loc (pc' := 53) rfl rfl rfl ?_
    refine er_loc (pc' := 54) rfl rfl rfl ?_
    refine er_if_neF (pc' := 57) rfl (rfl) rfl ?_
    refine er_k (pc' := 58) (nI 1) rfl rfl rfl ?_
    refine er_goto rfl ?_
    refine er_pfIZ 12 rfl rfl rfl rfl rfl rfl ?_
    rw [show (nI 1 : Int32) = bI true from rfl, QZ_b]
    refine er_loc (pc' := 66) rfl rfl rfl ?_
    refine er_k (pc' := 67) (nI 1) rfl rfl rfl ?_
    refine er_loc (pc' := 68) rfl rfl rfl ?_
    refine er_cIn (pc' := 71) (rest := []) 12 rfl rfl rfl rfl rfl rfl (l_yLays _ X _ (hy) _ _) ?_
    refine er_vret rfl rfl ?_
    rw [if_neg (by rw [h20]; decide)]
    exact PN_of rfl
  · refine er_k (pc' := 25) (nI 10) rfl rfl rfl ?_
    refine er_loc (pc' := 26) rfl rfl rfl ?_
    refine er_imul (pc' := 27) rfl rfl ?_
    refine er_loc (pc' := 28) rfl rfl rfl ?_
    refine er_cIi (pc' := 31) (rest := [_]) 12 rfl rfl rfl rfl rfl rfl (l_yByte _ X _ he he50 hp) ?_
    refine er_iadd (pc' := 32) rfl rfl ?_
    refine er_k (pc' := 34) (nI 48) rfl rfl rfl ?_
    refine er_isub (pc' := 35) rfl rfl ?_
    refine er_loc (pc' := 36) (L' := [(1, _), (2, _), (0, _)]) rfl rfl rfl ?_
    refine er_loc (pc' := 37) rfl rfl rfl ?_
    refine er_pure (pc' := 38) rfl rfl rfl ?_
    refine er_gf (pc' := 41) (.int (nI p)) rfl rfl rfl rfl rfl ?_
    refine er_k (pc' := 42) (nI 1) rfl rfl rfl ?_
    refine er_iadd (pc' := 43) rfl rfl ?_
    rw [nI_add p 1]
    refine er_pfIZ (pc' := 46) 10 rfl rfl rfl rfl rfl rfl ?_
    rw [QZ_p]
    refine er_loc (L' := [(2, .int (_ + nI 1)), (1, _), (0, _)]) rfl rfl rfl ?_
    refine er_goto rfl ?_
    refine ER_loc [(0, _), (1, _), (2, _)] rfl (List.forall_mem_cons.mpr ⟨rfl, List.forall_mem_cons.mpr ⟨rfl, List.forall_mem_cons.mpr ⟨rfl, fun _ h => absurd h List.not_mem_nil⟩⟩⟩) rfl rfl ?_
    have e2 : pNum (jm (X 64) 9) e 4 p (nI 0) = pNum (jm (X 64) 9) e 3 (p + 1) (nI 0 * nI 10 + pk (jm (X 64) 9) e p - nI 48) := if_pos h20
    rw [if_pos h20, e2, Int32.mul_comm (nI 10) (nI 0)]
    exact l_yNum_loop (d + 1) X Z he he50 hy 3 1 (p + 1) _ _ (by omega) rfl (dg_lt h20)
end
section
/-! THE REFERENCE reads: its ranks -/
def PY (X Z : Nat → Nat → Int32) (u e op : Nat) (t : PT) : ab_R → Prop := fun r => match t with
  | .inl x => ∃ y : YS, y.1 ≤ 50 ∧ x ≤ e ∧ r = (none, Wd X (QZ Z u op true x y))
  | .inr s => s.1 ≤ e ∧ s.2.1 ≤ 50 ∧ ∃ y, CA s.2 y ∧ r = (none, Wd X (QZ Z u op false s.1 y))
theorem PY_inl {X Z : Nat → Nat → Int32} {u e op x : Nat} {t : PT} {y : YS} (ht : t = .inl x) (hy : y.1 ≤ 50) (hx : x ≤ e) : PY X Z u e op t (none, Wd X (QZ Z u op true x y)) := by
  subst ht
  exact ⟨y, hy, hx, rfl⟩
theorem PY_inr {X Z : Nat → Nat → Int32} {u e op p : Nat} {t : PT} {s : Nat × (Nat → Int32)} {y : YS} (ht : t = .inr (p, s)) (hp : p ≤ e) (hs : s.1 ≤ 50) (hc : CA s y) : PY X Z u e op t (none, Wd X (QZ Z u op false p y)) := by
  subst ht
  exact ⟨hp, hs, y, hc, rfl⟩
theorem pk_end {tp : Nat → Int32} {e p : Nat} (h : e ≤ p) : pk tp e p = -1 := if_neg (by omega)
theorem qL_le {f : PS → PT} {tp : Nat → Int32} {e rk : Nat} (H : ∀ p s s', f (p, s) = .inr s' → p ≤ s'.1) : ∀ (m p : Nat) (s : Nat × (Nat → Int32)) (s' : PS), qL f tp e rk m (p, s) = .inr s' → p ≤ s'.1
  | 0, p, s, s', h => by
    cases h
    exact Nat.le_refl _
  | m + 1, p, s, s', h => by
    by_cases c : jn2 rk (pk tp e p) = true
    · cases h1 : f (p + 1, s) with
      | inl a => rw [qL_inl c h1] at h; cases h
      | inr a =>
        rw [qL_inr c h1] at h
        have g1 := H _ _ _ h1
        have g2 := qL_le H m _ _ _ h
        omega
    · rw [qL_no c] at h
      cases h
      exact Nat.le_refl _
theorem qR_le {f : Nat → Nat → PS → PT} {tp : Nat → Int32} {e rk op : Nat} (H : ∀ p s s', f (rk + 1) op (p, s) = .inr s' → p ≤ s'.1) {p : Nat} {s : Nat × (Nat → Int32)} {s' : PS} (h : qR tp e f rk op (p, s) = .inr s') : p ≤ s'.1 := by
  unfold qR at h
  cases h1 : f (rk + 1) op (p, s) with
  | inl a => rw [h1] at h; cases h
  | inr a =>
    rw [h1] at h
    have g1 := H _ _ _ h1
    have g2 := qL_le (f := f (rk + 1) op) H _ _ _ _ h
    omega
theorem pNum_ge {tp : Nat → Int32} {e : Nat} : ∀ (m p : Nat) (v : Int32), p ≤ (pNum tp e m p v).1
  | 0, p, v => Nat.le_refl p
  | m + 1, p, v => by
    show p ≤ (if _ then _ else _ : Nat × Int32).1
    split
    · have := pNum_ge (tp := tp) (e := e) m (p + 1) (v * nI 10 + pk tp e p - nI 48)
      omega
    · exact Nat.le_refl p
theorem qP_le {f : Nat → Nat → PS → PT} {tp : Nat → Int32} {e u op : Nat} (H : ∀ rk op p s s', f rk op (p, s) = .inr s' → p ≤ s'.1) {p : Nat} {s : Nat × (Nat → Int32)} {s' : PS} (h : qP tp e u f op (p, s) = .inr s') : p ≤ s'.1 := by
  unfold qP at h
  dsimp only at h
  split at h
  · cases h
    exact pNum_ge _ _ _
  · split at h
    · cases h
      show p ≤ p + 1
      omega
    · split at h
      · cases h1 : f 5 (op + 1) (p + 1, s) with
        | inl a => rw [h1] at h; cases h
        | inr a =>
          rw [h1] at h
          cases h
          have := H _ _ _ _ _ h1
          show p ≤ a.1
          omega
      · split at h
        · cases h1 : f 0 (op + 1) (p + 1, s) with
          | inl a => rw [h1] at h; cases h
          | inr a =>
            rw [h1] at h
            have := H _ _ _ _ _ h1
            dsimp only at h
            split at h
            · cases h
              show p ≤ a.1 + 1
              omega
            · cases h
        · cases h
theorem qq_le {tp : Nat → Int32} {e u : Nat} : ∀ (F rk op p : Nat) (s : Nat × (Nat → Int32)) (s' : PS), qq tp e u F rk op (p, s) = .inr s' → p ≤ s'.1
  | 0, rk, op, p, s, s', h => by cases h
  | F + 1, rk, op, p, s, s', h => by
    by_cases c : rk < 5
    · rw [qq_R c] at h
      exact qR_le (fun p s s' => qq_le F (rk + 1) op p s s') h
    · have e1 : qq tp e u (F + 1) rk op (p, s) = qP tp e u (qq tp e u F) op (p, s) := if_neg c
      rw [e1] at h
      exact qP_le (fun rk op p s s' => qq_le F rk op p s s') h
theorem aOK_sg {g w : Int32} (h : okSg g) : aOK g w := Or.inr (Or.inr (Or.inr h))
theorem ok124 : okSg (nI 124) := by unfold okSg; decide +kernel
theorem ok38 : okSg (nI 38) := by unfold okSg; decide +kernel
theorem jn_ok {rk : Nat} {b : Int32} (hr : rk < 5) (h : jn2 rk b = true) : okSg b := by
  unfold okSg
  rcases lt5 hr with e | e | e | e | e <;> subst e
  · have e2 : b = nI 124 := of_decide_eq_true h
    subst e2; decide +kernel
  · have e2 : b = nI 38 := of_decide_eq_true h
    subst e2; decide +kernel
  · have e : (decide (b = nI 60) || (decide (b = nI 61) || decide (b = nI 62))) = true := h
    simp only [Bool.or_eq_true, decide_eq_true_eq] at e
    rcases e with e | e | e <;> subst e <;> decide +kernel
  · have e : (decide (b = nI 43) || decide (b = nI 45)) = true := h
    simp only [Bool.or_eq_true, decide_eq_true_eq] at e
    rcases e with e | e <;> subst e <;> decide +kernel
  · have e : (decide (b = nI 42) || (decide (b = nI 47) || decide (b = nI 37))) = true := h
    simp only [Bool.or_eq_true, decide_eq_true_eq] at e
    rcases e with e | e | e <;> subst e <;> decide +kernel
set_option maxRecDepth 100000 in
set_option maxHeartbeats 4000000 in
theorem l_yBad0 (d : Nat) (X Z : Nat → Nat → Int32) {u op e x : Nat} {t : PT} {y : YS} (ht : t = .inl x) (hy : y.1 ≤ 50) (hx : x ≤ e) : ER (d + 1) tb_m153 4 [(0, .ref 63)] [] (Wd X (QZ Z u op true x y)) (PY X Z u e op t) := by
  refine er_loc (pc' := 5) rfl rfl rfl ?_
  refine er_gf (pc' := 8) (.int (bI true)) rfl rfl rfl rfl rfl ?_
  refine er_if_neT rfl (by decide +kernel) ?_
  refine er_vret rfl rfl ?_
  exact PY_inl ht hy hx
set_option maxRecDepth 100000 in
set_option maxHeartbeats 4000000 in
theorem l_yL0 (d : Nat) (X Z : Nat → Nat → Int32) {u op e : Nat} {f : PS → PT} (he : X 64 5 = nI e) (he50 : e ≤ 50) (H : ∀ (p : Nat) (s : Nat × (Nat → Int32)) (y : YS), p ≤ e → s.1 ≤ 50 → CA s y → EC (d + 1) 154 [.ref 63] (Wd X (QZ Z u op false p y)) (PY X Z u e op (f (p, s)))) (Hle : ∀ p s s', f (p, s) = .inr s' → p ≤ s'.1) : ∀ (m i p : Nat) (s : Nat × (Nat → Int32)) (y : YS), i + m = 50 → i ≤ p → p ≤ e → s.1 ≤ 50 → CA s y → ER (d + 1) tb_m153 4 [(0, .ref 63)] [] (Wd X (QZ Z u op false p y)) (PY X Z u e op (qL f (jm (X 64) 9) e 0 m (p, s)))
  | 0, i, p, s, y, hi, hip, hp, hs, hca => by
    refine er_loc (pc' := 5) rfl rfl rfl ?_
    refine er_gf (pc' := 8) (.int (bI false)) rfl rfl rfl rfl rfl ?_
    refine er_if_neF (pc' := 11) rfl (by decide +kernel) rfl ?_
    refine er_loc (pc' := 12) rfl rfl rfl ?_
    refine er_cIi (pc' := 15) (rest := []) 12 rfl rfl rfl rfl rfl rfl (l_yByte _ X _ he he50 hp) ?_
    rw [pk_end (show e ≤ p by omega)]
    refine er_k (pc' := 17) (nI 124) rfl rfl rfl ?_
    refine er_cm_neT rfl (by decide +kernel) ?_
    refine er_vret rfl rfl ?_
    exact PY_inr rfl hp hs hca
  | m + 1, i, p, s, y, hi, hip, hp, hs, hca => by
    refine er_loc (pc' := 5) rfl rfl rfl ?_
    refine er_gf (pc' := 8) (.int (bI false)) rfl rfl rfl rfl rfl ?_
    refine er_if_neF (pc' := 11) rfl (by decide +kernel) rfl ?_
    refine er_loc (pc' := 12) rfl rfl rfl ?_
    refine er_cIi (pc' := 15) (rest := []) 12 rfl rfl rfl rfl rfl rfl (l_yByte _ X _ he he50 hp) ?_
    refine er_k (pc' := 17) (nI 124) rfl rfl rfl ?_
    refine er_cm_ne (pc' := 20) rfl rfl (fun h17 => ?_) (fun h17 => ?_)
    · refine er_vret rfl rfl ?_
      have hj : ¬ jn2 0 (pk (jm (X 64) 9) e p) = true := by
        intro hh
        exact h17 (of_decide_eq_true hh)
      exact PY_inr (qL_no hj) hp hs hca
    · refine er_loc (pc' := 21) rfl rfl rfl ?_
      refine er_pure (pc' := 22) rfl rfl rfl ?_
      refine er_gf (pc' := 25) (.int (nI p)) rfl rfl rfl rfl rfl ?_
      refine er_k (pc' := 26) (nI 1) rfl rfl rfl ?_
      refine er_iadd (pc' := 27) rfl rfl ?_
      rw [nI_add p 1]
      refine er_pfIZ (pc' := 30) 10 rfl rfl rfl rfl rfl rfl ?_
      rw [QZ_p]
      refine er_loc (pc' := 31) rfl rfl rfl ?_
      have hj : jn2 0 (pk (jm (X 64) 9) e p) = true := decide_eq_true h17
      have hp1 := jn_lt (show 0 < 5 by omega) hj
      refine er_cIP (pc' := 34) (rest := []) 12 rfl rfl rfl rfl rfl rfl (H (p + 1) s y hp1 hs hca) (fun r hr => ?_)
      cases h1 : f (p + 1, s) with
      | inl x =>
        rw [h1] at hr
        obtain ⟨y2, hy2, hx2, rfl⟩ := hr
        refine er_loc (pc' := 35) rfl rfl rfl ?_
        refine er_k (pc' := 37) (nI 124) rfl rfl rfl ?_
        refine er_k (pc' := 38) (nI 0) rfl rfl rfl ?_
        refine er_cIn (pc' := 41) (rest := []) 12 rfl rfl rfl rfl rfl rfl (l_yLays _ X _ hy2 _ _) ?_
        refine er_goto rfl ?_
        refine ER_loc [(0, _)] rfl (List.forall_mem_cons.mpr ⟨rfl, fun _ h => absurd h List.not_mem_nil⟩) rfl rfl ?_
        exact l_yBad0 d X Z (qL_inl hj h1) (wrY_le hy2) hx2
      | inr s1 =>
        rw [h1] at hr
        obtain ⟨hq1, hq2, y2, hca2, rfl⟩ := hr
        refine er_loc (pc' := 35) rfl rfl rfl ?_
        refine er_k (pc' := 37) (nI 124) rfl rfl rfl ?_
        refine er_k (pc' := 38) (nI 0) rfl rfl rfl ?_
        refine er_cIn (pc' := 41) (rest := []) 12 rfl rfl rfl rfl rfl rfl (l_yLays _ X _ (hca2.le hq2) _ _) ?_
        refine er_goto rfl ?_
        refine ER_loc [(0, _)] rfl (List.forall_mem_cons.mpr ⟨rfl, fun _ h => absurd h List.not_mem_nil⟩) rfl rfl ?_
        rw [qL_inr hj h1]
        have hpk : pk (jm (X 64) 9) e p = nI 124 := h17
        rw [hpk]
        exact l_yL0 d X Z he he50 H Hle m (i + 1) s1.1 _ _ (by omega) (by have := Hle _ _ _ h1; omega) hq1 (wrC_le hq2) (hca2.wr (aOK_sg ok124) (cM_g ok124))
set_option maxRecDepth 100000 in
set_option maxHeartbeats 4000000 in
theorem l_yR0 (d : Nat) (X Z : Nat → Nat → Int32) {u op e p : Nat} {g : Nat → Nat → PS → PT} {f : PS → PT} (hf : g 1 op = f) (he : X 64 5 = nI e) (he50 : e ≤ 50) (H : ∀ (p : Nat) (s : Nat × (Nat → Int32)) (y : YS), p ≤ e → s.1 ≤ 50 → CA s y → EC (d + 1) 154 [.ref 63] (Wd X (QZ Z u op false p y)) (PY X Z u e op (f (p, s)))) (Hle : ∀ p s s', f (p, s) = .inr s' → p ≤ s'.1) (s : Nat × (Nat → Int32)) (y : YS) (hp : p ≤ e) (hs : s.1 ≤ 50) (hca : CA s y) : EC (d + 2) 153 [.ref 63] (Wd X (QZ Z u op false p y)) (PY X Z u e op (qR (jm (X 64) 9) e g 0 op (p, s))) := by
  subst hf
  refine er_enter (L := [(0, _)]) rfl rfl rfl ?_
  show ER _ _ _ _ _ _ (PY X Z u e op (match g 1 op (p, s) with | .inl x => .inl x | .inr s1 => qL (g 1 op) (jm (X 64) 9) e 0 50 s1))
  refine er_loc (pc' := 1) rfl rfl rfl ?_
  refine er_cIP (pc' := 4) (rest := []) 12 rfl rfl rfl rfl rfl rfl (H p s y hp hs hca) (fun r hr => ?_)
  cases h1 : g 1 op (p, s) with
  | inl x =>
    rw [h1] at hr
    obtain ⟨y2, hy2, hx2, rfl⟩ := hr
    refine ER_loc [(0, _)] rfl (List.forall_mem_cons.mpr ⟨rfl, fun _ h => absurd h List.not_mem_nil⟩) rfl rfl ?_
    exact l_yBad0 d X Z rfl hy2 hx2
  | inr s1 =>
    rw [h1] at hr
    obtain ⟨hq1, hq2, y2, hca2, rfl⟩ := hr
    refine ER_loc [(0, _)] rfl (List.forall_mem_cons.mpr ⟨rfl, fun _ h => absurd h List.not_mem_nil⟩) rfl rfl ?_
    exact l_yL0 d X Z he he50 H Hle 50 0 s1.1 s1.2 y2 (by omega) (by omega) hq1 hq2 hca2
set_option maxRecDepth 100000 in
set_option maxHeartbeats 4000000 in
theorem l_yBad1 (d : Nat) (X Z : Nat → Nat → Int32) {u op e x : Nat} {t : PT} {y : YS} (ht : t = .inl x) (hy : y.1 ≤ 50) (hx : x ≤ e) : ER (d + 1) tb_m154 4 [(0, .ref 63)] [] (Wd X (QZ Z u op true x y)) (PY X Z u e op t) := by
  refine er_loc (pc' := 5) rfl rfl rfl ?_
  refine er_gf (pc' := 8) (.int (bI true)) rfl rfl rfl rfl rfl ?_
  refine er_if_neT rfl (by decide +kernel) ?_
  refine er_vret rfl rfl ?_
  exact PY_inl ht hy hx
set_option maxRecDepth 100000 in
set_option maxHeartbeats 4000000 in
theorem l_yL1 (d : Nat) (X Z : Nat → Nat → Int32) {u op e : Nat} {f : PS → PT} (he : X 64 5 = nI e) (he50 : e ≤ 50) (H : ∀ (p : Nat) (s : Nat × (Nat → Int32)) (y : YS), p ≤ e → s.1 ≤ 50 → CA s y → EC (d + 1) 155 [.ref 63] (Wd X (QZ Z u op false p y)) (PY X Z u e op (f (p, s)))) (Hle : ∀ p s s', f (p, s) = .inr s' → p ≤ s'.1) : ∀ (m i p : Nat) (s : Nat × (Nat → Int32)) (y : YS), i + m = 50 → i ≤ p → p ≤ e → s.1 ≤ 50 → CA s y → ER (d + 1) tb_m154 4 [(0, .ref 63)] [] (Wd X (QZ Z u op false p y)) (PY X Z u e op (qL f (jm (X 64) 9) e 1 m (p, s)))
  | 0, i, p, s, y, hi, hip, hp, hs, hca => by
    refine er_loc (pc' := 5) rfl rfl rfl ?_
    refine er_gf (pc' := 8) (.int (bI false)) rfl rfl rfl rfl rfl ?_
    refine er_if_neF (pc' := 11) rfl (by decide +kernel) rfl ?_
    refine er_loc (pc' := 12) rfl rfl rfl ?_
    refine er_cIi (pc' := 15) (rest := []) 12 rfl rfl rfl rfl rfl rfl (l_yByte _ X _ he he50 hp) ?_
    rw [pk_end (show e ≤ p by omega)]
    refine er_k (pc' := 17) (nI 38) rfl rfl rfl ?_
    refine er_cm_neT rfl (by decide +kernel) ?_
    refine er_vret rfl rfl ?_
    exact PY_inr rfl hp hs hca
  | m + 1, i, p, s, y, hi, hip, hp, hs, hca => by
    refine er_loc (pc' := 5) rfl rfl rfl ?_
    refine er_gf (pc' := 8) (.int (bI false)) rfl rfl rfl rfl rfl ?_
    refine er_if_neF (pc' := 11) rfl (by decide +kernel) rfl ?_
    refine er_loc (pc' := 12) rfl rfl rfl ?_
    refine er_cIi (pc' := 15) (rest := []) 12 rfl rfl rfl rfl rfl rfl (l_yByte _ X _ he he50 hp) ?_
    refine er_k (pc' := 17) (nI 38) rfl rfl rfl ?_
    refine er_cm_ne (pc' := 20) rfl rfl (fun h17 => ?_) (fun h17 => ?_)
    · refine er_vret rfl rfl ?_
      have hj : ¬ jn2 1 (pk (jm (X 64) 9) e p) = true := by
        intro hh
        exact h17 (of_decide_eq_true hh)
      exact PY_inr (qL_no hj) hp hs hca
    · refine er_loc (pc' := 21) rfl rfl rfl ?_
      refine er_pure (pc' := 22) rfl rfl rfl ?_
      refine er_gf (pc' := 25) (.int (nI p)) rfl rfl rfl rfl rfl ?_
      refine er_k (pc' := 26) (nI 1) rfl rfl rfl ?_
      refine er_iadd (pc' := 27) rfl rfl ?_
      rw [nI_add p 1]
      refine er_pfIZ (pc' := 30) 10 rfl rfl rfl rfl rfl rfl ?_
      rw [QZ_p]
      refine er_loc (pc' := 31) rfl rfl rfl ?_
      have hj : jn2 1 (pk (jm (X 64) 9) e p) = true := decide_eq_true h17
      have hp1 := jn_lt (show 1 < 5 by omega) hj
      refine er_cIP (pc' := 34) (rest := []) 12 rfl rfl rfl rfl rfl rfl (H (p + 1) s y hp1 hs hca) (fun r hr => ?_)
      cases h1 : f (p + 1, s) with
      | inl x =>
        rw [h1] at hr
        obtain ⟨y2, hy2, hx2, rfl⟩ := hr
        refine er_loc (pc' := 35) rfl rfl rfl ?_
        refine er_k (pc' := 37) (nI 38) rfl rfl rfl ?_
        refine er_k (pc' := 38) (nI 0) rfl rfl rfl ?_
        refine er_cIn (pc' := 41) (rest := []) 12 rfl rfl rfl rfl rfl rfl (l_yLays _ X _ hy2 _ _) ?_
        refine er_goto rfl ?_
        refine ER_loc [(0, _)] rfl (List.forall_mem_cons.mpr ⟨rfl, fun _ h => absurd h List.not_mem_nil⟩) rfl rfl ?_
        exact l_yBad1 d X Z (qL_inl hj h1) (wrY_le hy2) hx2
      | inr s1 =>
        rw [h1] at hr
        obtain ⟨hq1, hq2, y2, hca2, rfl⟩ := hr
        refine er_loc (pc' := 35) rfl rfl rfl ?_
        refine er_k (pc' := 37) (nI 38) rfl rfl rfl ?_
        refine er_k (pc' := 38) (nI 0) rfl rfl rfl ?_
        refine er_cIn (pc' := 41) (rest := []) 12 rfl rfl rfl rfl rfl rfl (l_yLays _ X _ (hca2.le hq2) _ _) ?_
        refine er_goto rfl ?_
        refine ER_loc [(0, _)] rfl (List.forall_mem_cons.mpr ⟨rfl, fun _ h => absurd h List.not_mem_nil⟩) rfl rfl ?_
        rw [qL_inr hj h1]
        have hpk : pk (jm (X 64) 9) e p = nI 38 := h17
        rw [hpk]
        exact l_yL1 d X Z he he50 H Hle m (i + 1) s1.1 _ _ (by omega) (by have := Hle _ _ _ h1; omega) hq1 (wrC_le hq2) (hca2.wr (aOK_sg ok38) (cM_g ok38))
set_option maxRecDepth 100000 in
set_option maxHeartbeats 4000000 in
theorem l_yR1 (d : Nat) (X Z : Nat → Nat → Int32) {u op e p : Nat} {g : Nat → Nat → PS → PT} {f : PS → PT} (hf : g 2 op = f) (he : X 64 5 = nI e) (he50 : e ≤ 50) (H : ∀ (p : Nat) (s : Nat × (Nat → Int32)) (y : YS), p ≤ e → s.1 ≤ 50 → CA s y → EC (d + 1) 155 [.ref 63] (Wd X (QZ Z u op false p y)) (PY X Z u e op (f (p, s)))) (Hle : ∀ p s s', f (p, s) = .inr s' → p ≤ s'.1) (s : Nat × (Nat → Int32)) (y : YS) (hp : p ≤ e) (hs : s.1 ≤ 50) (hca : CA s y) : EC (d + 2) 154 [.ref 63] (Wd X (QZ Z u op false p y)) (PY X Z u e op (qR (jm (X 64) 9) e g 1 op (p, s))) := by
  subst hf
  refine er_enter (L := [(0, _)]) rfl rfl rfl ?_
  show ER _ _ _ _ _ _ (PY X Z u e op (match g 2 op (p, s) with | .inl x => .inl x | .inr s1 => qL (g 2 op) (jm (X 64) 9) e 1 50 s1))
  refine er_loc (pc' := 1) rfl rfl rfl ?_
  refine er_cIP (pc' := 4) (rest := []) 12 rfl rfl rfl rfl rfl rfl (H p s y hp hs hca) (fun r hr => ?_)
  cases h1 : g 2 op (p, s) with
  | inl x =>
    rw [h1] at hr
    obtain ⟨y2, hy2, hx2, rfl⟩ := hr
    refine ER_loc [(0, _)] rfl (List.forall_mem_cons.mpr ⟨rfl, fun _ h => absurd h List.not_mem_nil⟩) rfl rfl ?_
    exact l_yBad1 d X Z rfl hy2 hx2
  | inr s1 =>
    rw [h1] at hr
    obtain ⟨hq1, hq2, y2, hca2, rfl⟩ := hr
    refine ER_loc [(0, _)] rfl (List.forall_mem_cons.mpr ⟨rfl, fun _ h => absurd h List.not_mem_nil⟩) rfl rfl ?_
    exact l_yL1 d X Z he he50 H Hle 50 0 s1.1 s1.2 y2 (by omega) (by omega) hq1 hq2 hca2
set_option maxRecDepth 100000 in
set_option maxHeartbeats 4000000 in
theorem l_yBad3 (d : Nat) (X Z : Nat → Nat → Int32) {u op e x : Nat} {t : PT} {y : YS} (ht : t = .inl x) (hy : y.1 ≤ 50) (hx : x ≤ e) : ER (d + 1) tb_m156 4 [(0, .ref 63)] [] (Wd X (QZ Z u op true x y)) (PY X Z u e op t) := by
  refine er_loc (pc' := 5) rfl rfl rfl ?_
  refine er_gf (pc' := 8) (.int (bI true)) rfl rfl rfl rfl rfl ?_
  refine er_if_neT rfl (by decide +kernel) ?_
  refine er_vret rfl rfl ?_
  exact PY_inl ht hy hx
set_option maxRecDepth 100000 in
set_option maxHeartbeats 4000000 in
theorem l_yL3 (d : Nat) (X Z : Nat → Nat → Int32) {u op e : Nat} {f : PS → PT} (he : X 64 5 = nI e) (he50 : e ≤ 50) (H : ∀ (p : Nat) (s : Nat × (Nat → Int32)) (y : YS), p ≤ e → s.1 ≤ 50 → CA s y → EC (d + 1) 157 [.ref 63] (Wd X (QZ Z u op false p y)) (PY X Z u e op (f (p, s)))) (Hle : ∀ p s s', f (p, s) = .inr s' → p ≤ s'.1) : ∀ (m i p : Nat) (s : Nat × (Nat → Int32)) (y : YS), i + m = 50 → i ≤ p → p ≤ e → s.1 ≤ 50 → CA s y → ER (d + 1) tb_m156 4 [(0, .ref 63)] [] (Wd X (QZ Z u op false p y)) (PY X Z u e op (qL f (jm (X 64) 9) e 3 m (p, s)))
  | 0, i, p, s, y, hi, hip, hp, hs, hca => by
    refine er_loc (pc' := 5) rfl rfl rfl ?_
    refine er_gf (pc' := 8) (.int (bI false)) rfl rfl rfl rfl rfl ?_
    refine er_if_neF (pc' := 11) rfl (by decide +kernel) rfl ?_
    refine er_loc (pc' := 12) rfl rfl rfl ?_
    refine er_cIi (pc' := 15) (rest := []) 12 rfl rfl rfl rfl rfl rfl (l_yByte _ X _ he he50 hp) ?_
    rw [pk_end (show e ≤ p by omega)]
    refine er_k (pc' := 17) (nI 43) rfl rfl rfl ?_
    refine er_cm_eqF (pc' := 20) rfl (by decide +kernel) rfl ?_
    refine er_loc (pc' := 21) rfl rfl rfl ?_
    refine er_cIi (pc' := 24) (rest := []) 12 rfl rfl rfl rfl rfl rfl (l_yByte _ X _ he he50 hp) ?_
    rw [pk_end (show e ≤ p by omega)]
    refine er_k (pc' := 26) (nI 45) rfl rfl rfl ?_
    refine er_cm_neT rfl (by decide +kernel) ?_
    refine er_vret rfl rfl ?_
    exact PY_inr rfl hp hs hca
  | m + 1, i, p, s, y, hi, hip, hp, hs, hca => by
    refine er_loc (pc' := 5) rfl rfl rfl ?_
    refine er_gf (pc' := 8) (.int (bI false)) rfl rfl rfl rfl rfl ?_
    refine er_if_neF (pc' := 11) rfl (by decide +kernel) rfl ?_
    refine er_loc (pc' := 12) rfl rfl rfl ?_
    refine er_cIi (pc' := 15) (rest := []) 12 rfl rfl rfl rfl rfl rfl (l_yByte _ X _ he he50 hp) ?_
    refine er_k (pc' := 17) (nI 43) rfl rfl rfl ?_
    refine er_cm_eq (pc' := 20) rfl rfl (fun h17 => ?_) (fun h17 => ?_)
    · refine er_loc (pc' := 30) rfl rfl rfl ?_
      refine er_cIi (pc' := 33) (rest := []) 12 rfl rfl rfl rfl rfl rfl (l_yByte _ X _ he he50 hp) ?_
      refine er_loc (pc' := 34) (L' := [(1, _), (0, _)]) rfl rfl rfl ?_
      refine er_loc (pc' := 35) rfl rfl rfl ?_
      refine er_pure (pc' := 36) rfl rfl rfl ?_
      refine er_gf (pc' := 39) (.int (nI p)) rfl rfl rfl rfl rfl ?_
      refine er_k (pc' := 40) (nI 1) rfl rfl rfl ?_
      refine er_iadd (pc' := 41) rfl rfl ?_
      rw [nI_add p 1]
      refine er_pfIZ (pc' := 44) 10 rfl rfl rfl rfl rfl rfl ?_
      rw [QZ_p]
      refine er_loc (pc' := 45) rfl rfl rfl ?_
      have hj : jn2 3 (pk (jm (X 64) 9) e p) = true := Bool.or_eq_true_iff.mpr (Or.inl (decide_eq_true h17))
      have hp1 := jn_lt (show 3 < 5 by omega) hj
      refine er_cIP (pc' := 48) (rest := []) 12 rfl rfl rfl rfl rfl rfl (H (p + 1) s y hp1 hs hca) (fun r hr => ?_)
      cases h1 : f (p + 1, s) with
      | inl x =>
        rw [h1] at hr
        obtain ⟨y2, hy2, hx2, rfl⟩ := hr
        refine er_loc (pc' := 49) rfl rfl rfl ?_
        refine er_loc (pc' := 50) rfl rfl rfl ?_
        refine er_k (pc' := 51) (nI 0) rfl rfl rfl ?_
        refine er_cIn (pc' := 54) (rest := []) 12 rfl rfl rfl rfl rfl rfl (l_yLays _ X _ hy2 _ _) ?_
        refine er_goto rfl ?_
        refine ER_loc [(0, _)] rfl (List.forall_mem_cons.mpr ⟨rfl, fun _ h => absurd h List.not_mem_nil⟩) rfl rfl ?_
        exact l_yBad3 d X Z (qL_inl hj h1) (wrY_le hy2) hx2
      | inr s1 =>
        rw [h1] at hr
        obtain ⟨hq1, hq2, y2, hca2, rfl⟩ := hr
        refine er_loc (pc' := 49) rfl rfl rfl ?_
        refine er_loc (pc' := 50) rfl rfl rfl ?_
        refine er_k (pc' := 51) (nI 0) rfl rfl rfl ?_
        refine er_cIn (pc' := 54) (rest := []) 12 rfl rfl rfl rfl rfl rfl (l_yLays _ X _ (hca2.le hq2) _ _) ?_
        refine er_goto rfl ?_
        refine ER_loc [(0, _)] rfl (List.forall_mem_cons.mpr ⟨rfl, fun _ h => absurd h List.not_mem_nil⟩) rfl rfl ?_
        rw [qL_inr hj h1]
        exact l_yL3 d X Z he he50 H Hle m (i + 1) s1.1 _ _ (by omega) (by have := Hle _ _ _ h1; omega) hq1 (wrC_le hq2) (hca2.wr (aOK_sg (jn_ok (show 3 < 5 by omega) hj)) (cM_g (jn_ok (show 3 < 5 by omega) hj)))
    · refine er_loc (pc' := 21) rfl rfl rfl ?_
      refine er_cIi (pc' := 24) (rest := []) 12 rfl rfl rfl rfl rfl rfl (l_yByte _ X _ he he50 hp) ?_
      refine er_k (pc' := 26) (nI 45) rfl rfl rfl ?_
      refine er_cm_ne (pc' := 29) rfl rfl (fun h26 => ?_) (fun h26 => ?_)
      · refine er_vret rfl rfl ?_
        have hj : ¬ jn2 3 (pk (jm (X 64) 9) e p) = true := by
          intro hh
          rcases Bool.or_eq_true_iff.mp hh with hh | hh; exact h17 (of_decide_eq_true hh); exact h26 (of_decide_eq_true hh)
        exact PY_inr (qL_no hj) hp hs hca
      · refine er_loc (pc' := 30) rfl rfl rfl ?_
        refine er_cIi (pc' := 33) (rest := []) 12 rfl rfl rfl rfl rfl rfl (l_yByte _ X _ he he50 hp) ?_
        refine er_loc (pc' := 34) (L' := [(1, _), (0, _)]) rfl rfl rfl ?_
        refine er_loc (pc' := 35) rfl rfl rfl ?_
        refine er_pure (pc' := 36) rfl rfl rfl ?_
        refine er_gf (pc' := 39) (.int (nI p)) rfl rfl rfl rfl rfl ?_
        refine er_k (pc' := 40) (nI 1) rfl rfl rfl ?_
        refine er_iadd (pc' := 41) rfl rfl ?_
        rw [nI_add p 1]
        refine er_pfIZ (pc' := 44) 10 rfl rfl rfl rfl rfl rfl ?_
        rw [QZ_p]
        refine er_loc (pc' := 45) rfl rfl rfl ?_
        have hj : jn2 3 (pk (jm (X 64) 9) e p) = true := Bool.or_eq_true_iff.mpr (Or.inr (decide_eq_true h26))
        have hp1 := jn_lt (show 3 < 5 by omega) hj
        refine er_cIP (pc' := 48) (rest := []) 12 rfl rfl rfl rfl rfl rfl (H (p + 1) s y hp1 hs hca) (fun r hr => ?_)
        cases h1 : f (p + 1, s) with
        | inl x =>
          rw [h1] at hr
          obtain ⟨y2, hy2, hx2, rfl⟩ := hr
          refine er_loc (pc' := 49) rfl rfl rfl ?_
          refine er_loc (pc' := 50) rfl rfl rfl ?_
          refine er_k (pc' := 51) (nI 0) rfl rfl rfl ?_
          refine er_cIn (pc' := 54) (rest := []) 12 rfl rfl rfl rfl rfl rfl (l_yLays _ X _ hy2 _ _) ?_
          refine er_goto rfl ?_
          refine ER_loc [(0, _)] rfl (List.forall_mem_cons.mpr ⟨rfl, fun _ h => absurd h List.not_mem_nil⟩) rfl rfl ?_
          exact l_yBad3 d X Z (qL_inl hj h1) (wrY_le hy2) hx2
        | inr s1 =>
          rw [h1] at hr
          obtain ⟨hq1, hq2, y2, hca2, rfl⟩ := hr
          refine er_loc (pc' := 49) rfl rfl rfl ?_
          refine er_loc (pc' := 50) rfl rfl rfl ?_
          refine er_k (pc' := 51) (nI 0) rfl rfl rfl ?_
          refine er_cIn (pc' := 54) (rest := []) 12 rfl rfl rfl rfl rfl rfl (l_yLays _ X _ (hca2.le hq2) _ _) ?_
          refine er_goto rfl ?_
          refine ER_loc [(0, _)] rfl (List.forall_mem_cons.mpr ⟨rfl, fun _ h => absurd h List.not_mem_nil⟩) rfl rfl ?_
          rw [qL_inr hj h1]
          exact l_yL3 d X Z he he50 H Hle m (i + 1) s1.1 _ _ (by omega) (by have := Hle _ _ _ h1; omega) hq1 (wrC_le hq2) (hca2.wr (aOK_sg (jn_ok (show 3 < 5 by omega) hj)) (cM_g (jn_ok (show 3 < 5 by omega) hj)))
set_option maxRecDepth 100000 in
set_option maxHeartbeats 4000000 in
theorem l_yR3 (d : Nat) (X Z : Nat → Nat → Int32) {u op e p : Nat} {g : Nat → Nat → PS → PT} {f : PS → PT} (hf : g 4 op = f) (he : X 64 5 = nI e) (he50 : e ≤ 50) (H : ∀ (p : Nat) (s : Nat × (Nat → Int32)) (y : YS), p ≤ e → s.1 ≤ 50 → CA s y → EC (d + 1) 157 [.ref 63] (Wd X (QZ Z u op false p y)) (PY X Z u e op (f (p, s)))) (Hle : ∀ p s s', f (p, s) = .inr s' → p ≤ s'.1) (s : Nat × (Nat → Int32)) (y : YS) (hp : p ≤ e) (hs : s.1 ≤ 50) (hca : CA s y) : EC (d + 2) 156 [.ref 63] (Wd X (QZ Z u op false p y)) (PY X Z u e op (qR (jm (X 64) 9) e g 3 op (p, s))) := by
  subst hf
  refine er_enter (L := [(0, _)]) rfl rfl rfl ?_
  show ER _ _ _ _ _ _ (PY X Z u e op (match g 4 op (p, s) with | .inl x => .inl x | .inr s1 => qL (g 4 op) (jm (X 64) 9) e 3 50 s1))
  refine er_loc (pc' := 1) rfl rfl rfl ?_
  refine er_cIP (pc' := 4) (rest := []) 12 rfl rfl rfl rfl rfl rfl (H p s y hp hs hca) (fun r hr => ?_)
  cases h1 : g 4 op (p, s) with
  | inl x =>
    rw [h1] at hr
    obtain ⟨y2, hy2, hx2, rfl⟩ := hr
    refine ER_loc [(0, _)] rfl (List.forall_mem_cons.mpr ⟨rfl, fun _ h => absurd h List.not_mem_nil⟩) rfl rfl ?_
    exact l_yBad3 d X Z rfl hy2 hx2
  | inr s1 =>
    rw [h1] at hr
    obtain ⟨hq1, hq2, y2, hca2, rfl⟩ := hr
    refine ER_loc [(0, _)] rfl (List.forall_mem_cons.mpr ⟨rfl, fun _ h => absurd h List.not_mem_nil⟩) rfl rfl ?_
    exact l_yL3 d X Z he he50 H Hle 50 0 s1.1 s1.2 y2 (by omega) (by omega) hq1 hq2 hca2
set_option maxRecDepth 100000 in
set_option maxHeartbeats 4000000 in
theorem l_yBad4 (d : Nat) (X Z : Nat → Nat → Int32) {u op e x : Nat} {t : PT} {y : YS} (ht : t = .inl x) (hy : y.1 ≤ 50) (hx : x ≤ e) : ER (d + 1) tb_m157 4 [(0, .ref 63)] [] (Wd X (QZ Z u op true x y)) (PY X Z u e op t) := by
  refine er_loc (pc' := 5) rfl rfl rfl ?_
  refine er_gf (pc' := 8) (.int (bI true)) rfl rfl rfl rfl rfl ?_
  refine er_if_neT rfl (by decide +kernel) ?_
  refine er_vret rfl rfl ?_
  exact PY_inl ht hy hx
set_option maxRecDepth 100000 in
set_option maxHeartbeats 4000000 in
theorem l_yL4 (d : Nat) (X Z : Nat → Nat → Int32) {u op e : Nat} {f : PS → PT} (he : X 64 5 = nI e) (he50 : e ≤ 50) (H : ∀ (p : Nat) (s : Nat × (Nat → Int32)) (y : YS), p ≤ e → s.1 ≤ 50 → CA s y → EC (d + 1) 158 [.ref 63] (Wd X (QZ Z u op false p y)) (PY X Z u e op (f (p, s)))) (Hle : ∀ p s s', f (p, s) = .inr s' → p ≤ s'.1) : ∀ (m i p : Nat) (s : Nat × (Nat → Int32)) (y : YS), i + m = 50 → i ≤ p → p ≤ e → s.1 ≤ 50 → CA s y → ER (d + 1) tb_m157 4 [(0, .ref 63)] [] (Wd X (QZ Z u op false p y)) (PY X Z u e op (qL f (jm (X 64) 9) e 4 m (p, s)))
  | 0, i, p, s, y, hi, hip, hp, hs, hca => by
    refine er_loc (pc' := 5) rfl rfl rfl ?_
    refine er_gf (pc' := 8) (.int (bI false)) rfl rfl rfl rfl rfl ?_
    refine er_if_neF (pc' := 11) rfl (by decide +kernel) rfl ?_
    refine er_loc (pc' := 12) rfl rfl rfl ?_
    refine er_cIi (pc' := 15) (rest := []) 12 rfl rfl rfl rfl rfl rfl (l_yByte _ X _ he he50 hp) ?_
    rw [pk_end (show e ≤ p by omega)]
    refine er_k (pc' := 17) (nI 42) rfl rfl rfl ?_
    refine er_cm_eqF (pc' := 20) rfl (by decide +kernel) rfl ?_
    refine er_loc (pc' := 21) rfl rfl rfl ?_
    refine er_cIi (pc' := 24) (rest := []) 12 rfl rfl rfl rfl rfl rfl (l_yByte _ X _ he he50 hp) ?_
    rw [pk_end (show e ≤ p by omega)]
    refine er_k (pc' := 26) (nI 47) rfl rfl rfl ?_
    refine er_cm_eqF (pc' := 29) rfl (by decide +kernel) rfl ?_
    refine er_loc (pc' := 30) rfl rfl rfl ?_
    refine er_cIi (pc' := 33) (rest := []) 12 rfl rfl rfl rfl rfl rfl (l_yByte _ X _ he he50 hp) ?_
    rw [pk_end (show e ≤ p by omega)]
    refine er_k (pc' := 35) (nI 37) rfl rfl rfl ?_
    refine er_cm_neT rfl (by decide +kernel) ?_
    refine er_vret rfl rfl ?_
    exact PY_inr rfl hp hs hca
  | m + 1, i, p, s, y, hi, hip, hp, hs, hca => by
    refine er_loc (pc' := 5) rfl rfl rfl ?_
    refine er_gf (pc' := 8) (.int (bI false)) rfl rfl rfl rfl rfl ?_
    refine er_if_neF (pc' := 11) rfl (by decide +kernel) rfl ?_
    refine er_loc (pc' := 12) rfl rfl rfl ?_
    refine er_cIi (pc' := 15) (rest := []) 12 rfl rfl rfl rfl rfl rfl (l_yByte _ X _ he he50 hp) ?_
    refine er_k (pc' := 17) (nI 42) rfl rfl rfl ?_
    refine er_cm_eq (pc' := 20) rfl rfl (fun h17 => ?_) (fun h17 => ?_)
    · refine er_loc (pc' := 39) rfl rfl rfl ?_
      refine er_cIi (pc' := 42) (rest := []) 12 rfl rfl rfl rfl rfl rfl (l_yByte _ X _ he he50 hp) ?_
      refine er_loc (pc' := 43) (L' := [(1, _), (0, _)]) rfl rfl rfl ?_
      refine er_loc (pc' := 44) rfl rfl rfl ?_
      refine er_pure (pc' := 45) rfl rfl rfl ?_
      refine er_gf (pc' := 48) (.int (nI p)) rfl rfl rfl rfl rfl ?_
      refine er_k (pc' := 49) (nI 1) rfl rfl rfl ?_
      refine er_iadd (pc' := 50) rfl rfl ?_
      rw [nI_add p 1]
      refine er_pfIZ (pc' := 53) 10 rfl rfl rfl rfl rfl rfl ?_
      rw [QZ_p]
      refine er_loc (pc' := 54) rfl rfl rfl ?_
      have hj : jn2 4 (pk (jm (X 64) 9) e p) = true := Bool.or_eq_true_iff.mpr (Or.inl (decide_eq_true h17))
      have hp1 := jn_lt (show 4 < 5 by omega) hj
      refine er_cIP (pc' := 57) (rest := []) 12 rfl rfl rfl rfl rfl rfl (H (p + 1) s y hp1 hs hca) (fun r hr => ?_)
      cases h1 : f (p + 1, s) with
      | inl x =>
        rw [h1] at hr
        obtain ⟨y2, hy2, hx2, rfl⟩ := hr
        refine er_loc (pc' := 58) rfl rfl rfl ?_
        refine er_loc (pc' := 59) rfl rfl rfl ?_
        refine er_k (pc' := 60) (nI 0) rfl rfl rfl ?_
        refine er_cIn (pc' := 63) (rest := []) 12 rfl rfl rfl rfl rfl rfl (l_yLays _ X _ hy2 _ _) ?_
        refine er_goto rfl ?_
        refine ER_loc [(0, _)] rfl (List.forall_mem_cons.mpr ⟨rfl, fun _ h => absurd h List.not_mem_nil⟩) rfl rfl ?_
        exact l_yBad4 d X Z (qL_inl hj h1) (wrY_le hy2) hx2
      | inr s1 =>
        rw [h1] at hr
        obtain ⟨hq1, hq2, y2, hca2, rfl⟩ := hr
        refine er_loc (pc' := 58) rfl rfl rfl ?_
        refine er_loc (pc' := 59) rfl rfl rfl ?_
        refine er_k (pc' := 60) (nI 0) rfl rfl rfl ?_
        refine er_cIn (pc' := 63) (rest := []) 12 rfl rfl rfl rfl rfl rfl (l_yLays _ X _ (hca2.le hq2) _ _) ?_
        refine er_goto rfl ?_
        refine ER_loc [(0, _)] rfl (List.forall_mem_cons.mpr ⟨rfl, fun _ h => absurd h List.not_mem_nil⟩) rfl rfl ?_
        rw [qL_inr hj h1]
        exact l_yL4 d X Z he he50 H Hle m (i + 1) s1.1 _ _ (by omega) (by have := Hle _ _ _ h1; omega) hq1 (wrC_le hq2) (hca2.wr (aOK_sg (jn_ok (show 4 < 5 by omega) hj)) (cM_g (jn_ok (show 4 < 5 by omega) hj)))
    · refine er_loc (pc' := 21) rfl rfl rfl ?_
      refine er_cIi (pc' := 24) (rest := []) 12 rfl rfl rfl rfl rfl rfl (l_yByte _ X _ he he50 hp) ?_
      refine er_k (pc' := 26) (nI 47) rfl rfl rfl ?_
      refine er_cm_eq (pc' := 29) rfl rfl (fun h26 => ?_) (fun h26 => ?_)
      · refine er_loc (pc' := 39) rfl rfl rfl ?_
        refine er_cIi (pc' := 42) (rest := []) 12 rfl rfl rfl rfl rfl rfl (l_yByte _ X _ he he50 hp) ?_
        refine er_loc (pc' := 43) (L' := [(1, _), (0, _)]) rfl rfl rfl ?_
        refine er_loc (pc' := 44) rfl rfl rfl ?_
        refine er_pure (pc' := 45) rfl rfl rfl ?_
        refine er_gf (pc' := 48) (.int (nI p)) rfl rfl rfl rfl rfl ?_
        refine er_k (pc' := 49) (nI 1) rfl rfl rfl ?_
        refine er_iadd (pc' := 50) rfl rfl ?_
        rw [nI_add p 1]
        refine er_pfIZ (pc' := 53) 10 rfl rfl rfl rfl rfl rfl ?_
        rw [QZ_p]
        refine er_loc (pc' := 54) rfl rfl rfl ?_
        have hj : jn2 4 (pk (jm (X 64) 9) e p) = true := Bool.or_eq_true_iff.mpr (Or.inr (Bool.or_eq_true_iff.mpr (Or.inl (decide_eq_true h26))))
        have hp1 := jn_lt (show 4 < 5 by omega) hj
        refine er_cIP (pc' := 57) (rest := []) 12 rfl rfl rfl rfl rfl rfl (H (p + 1) s y hp1 hs hca) (fun r hr => ?_)
        cases h1 : f (p + 1, s) with
        | inl x =>
          rw [h1] at hr
          obtain ⟨y2, hy2, hx2, rfl⟩ := hr
          refine er_loc (pc' := 58) rfl rfl rfl ?_
          refine er_loc (pc' := 59) rfl rfl rfl ?_
          refine er_k (pc' := 60) (nI 0) rfl rfl rfl ?_
          refine er_cIn (pc' := 63) (rest := []) 12 rfl rfl rfl rfl rfl rfl (l_yLays _ X _ hy2 _ _) ?_
          refine er_goto rfl ?_
          refine ER_loc [(0, _)] rfl (List.forall_mem_cons.mpr ⟨rfl, fun _ h => absurd h List.not_mem_nil⟩) rfl rfl ?_
          exact l_yBad4 d X Z (qL_inl hj h1) (wrY_le hy2) hx2
        | inr s1 =>
          rw [h1] at hr
          obtain ⟨hq1, hq2, y2, hca2, rfl⟩ := hr
          refine er_loc (pc' := 58) rfl rfl rfl ?_
          refine er_loc (pc' := 59) rfl rfl rfl ?_
          refine er_k (pc' := 60) (nI 0) rfl rfl rfl ?_
          refine er_cIn (pc' := 63) (rest := []) 12 rfl rfl rfl rfl rfl rfl (l_yLays _ X _ (hca2.le hq2) _ _) ?_
          refine er_goto rfl ?_
          refine ER_loc [(0, _)] rfl (List.forall_mem_cons.mpr ⟨rfl, fun _ h => absurd h List.not_mem_nil⟩) rfl rfl ?_
          rw [qL_inr hj h1]
          exact l_yL4 d X Z he he50 H Hle m (i + 1) s1.1 _ _ (by omega) (by have := Hle _ _ _ h1; omega) hq1 (wrC_le hq2) (hca2.wr (aOK_sg (jn_ok (show 4 < 5 by omega) hj)) (cM_g (jn_ok (show 4 < 5 by omega) hj)))
      · refine er_loc (pc' := 30) rfl rfl rfl ?_
        refine er_cIi (pc' := 33) (rest := []) 12 rfl rfl rfl rfl rfl rfl (l_yByte _ X _ he he50 hp) ?_
        refine er_k (pc' := 35) (nI 37) rfl rfl rfl ?_
        refine er_cm_ne (pc' := 38) rfl rfl (fun h35 => ?_) (fun h35 => ?_)
        · refine er_vret rfl rfl ?_
          have hj : ¬ jn2 4 (pk (jm (X 64) 9) e p) = true := by
            intro hh
            rcases Bool.or_eq_true_iff.mp hh with hh | hh; exact h17 (of_decide_eq_true hh); rcases Bool.or_eq_true_iff.mp hh with hh | hh; exact h26 (of_decide_eq_true hh); exact h35 (of_decide_eq_true hh)
          exact PY_inr (qL_no hj) hp hs hca
        · refine er_loc (pc' := 39) rfl rfl rfl ?_
          refine er_cIi (pc' := 42) (rest := []) 12 rfl rfl rfl rfl rfl rfl (l_yByte _ X _ he he50 hp) ?_
          refine er_loc (pc' := 43) (L' := [(1, _), (0, _)]) rfl rfl rfl ?_
          refine er_loc (pc' := 44) rfl rfl rfl ?_
          refine er_pure (pc' := 45) rfl rfl rfl ?_
          refine er_gf (pc' := 48) (.int (nI p)) rfl rfl rfl rfl rfl ?_
          refine er_k (pc' := 49) (nI 1) rfl rfl rfl ?_
          refine er_iadd (pc' := 50) rfl rfl ?_
          rw [nI_add p 1]
          refine er_pfIZ (pc' := 53) 10 rfl rfl rfl rfl rfl rfl ?_
          rw [QZ_p]
          refine er_loc (pc' := 54) rfl rfl rfl ?_
          have hj : jn2 4 (pk (jm (X 64) 9) e p) = true := Bool.or_eq_true_iff.mpr (Or.inr (Bool.or_eq_true_iff.mpr (Or.inr (decide_eq_true h35))))
          have hp1 := jn_lt (show 4 < 5 by omega) hj
          refine er_cIP (pc' := 57) (rest := []) 12 rfl rfl rfl rfl rfl rfl (H (p + 1) s y hp1 hs hca) (fun r hr => ?_)
          cases h1 : f (p + 1, s) with
          | inl x =>
            rw [h1] at hr
            obtain ⟨y2, hy2, hx2, rfl⟩ := hr
            refine er_loc (pc' := 58) rfl rfl rfl ?_
            refine er_loc (pc' := 59) rfl rfl rfl ?_
            refine er_k (pc' := 60) (nI 0) rfl rfl rfl ?_
            refine er_cIn (pc' := 63) (rest := []) 12 rfl rfl rfl rfl rfl rfl (l_yLays _ X _ hy2 _ _) ?_
            refine er_goto rfl ?_
            refine ER_loc [(0, _)] rfl (List.forall_mem_cons.mpr ⟨rfl, fun _ h => absurd h List.not_mem_nil⟩) rfl rfl ?_
            exact l_yBad4 d X Z (qL_inl hj h1) (wrY_le hy2) hx2
          | inr s1 =>
            rw [h1] at hr
            obtain ⟨hq1, hq2, y2, hca2, rfl⟩ := hr
            refine er_loc (pc' := 58) rfl rfl rfl ?_
            refine er_loc (pc' := 59) rfl rfl rfl ?_
            refine er_k (pc' := 60) (nI 0) rfl rfl rfl ?_
            refine er_cIn (pc' := 63) (rest := []) 12 rfl rfl rfl rfl rfl rfl (l_yLays _ X _ (hca2.le hq2) _ _) ?_
            refine er_goto rfl ?_
            refine ER_loc [(0, _)] rfl (List.forall_mem_cons.mpr ⟨rfl, fun _ h => absurd h List.not_mem_nil⟩) rfl rfl ?_
            rw [qL_inr hj h1]
            exact l_yL4 d X Z he he50 H Hle m (i + 1) s1.1 _ _ (by omega) (by have := Hle _ _ _ h1; omega) hq1 (wrC_le hq2) (hca2.wr (aOK_sg (jn_ok (show 4 < 5 by omega) hj)) (cM_g (jn_ok (show 4 < 5 by omega) hj)))
set_option maxRecDepth 100000 in
set_option maxHeartbeats 4000000 in
theorem l_yR4 (d : Nat) (X Z : Nat → Nat → Int32) {u op e p : Nat} {g : Nat → Nat → PS → PT} {f : PS → PT} (hf : g 5 op = f) (he : X 64 5 = nI e) (he50 : e ≤ 50) (H : ∀ (p : Nat) (s : Nat × (Nat → Int32)) (y : YS), p ≤ e → s.1 ≤ 50 → CA s y → EC (d + 1) 158 [.ref 63] (Wd X (QZ Z u op false p y)) (PY X Z u e op (f (p, s)))) (Hle : ∀ p s s', f (p, s) = .inr s' → p ≤ s'.1) (s : Nat × (Nat → Int32)) (y : YS) (hp : p ≤ e) (hs : s.1 ≤ 50) (hca : CA s y) : EC (d + 2) 157 [.ref 63] (Wd X (QZ Z u op false p y)) (PY X Z u e op (qR (jm (X 64) 9) e g 4 op (p, s))) := by
  subst hf
  refine er_enter (L := [(0, _)]) rfl rfl rfl ?_
  show ER _ _ _ _ _ _ (PY X Z u e op (match g 5 op (p, s) with | .inl x => .inl x | .inr s1 => qL (g 5 op) (jm (X 64) 9) e 4 50 s1))
  refine er_loc (pc' := 1) rfl rfl rfl ?_
  refine er_cIP (pc' := 4) (rest := []) 12 rfl rfl rfl rfl rfl rfl (H p s y hp hs hca) (fun r hr => ?_)
  cases h1 : g 5 op (p, s) with
  | inl x =>
    rw [h1] at hr
    obtain ⟨y2, hy2, hx2, rfl⟩ := hr
    refine ER_loc [(0, _)] rfl (List.forall_mem_cons.mpr ⟨rfl, fun _ h => absurd h List.not_mem_nil⟩) rfl rfl ?_
    exact l_yBad4 d X Z rfl hy2 hx2
  | inr s1 =>
    rw [h1] at hr
    obtain ⟨hq1, hq2, y2, hca2, rfl⟩ := hr
    refine ER_loc [(0, _)] rfl (List.forall_mem_cons.mpr ⟨rfl, fun _ h => absurd h List.not_mem_nil⟩) rfl rfl ?_
    exact l_yL4 d X Z he he50 H Hle 50 0 s1.1 s1.2 y2 (by omega) (by omega) hq1 hq2 hca2
end
section
/-! THE REFERENCE reads: compares, pieces, all of it -/
set_option maxRecDepth 100000 in
set_option maxHeartbeats 4000000 in
theorem l_yR2 (d : Nat) (X Z : Nat → Nat → Int32) {u op e p : Nat} {g : Nat → Nat → PS → PT} {f : PS → PT} (hf : g 3 op = f) (he : X 64 5 = nI e) (he50 : e ≤ 50) (H : ∀ (p : Nat) (s : Nat × (Nat → Int32)) (y : YS), p ≤ e → s.1 ≤ 50 → CA s y → EC (d + 1) 156 [.ref 63] (Wd X (QZ Z u op false p y)) (PY X Z u e op (f (p, s)))) (s : Nat × (Nat → Int32)) (y : YS) (hp : p ≤ e) (hs : s.1 ≤ 50) (hca : CA s y) : EC (d + 2) 155 [.ref 63] (Wd X (QZ Z u op false p y)) (PY X Z u e op (qR (jm (X 64) 9) e g 2 op (p, s))) := by
  subst hf
  refine er_enter (L := [(0, _)]) rfl rfl rfl ?_
  show ER _ _ _ _ _ _ (PY X Z u e op (match g 3 op (p, s) with | .inl x => .inl x | .inr s1 => qL (g 3 op) (jm (X 64) 9) e 2 1 s1))
  refine er_loc (pc' := 1) rfl rfl rfl ?_
  refine er_cIP (pc' := 4) (rest := []) 12 rfl rfl rfl rfl rfl rfl (H p s y hp hs hca) (fun r hr => ?_)
  cases h1 : g 3 op (p, s) with
  | inl x =>
    rw [h1] at hr
    obtain ⟨y2, hy2, hx2, rfl⟩ := hr
    refine er_loc (pc' := 5) rfl rfl rfl ?_
    refine er_cIi (pc' := 8) (rest := []) 12 rfl rfl rfl rfl rfl rfl (l_yByte _ X _ he he50 hx2) ?_
    refine er_loc (pc' := 9) (L' := [(1, _), (0, _)]) rfl rfl rfl ?_
    refine er_loc (pc' := 10) rfl rfl rfl ?_
    refine er_gf (pc' := 13) (.int (bI true)) rfl rfl rfl rfl rfl ?_
    refine er_if_neT rfl (by decide +kernel) ?_
    refine er_vret rfl rfl ?_
    exact PY_inl rfl hy2 hx2
  | inr s1 =>
    rw [h1] at hr
    obtain ⟨hq1, hq2, y2, hca2, rfl⟩ := hr
    refine er_loc (pc' := 5) rfl rfl rfl ?_
    refine er_cIi (pc' := 8) (rest := []) 12 rfl rfl rfl rfl rfl rfl (l_yByte _ X _ he he50 hq1) ?_
    refine er_loc (pc' := 9) (L' := [(1, _), (0, _)]) rfl rfl rfl ?_
    refine er_loc (pc' := 10) rfl rfl rfl ?_
    refine er_gf (pc' := 13) (.int (bI false)) rfl rfl rfl rfl rfl ?_
    refine er_if_neF (pc' := 16) rfl (by decide +kernel) rfl ?_
    refine er_loc (pc' := 17) rfl rfl rfl ?_
    refine er_k (pc' := 19) (nI 60) rfl rfl rfl ?_
    refine er_cm_eq (pc' := 22) rfl rfl (fun h19 => ?_) (fun h19 => ?_)
    · refine er_loc (pc' := 35) rfl rfl rfl ?_
      refine er_pure (pc' := 36) rfl rfl rfl ?_
      refine er_gf (pc' := 39) (.int (nI s1.1)) rfl rfl rfl rfl rfl ?_
      refine er_k (pc' := 40) (nI 1) rfl rfl rfl ?_
      refine er_iadd (pc' := 41) rfl rfl ?_
      rw [nI_add s1.1 1]
      refine er_pfIZ (pc' := 44) 10 rfl rfl rfl rfl rfl rfl ?_
      rw [QZ_p]
      refine er_loc (pc' := 45) rfl rfl rfl ?_
      have hj : jn2 2 (pk (jm (X 64) 9) e s1.1) = true := Bool.or_eq_true_iff.mpr (Or.inl (decide_eq_true h19))
      have hp1 := jn_lt (show 2 < 5 by omega) hj
      refine er_cIP (pc' := 48) (rest := []) 12 rfl rfl rfl rfl rfl rfl (H (s1.1 + 1) s1.2 y2 hp1 hq2 hca2) (fun r hr => ?_)
      cases h3 : g 3 op (s1.1 + 1, s1.2) with
      | inl x =>
        rw [h3] at hr
        obtain ⟨y3, hy3, hx3, rfl⟩ := hr
        refine er_loc (pc' := 49) rfl rfl rfl ?_
        refine er_loc (pc' := 50) rfl rfl rfl ?_
        refine er_k (pc' := 51) (nI 0) rfl rfl rfl ?_
        refine er_cIn (pc' := 54) (rest := []) 12 rfl rfl rfl rfl rfl rfl (l_yLays _ X _ hy3 _ _) ?_
        refine er_vret rfl rfl ?_
        exact PY_inl (qL_inl hj h3) (wrY_le hy3) hx3
      | inr s2 =>
        rw [h3] at hr
        obtain ⟨hr1, hr2, y3, hca3, rfl⟩ := hr
        refine er_loc (pc' := 49) rfl rfl rfl ?_
        refine er_loc (pc' := 50) rfl rfl rfl ?_
        refine er_k (pc' := 51) (nI 0) rfl rfl rfl ?_
        refine er_cIn (pc' := 54) (rest := []) 12 rfl rfl rfl rfl rfl rfl (l_yLays _ X _ (hca3.le hr2) _ _) ?_
        refine er_vret rfl rfl ?_
        exact PY_inr (qL_inr hj h3) hr1 (wrC_le hr2) (hca3.wr (aOK_sg (jn_ok (show 2 < 5 by omega) hj)) (cM_g (jn_ok (show 2 < 5 by omega) hj)))
    · refine er_loc (pc' := 23) rfl rfl rfl ?_
      refine er_k (pc' := 25) (nI 61) rfl rfl rfl ?_
      refine er_cm_eq (pc' := 28) rfl rfl (fun h25 => ?_) (fun h25 => ?_)
      · refine er_loc (pc' := 35) rfl rfl rfl ?_
        refine er_pure (pc' := 36) rfl rfl rfl ?_
        refine er_gf (pc' := 39) (.int (nI s1.1)) rfl rfl rfl rfl rfl ?_
        refine er_k (pc' := 40) (nI 1) rfl rfl rfl ?_
        refine er_iadd (pc' := 41) rfl rfl ?_
        rw [nI_add s1.1 1]
        refine er_pfIZ (pc' := 44) 10 rfl rfl rfl rfl rfl rfl ?_
        rw [QZ_p]
        refine er_loc (pc' := 45) rfl rfl rfl ?_
        have hj : jn2 2 (pk (jm (X 64) 9) e s1.1) = true := Bool.or_eq_true_iff.mpr (Or.inr (Bool.or_eq_true_iff.mpr (Or.inl (decide_eq_true h25))))
        have hp1 := jn_lt (show 2 < 5 by omega) hj
        refine er_cIP (pc' := 48) (rest := []) 12 rfl rfl rfl rfl rfl rfl (H (s1.1 + 1) s1.2 y2 hp1 hq2 hca2) (fun r hr => ?_)
        cases h3 : g 3 op (s1.1 + 1, s1.2) with
        | inl x =>
          rw [h3] at hr
          obtain ⟨y3, hy3, hx3, rfl⟩ := hr
          refine er_loc (pc' := 49) rfl rfl rfl ?_
          refine er_loc (pc' := 50) rfl rfl rfl ?_
          refine er_k (pc' := 51) (nI 0) rfl rfl rfl ?_
          refine er_cIn (pc' := 54) (rest := []) 12 rfl rfl rfl rfl rfl rfl (l_yLays _ X _ hy3 _ _) ?_
          refine er_vret rfl rfl ?_
          exact PY_inl (qL_inl hj h3) (wrY_le hy3) hx3
        | inr s2 =>
          rw [h3] at hr
          obtain ⟨hr1, hr2, y3, hca3, rfl⟩ := hr
          refine er_loc (pc' := 49) rfl rfl rfl ?_
          refine er_loc (pc' := 50) rfl rfl rfl ?_
          refine er_k (pc' := 51) (nI 0) rfl rfl rfl ?_
          refine er_cIn (pc' := 54) (rest := []) 12 rfl rfl rfl rfl rfl rfl (l_yLays _ X _ (hca3.le hr2) _ _) ?_
          refine er_vret rfl rfl ?_
          exact PY_inr (qL_inr hj h3) hr1 (wrC_le hr2) (hca3.wr (aOK_sg (jn_ok (show 2 < 5 by omega) hj)) (cM_g (jn_ok (show 2 < 5 by omega) hj)))
      · refine er_loc (pc' := 29) rfl rfl rfl ?_
        refine er_k (pc' := 31) (nI 62) rfl rfl rfl ?_
        refine er_cm_ne (pc' := 34) rfl rfl (fun h31 => ?_) (fun h31 => ?_)
        · refine er_vret rfl rfl ?_
          have hj : ¬ jn2 2 (pk (jm (X 64) 9) e s1.1) = true := by
            intro hh
            rcases Bool.or_eq_true_iff.mp hh with hh | hh; exact h19 (of_decide_eq_true hh); rcases Bool.or_eq_true_iff.mp hh with hh | hh; exact h25 (of_decide_eq_true hh); exact h31 (of_decide_eq_true hh)
          exact PY_inr (qL_no hj) hq1 hq2 hca2
        · refine er_loc (pc' := 35) rfl rfl rfl ?_
          refine er_pure (pc' := 36) rfl rfl rfl ?_
          refine er_gf (pc' := 39) (.int (nI s1.1)) rfl rfl rfl rfl rfl ?_
          refine er_k (pc' := 40) (nI 1) rfl rfl rfl ?_
          refine er_iadd (pc' := 41) rfl rfl ?_
          rw [nI_add s1.1 1]
          refine er_pfIZ (pc' := 44) 10 rfl rfl rfl rfl rfl rfl ?_
          rw [QZ_p]
          refine er_loc (pc' := 45) rfl rfl rfl ?_
          have hj : jn2 2 (pk (jm (X 64) 9) e s1.1) = true := Bool.or_eq_true_iff.mpr (Or.inr (Bool.or_eq_true_iff.mpr (Or.inr (decide_eq_true h31))))
          have hp1 := jn_lt (show 2 < 5 by omega) hj
          refine er_cIP (pc' := 48) (rest := []) 12 rfl rfl rfl rfl rfl rfl (H (s1.1 + 1) s1.2 y2 hp1 hq2 hca2) (fun r hr => ?_)
          cases h3 : g 3 op (s1.1 + 1, s1.2) with
          | inl x =>
            rw [h3] at hr
            obtain ⟨y3, hy3, hx3, rfl⟩ := hr
            refine er_loc (pc' := 49) rfl rfl rfl ?_
            refine er_loc (pc' := 50) rfl rfl rfl ?_
            refine er_k (pc' := 51) (nI 0) rfl rfl rfl ?_
            refine er_cIn (pc' := 54) (rest := []) 12 rfl rfl rfl rfl rfl rfl (l_yLays _ X _ hy3 _ _) ?_
            refine er_vret rfl rfl ?_
            exact PY_inl (qL_inl hj h3) (wrY_le hy3) hx3
          | inr s2 =>
            rw [h3] at hr
            obtain ⟨hr1, hr2, y3, hca3, rfl⟩ := hr
            refine er_loc (pc' := 49) rfl rfl rfl ?_
            refine er_loc (pc' := 50) rfl rfl rfl ?_
            refine er_k (pc' := 51) (nI 0) rfl rfl rfl ?_
            refine er_cIn (pc' := 54) (rest := []) 12 rfl rfl rfl rfl rfl rfl (l_yLays _ X _ (hca3.le hr2) _ _) ?_
            refine er_vret rfl rfl ?_
            exact PY_inr (qL_inr hj h3) hr1 (wrC_le hr2) (hca3.wr (aOK_sg (jn_ok (show 2 < 5 by omega) hj)) (cM_g (jn_ok (show 2 < 5 by omega) hj)))
def mB33 (t : PT) : PT := match t with
  | .inl x => .inl x
  | .inr s1 => .inr (s1.1, wrC s1.2 (-33))
def mB40 (tp : Nat → Int32) (e : Nat) (t : PT) : PT := match t with
  | .inl x => .inl x
  | .inr s1 => if pk tp e s1.1 = nI 41 then .inr (s1.1 + 1, s1.2) else .inl s1.1
set_option maxRecDepth 100000 in
set_option maxHeartbeats 4000000 in
theorem l_yO33 (d : Nat) (X Z : Nat → Nat → Int32) {u op e p : Nat} {f : PS → PT} (hop : op ≤ 5) (he : X 64 5 = nI e) (he50 : e ≤ 50) (H0 : op < 5 → ∀ (p : Nat) (s : Nat × (Nat → Int32)) (y : YS), p ≤ e → s.1 ≤ 50 → CA s y → EC (d + 1) 158 [.ref 63] (Wd X (QZ Z u (op + 1) false p y)) (PY X Z u e (op + 1) (f (p, s)))) (s : Nat × (Nat → Int32)) (y : YS) (hp0 : p ≤ e) (Hp : op < 5 → p + 1 ≤ e) (hs : s.1 ≤ 50) (hca : CA s y) : EC (d + 2) 162 [.ref 63, .int (nI 33)] (Wd X (QZ Z u op false p y)) (PY X Z u e op (if op < 5 then (mB33 (f (p + 1, s))) else .inl p)) := by
  have hy50 := hca.le hs
  refine er_enter (L := [(0, _), (1, _)]) rfl rfl rfl ?_
  refine er_loc (pc' := 1) rfl rfl rfl ?_
  refine er_gf (pc' := 4) (.int (nI op)) rfl rfl rfl rfl rfl ?_
  refine er_k (pc' := 5) (nI 5) rfl rfl rfl ?_
  refine er_cm_ne (pc' := 8) rfl rfl (fun h5 => ?_) (fun h5 => ?_)
  · have hlt : op < 5 := by
      rcases Nat.lt_or_ge op 5 with h | h
      · exact h
      · exact absurd (by rw [show op = 5 by omega]) h5
    have hp := Hp hlt
    have H := H0 hlt
    refine er_loc (pc' := 15) rfl rfl rfl ?_
    refine er_pure (pc' := 16) rfl rfl rfl ?_
    refine er_gf (pc' := 19) (.int (nI op)) rfl rfl rfl rfl rfl ?_
    refine er_k (pc' := 20) (nI 1) rfl rfl rfl ?_
    refine er_iadd (pc' := 21) rfl rfl ?_
    rw [nI_add op 1]
    refine er_pfIZ (pc' := 24) 11 rfl rfl rfl rfl rfl rfl ?_
    rw [QZ_o]
    refine er_loc (pc' := 25) rfl rfl rfl ?_
    refine er_pure (pc' := 26) rfl rfl rfl ?_
    refine er_gf (pc' := 29) (.int (nI p)) rfl rfl rfl rfl rfl ?_
    refine er_k (pc' := 30) (nI 1) rfl rfl rfl ?_
    refine er_iadd (pc' := 31) rfl rfl ?_
    rw [nI_add p 1]
    refine er_pfIZ (pc' := 34) 10 rfl rfl rfl rfl rfl rfl ?_
    rw [QZ_p]
    refine er_loc (pc' := 35) rfl rfl rfl ?_
    refine er_k (pc' := 37) (nI 33) rfl rfl rfl ?_
    refine er_cm_neF (pc' := 40) rfl (rfl) rfl ?_
    refine er_loc (pc' := 41) rfl rfl rfl ?_
    refine er_cIP (pc' := 44) (rest := []) 12 rfl rfl rfl rfl rfl rfl (H (p + 1) s y hp hs hca) (fun r hr => ?_)
    cases h1 : f (p + 1, s) with
    | inl x =>
      rw [h1] at hr
      obtain ⟨y2, hy2, hx2, rfl⟩ := hr
      refine er_loc (pc' := 45) rfl rfl rfl ?_
      refine er_k (pc' := 46) (nI 3) rfl rfl rfl ?_
      refine er_k (pc' := 47) (nI 0) rfl rfl rfl ?_
      refine er_cIn (pc' := 50) (rest := []) 12 rfl rfl rfl rfl rfl rfl (l_yLays _ X _ hy2 _ _) ?_
      refine er_goto rfl ?_
      refine er_loc (pc' := 104) rfl rfl rfl ?_
      refine er_pure (pc' := 105) rfl rfl rfl ?_
      refine er_gf (pc' := 108) (.int (nI (op + 1))) rfl rfl rfl rfl rfl ?_
      refine er_k (pc' := 109) (nI 1) rfl rfl rfl ?_
      refine er_isub rfl rfl ?_
      rw [nI_s1 op]
      refine er_pfIZ (pc' := 113) 11 rfl rfl rfl rfl rfl rfl ?_
      rw [QZ_o]
      refine er_vret rfl rfl ?_
      rw [if_pos hlt]
      exact PY_inl rfl (wrY_le hy2) hx2
    | inr s1 =>
      rw [h1] at hr
      obtain ⟨hq1, hq2, y2, hca2, rfl⟩ := hr
      refine er_loc (pc' := 45) rfl rfl rfl ?_
      refine er_k (pc' := 46) (nI 3) rfl rfl rfl ?_
      refine er_k (pc' := 47) (nI 0) rfl rfl rfl ?_
      refine er_cIn (pc' := 50) (rest := []) 12 rfl rfl rfl rfl rfl rfl (l_yLays _ X _ (hca2.le hq2) _ _) ?_
      refine er_goto rfl ?_
      refine er_loc (pc' := 104) rfl rfl rfl ?_
      refine er_pure (pc' := 105) rfl rfl rfl ?_
      refine er_gf (pc' := 108) (.int (nI (op + 1))) rfl rfl rfl rfl rfl ?_
      refine er_k (pc' := 109) (nI 1) rfl rfl rfl ?_
      refine er_isub rfl rfl ?_
      rw [nI_s1 op]
      refine er_pfIZ (pc' := 113) 11 rfl rfl rfl rfl rfl rfl ?_
      rw [QZ_o]
      refine er_vret rfl rfl ?_
      rw [if_pos hlt]
      exact PY_inr rfl hq1 (wrC_le hq2) (hca2.wr (Or.inr (Or.inr (Or.inl rfl))) (cM_3 rfl))
  · have h5e : op = 5 := nIj (by omega) (by omega) h5
    refine er_loc (pc' := 9) rfl rfl rfl ?_
    refine er_k (pc' := 10) (nI 1) rfl rfl rfl ?_
    refine er_pfIZ (pc' := 13) 12 rfl rfl rfl rfl rfl rfl ?_
    rw [show (nI 1 : Int32) = bI true from rfl, QZ_b]
    refine er_vret rfl rfl ?_
    rw [if_neg (show ¬ op < 5 by omega)]
    exact PY_inl rfl hy50 hp0
set_option maxRecDepth 100000 in
set_option maxHeartbeats 4000000 in
theorem l_yO40 (d : Nat) (X Z : Nat → Nat → Int32) {u op e p : Nat} {f : PS → PT} (hop : op ≤ 5) (he : X 64 5 = nI e) (he50 : e ≤ 50) (H0 : op < 5 → ∀ (p : Nat) (s : Nat × (Nat → Int32)) (y : YS), p ≤ e → s.1 ≤ 50 → CA s y → EC (d + 1) 153 [.ref 63] (Wd X (QZ Z u (op + 1) false p y)) (PY X Z u e (op + 1) (f (p, s)))) (s : Nat × (Nat → Int32)) (y : YS) (hp0 : p ≤ e) (Hp : op < 5 → p + 1 ≤ e) (hs : s.1 ≤ 50) (hca : CA s y) : EC (d + 2) 162 [.ref 63, .int (nI 40)] (Wd X (QZ Z u op false p y)) (PY X Z u e op (if op < 5 then (mB40 (jm (X 64) 9) e (f (p + 1, s))) else .inl p)) := by
  have hy50 := hca.le hs
  refine er_enter (L := [(0, _), (1, _)]) rfl rfl rfl ?_
  refine er_loc (pc' := 1) rfl rfl rfl ?_
  refine er_gf (pc' := 4) (.int (nI op)) rfl rfl rfl rfl rfl ?_
  refine er_k (pc' := 5) (nI 5) rfl rfl rfl ?_
  refine er_cm_ne (pc' := 8) rfl rfl (fun h5 => ?_) (fun h5 => ?_)
  · have hlt : op < 5 := by
      rcases Nat.lt_or_ge op 5 with h | h
      · exact h
      · exact absurd (by rw [show op = 5 by omega]) h5
    have hp := Hp hlt
    have H := H0 hlt
    refine er_loc (pc' := 15) rfl rfl rfl ?_
    refine er_pure (pc' := 16) rfl rfl rfl ?_
    refine er_gf (pc' := 19) (.int (nI op)) rfl rfl rfl rfl rfl ?_
    refine er_k (pc' := 20) (nI 1) rfl rfl rfl ?_
    refine er_iadd (pc' := 21) rfl rfl ?_
    rw [nI_add op 1]
    refine er_pfIZ (pc' := 24) 11 rfl rfl rfl rfl rfl rfl ?_
    rw [QZ_o]
    refine er_loc (pc' := 25) rfl rfl rfl ?_
    refine er_pure (pc' := 26) rfl rfl rfl ?_
    refine er_gf (pc' := 29) (.int (nI p)) rfl rfl rfl rfl rfl ?_
    refine er_k (pc' := 30) (nI 1) rfl rfl rfl ?_
    refine er_iadd (pc' := 31) rfl rfl ?_
    rw [nI_add p 1]
    refine er_pfIZ (pc' := 34) 10 rfl rfl rfl rfl rfl rfl ?_
    rw [QZ_p]
    refine er_loc (pc' := 35) rfl rfl rfl ?_
    refine er_k (pc' := 37) (nI 33) rfl rfl rfl ?_
    refine er_cm_neT rfl (by decide +kernel) ?_
    refine er_loc (pc' := 54) rfl rfl rfl ?_
    refine er_cIP (pc' := 57) (rest := []) 12 rfl rfl rfl rfl rfl rfl (H (p + 1) s y hp hs hca) (fun r hr => ?_)
    cases h1 : f (p + 1, s) with
    | inl x =>
      rw [h1] at hr
      obtain ⟨y2, hy2, hx2, rfl⟩ := hr
      refine er_loc (pc' := 58) rfl rfl rfl ?_
      refine er_loc (pc' := 59) rfl rfl rfl ?_
      refine er_gf (pc' := 62) (.int (bI true)) rfl rfl rfl rfl rfl ?_
      refine er_if_neT rfl (by decide +kernel) ?_
      refine er_k (pc' := 75) (nI 1) rfl rfl rfl ?_
      refine er_goto rfl ?_
      refine er_pfIZ (pc' := 82) 12 rfl rfl rfl rfl rfl rfl ?_
      rw [show (nI 1 : Int32) = bI true from rfl, QZ_b]
      refine er_loc (pc' := 83) rfl rfl rfl ?_
      refine er_pure (pc' := 84) rfl rfl rfl ?_
      refine er_gf (pc' := 87) (.int (nI x)) rfl rfl rfl rfl rfl ?_
      refine er_loc (pc' := 88) rfl rfl rfl ?_
      refine er_gf (pc' := 91) (.int (bI true)) rfl rfl rfl rfl rfl ?_
      refine er_if_eqF (pc' := 94) rfl (by decide +kernel) rfl ?_
      refine er_k (pc' := 95) (nI 0) rfl rfl rfl ?_
      refine er_goto rfl ?_
      refine er_iadd (pc' := 100) rfl rfl ?_
      rw [nI_add x 0]
      refine er_pfIZ (pc' := 103) 10 rfl rfl rfl rfl rfl rfl ?_
      rw [QZ_p]
      refine er_loc (pc' := 104) rfl rfl rfl ?_
      refine er_pure (pc' := 105) rfl rfl rfl ?_
      refine er_gf (pc' := 108) (.int (nI (op + 1))) rfl rfl rfl rfl rfl ?_
      refine er_k (pc' := 109) (nI 1) rfl rfl rfl ?_
      refine er_isub rfl rfl ?_
      rw [nI_s1 op]
      refine er_pfIZ (pc' := 113) 11 rfl rfl rfl rfl rfl rfl ?_
      rw [QZ_o]
      refine er_vret rfl rfl ?_
      rw [if_pos hlt]
      exact PY_inl rfl hy2 hx2
    | inr s1 =>
      rw [h1] at hr
      obtain ⟨hq1, hq2, y2, hca2, rfl⟩ := hr
      refine er_loc (pc' := 58) rfl rfl rfl ?_
      refine er_loc (pc' := 59) rfl rfl rfl ?_
      refine er_gf (pc' := 62) (.int (bI false)) rfl rfl rfl rfl rfl ?_
      refine er_if_neF (pc' := 65) rfl (by decide +kernel) rfl ?_
      refine er_loc (pc' := 66) rfl rfl rfl ?_
      refine er_cIi (pc' := 69) (rest := [_]) 12 rfl rfl rfl rfl rfl rfl (l_yByte _ X _ he he50 hq1) ?_
      refine er_k (pc' := 71) (nI 41) rfl rfl rfl ?_
      refine er_cm_eq (pc' := 74) rfl rfl (fun h71 => ?_) (fun h71 => ?_)
      · refine er_k (pc' := 79) (nI 0) rfl rfl rfl ?_
        refine er_pfIZ (pc' := 82) 12 rfl rfl rfl rfl rfl rfl ?_
        rw [show (nI 0 : Int32) = bI false from rfl, QZ_b]
        refine er_loc (pc' := 83) rfl rfl rfl ?_
        refine er_pure (pc' := 84) rfl rfl rfl ?_
        refine er_gf (pc' := 87) (.int (nI s1.1)) rfl rfl rfl rfl rfl ?_
        refine er_loc (pc' := 88) rfl rfl rfl ?_
        refine er_gf (pc' := 91) (.int (bI false)) rfl rfl rfl rfl rfl ?_
        refine er_if_eqT rfl (by decide +kernel) ?_
        refine er_k (pc' := 99) (nI 1) rfl rfl rfl ?_
        refine er_iadd (pc' := 100) rfl rfl ?_
        rw [nI_add s1.1 1]
        refine er_pfIZ (pc' := 103) 10 rfl rfl rfl rfl rfl rfl ?_
        rw [QZ_p]
        refine er_loc (pc' := 104) rfl rfl rfl ?_
        refine er_pure (pc' := 105) rfl rfl rfl ?_
        refine er_gf (pc' := 108) (.int (nI (op + 1))) rfl rfl rfl rfl rfl ?_
        refine er_k (pc' := 109) (nI 1) rfl rfl rfl ?_
        refine er_isub rfl rfl ?_
        rw [nI_s1 op]
        refine er_pfIZ (pc' := 113) 11 rfl rfl rfl rfl rfl rfl ?_
        rw [QZ_o]
        refine er_vret rfl rfl ?_
        rw [if_pos hlt]
        exact PY_inr (if_pos h71) (pkq_lt h71 (by decide +kernel)) hq2 hca2
      · refine er_k (pc' := 75) (nI 1) rfl rfl rfl ?_
        refine er_goto rfl ?_
        refine er_pfIZ (pc' := 82) 12 rfl rfl rfl rfl rfl rfl ?_
        rw [show (nI 1 : Int32) = bI true from rfl, QZ_b]
        refine er_loc (pc' := 83) rfl rfl rfl ?_
        refine er_pure (pc' := 84) rfl rfl rfl ?_
        refine er_gf (pc' := 87) (.int (nI s1.1)) rfl rfl rfl rfl rfl ?_
        refine er_loc (pc' := 88) rfl rfl rfl ?_
        refine er_gf (pc' := 91) (.int (bI true)) rfl rfl rfl rfl rfl ?_
        refine er_if_eqF (pc' := 94) rfl (by decide +kernel) rfl ?_
        refine er_k (pc' := 95) (nI 0) rfl rfl rfl ?_
        refine er_goto rfl ?_
        refine er_iadd (pc' := 100) rfl rfl ?_
        rw [nI_add s1.1 0]
        refine er_pfIZ (pc' := 103) 10 rfl rfl rfl rfl rfl rfl ?_
        rw [QZ_p]
        refine er_loc (pc' := 104) rfl rfl rfl ?_
        refine er_pure (pc' := 105) rfl rfl rfl ?_
        refine er_gf (pc' := 108) (.int (nI (op + 1))) rfl rfl rfl rfl rfl ?_
        refine er_k (pc' := 109) (nI 1) rfl rfl rfl ?_
        refine er_isub rfl rfl ?_
        rw [nI_s1 op]
        refine er_pfIZ (pc' := 113) 11 rfl rfl rfl rfl rfl rfl ?_
        rw [QZ_o]
        refine er_vret rfl rfl ?_
        rw [if_pos hlt]
        exact PY_inl (if_neg h71) (hca2.le hq2) hq1
  · have h5e : op = 5 := nIj (by omega) (by omega) h5
    refine er_loc (pc' := 9) rfl rfl rfl ?_
    refine er_k (pc' := 10) (nI 1) rfl rfl rfl ?_
    refine er_pfIZ (pc' := 13) 12 rfl rfl rfl rfl rfl rfl ?_
    rw [show (nI 1 : Int32) = bI true from rfl, QZ_b]
    refine er_vret rfl rfl ?_
    rw [if_neg (show ¬ op < 5 by omega)]
    exact PY_inl rfl hy50 hp0
end
section
/-! THE REFERENCE reads: all of it -/
theorem nmQ_v {u : Nat} {b : Int32} (h : ¬ nmQ u b < 0) : nmQ u b = nI 0 ∨ nmQ u b = nI 1 ∨ nmQ u b = nI 2 := by
  have key : ∀ c : Nat, nmI u c = nI 0 ∨ nmI u c = nI 1 ∨ nmI u c = nI 2 ∨ nmI u c = -1 := by
    intro c
    unfold nmI
    (repeat' split) <;> simp
  unfold nmQ at h ⊢
  by_cases hb : b < 0
  · rw [if_pos hb] at h
    exact absurd (by decide +kernel) h
  · rw [if_neg hb] at h ⊢
    rcases key (nN b) with e | e | e | e
    · exact Or.inl e
    · exact Or.inr (Or.inl e)
    · exact Or.inr (Or.inr e)
    · rw [e] at h
      exact absurd (by decide +kernel) h
theorem nm_b {u : Nat} {b : Int32} (h : ¬ nmQ u b < 0) : b = 115 ∨ b = 109 ∨ b = 116 ∨ b = 107 := by
  by_cases h1 : b = 115
  · exact Or.inl h1
  · by_cases h2 : b = 109
    · exact Or.inr (Or.inl h2)
    · by_cases h3 : b = 116
      · exact Or.inr (Or.inr (Or.inl h3))
      · by_cases h4 : b = 107
        · exact Or.inr (Or.inr (Or.inr h4))
        · rw [nmQ_no h1 h2 h3 h4] at h
          exact absurd (by decide +kernel) h
theorem nm_dg {u : Nat} {b : Int32} (h : ¬ nmQ u b < 0) : ¬ dg b = true ∧ ¬ b = -1 := by
  rcases nm_b h with e | e | e | e <;> subst e <;> decide +kernel
section QP
variable {tp : Nat → Int32} {e u op p : Nat} {f : Nat → Nat → PS → PT} {s : Nat × (Nat → Int32)}
theorem qP_nm (h : ¬ nmQ u (pk tp e p) < 0) : qP tp e u f op (p, s) = .inr (p + 1, wrC s (-1 - nmQ u (pk tp e p))) := (if_neg (nm_dg h).1).trans (if_pos h)
theorem nm33 (hu : u = 0 ∨ u = 1) : ¬ ¬ nmQ u (nI 33) < 0 := by rcases hu with h | h <;> subst h <;> decide +kernel
theorem nm40 (hu : u = 0 ∨ u = 1) : ¬ ¬ nmQ u (nI 40) < 0 := by rcases hu with h | h <;> subst h <;> decide +kernel
theorem qP_33 (hu : u = 0 ∨ u = 1) (h : pk tp e p = nI 33) : qP tp e u f op (p, s) = if op < 5 then mB33 (f 5 (op + 1) (p + 1, s)) else .inl p := by
  unfold qP
  dsimp only
  rw [h, if_neg (show ¬ dg (nI 33) = true by decide +kernel), if_neg (nm33 hu)]
  by_cases hop : op < 5
  · rw [if_pos ⟨rfl, hop⟩, if_pos hop]
    cases f 5 (op + 1) (p + 1, s) <;> rfl
  · rw [if_neg (fun hh => hop hh.2), if_neg (fun hh => hop hh.2), if_neg hop]
theorem qP_40 (hu : u = 0 ∨ u = 1) (h : pk tp e p = nI 40) : qP tp e u f op (p, s) = if op < 5 then mB40 tp e (f 0 (op + 1) (p + 1, s)) else .inl p := by
  unfold qP
  dsimp only
  rw [h, if_neg (show ¬ dg (nI 40) = true by decide +kernel), if_neg (nm40 hu), if_neg (show ¬ (nI 40 = nI 33 ∧ op < 5) from fun hh => absurd hh.1 (by decide +kernel))]
  by_cases hop : op < 5
  · rw [if_pos ⟨rfl, hop⟩, if_pos hop]
    cases f 0 (op + 1) (p + 1, s) <;> rfl
  · rw [if_neg (fun hh => hop hh.2), if_neg hop]
theorem qP_nu (h1 : nmQ u (pk tp e p) < 0) (h2 : ¬ pk tp e p = nI 33) (h3 : ¬ pk tp e p = nI 40) : qP tp e u f op (p, s) = if dg (pk tp e p) = true then .inr ((pNum tp e 4 p (nI 0)).1, wrC s (pNum tp e 4 p (nI 0)).2) else .inl p := by
  unfold qP
  dsimp only
  by_cases hd : dg (pk tp e p) = true
  · rw [if_pos hd, if_pos hd]
  · rw [if_neg hd, if_neg hd, if_neg (fun hh => hh h1), if_neg (fun hh => h2 hh.1), if_neg (fun hh => h3 hh.1)]
end QP
theorem PY_none {X Z : Nat → Nat → Int32} {u e op : Nat} {t : PT} {r1 : Option Value} {r2 : ab_W} (h : PY X Z u e op t (r1, r2)) : r1 = none := by
  cases t with
  | inl x =>
    obtain ⟨y, _, _, e⟩ := h
    exact congrArg Prod.fst e
  | inr s =>
    obtain ⟨_, _, y, _, e⟩ := h
    exact congrArg Prod.fst e
set_option maxRecDepth 100000 in
set_option maxHeartbeats 4000000 in
theorem l_yPiece (d : Nat) (X Z : Nat → Nat → Int32) {u op e p : Nat} (hu : u = 0 ∨ u = 1) {f : Nat → Nat → PS → PT} (ht : ∀ k, isN ((jm (X 64) 9) k) 255) (hop : op ≤ 5) (he : X 64 5 = nI e) (he50 : e ≤ 50) (H5 : op < 5 → ∀ (p : Nat) (s : Nat × (Nat → Int32)) (y : YS), p ≤ e → s.1 ≤ 50 → CA s y → EC (d + 1) 158 [.ref 63] (Wd X (QZ Z u (op + 1) false p y)) (PY X Z u e (op + 1) (f 5 (op + 1) (p, s)))) (H0 : op < 5 → ∀ (p : Nat) (s : Nat × (Nat → Int32)) (y : YS), p ≤ e → s.1 ≤ 50 → CA s y → EC (d + 1) 153 [.ref 63] (Wd X (QZ Z u (op + 1) false p y)) (PY X Z u e (op + 1) (f 0 (op + 1) (p, s)))) (s : Nat × (Nat → Int32)) (y : YS) (hp : p ≤ e) (hs : s.1 ≤ 50) (hca : CA s y) : EC (d + 4) 158 [.ref 63] (Wd X (QZ Z u op false p y)) (PY X Z u e op (qP (jm (X 64) 9) e u f op (p, s))) := by
  refine er_enter (L := [(0, _)]) rfl rfl rfl ?_
  refine er_loc (pc' := 1) rfl rfl rfl ?_
  refine er_cIi (pc' := 4) (rest := []) 12 rfl rfl rfl rfl rfl rfl (l_yByte _ X _ he he50 hp) ?_
  refine er_loc (pc' := 5) (L' := [(1, _), (0, _)]) rfl rfl rfl ?_
  refine er_loc (pc' := 6) rfl rfl rfl ?_
  refine er_loc (pc' := 7) rfl rfl rfl ?_
  refine er_cIi (pc' := 10) (rest := []) 12 rfl rfl rfl rfl rfl rfl (l_yName _ X _ hu _) ?_
  refine er_loc (pc' := 11) (L' := [(2, _), (1, _), (0, _)]) rfl rfl rfl ?_
  refine er_loc (pc' := 12) rfl rfl rfl ?_
  refine er_if_lt (pc' := 15) rfl rfl (fun h12 => ?_) (fun h12 => ?_)
  · refine er_loc (pc' := 35) rfl rfl rfl ?_
    refine er_k (pc' := 37) (nI 33) rfl rfl rfl ?_
    refine er_cm_eq (pc' := 40) rfl rfl (fun h37 => ?_) (fun h37 => ?_)
    · refine er_loc (pc' := 47) rfl rfl rfl ?_
      refine er_loc (pc' := 48) rfl rfl rfl ?_
      rw [h37]
      refine er_cIP (pc' := 51) (rest := []) 12 rfl rfl rfl rfl rfl rfl ((l_yO33 d X Z hop he he50 H5 s y hp (fun _ => pkq_lt h37 (by decide +kernel)) hs hca).up (by omega)) (fun r hr => ?_)
      rw [← qP_33 (f := f) hu h37] at hr
      obtain ⟨r1, r2⟩ := r
      have hv : r1 = none := PY_none hr
      subst hv
      refine er_goto rfl ?_
      exact er_ret _ rfl rfl hr
    · refine er_loc (pc' := 41) rfl rfl rfl ?_
      refine er_k (pc' := 43) (nI 40) rfl rfl rfl ?_
      refine er_cm_ne (pc' := 46) rfl rfl (fun h43 => ?_) (fun h43 => ?_)
      · refine er_loc (pc' := 55) rfl rfl rfl ?_
        refine er_cIn (pc' := 58) (rest := []) 12 rfl rfl rfl rfl rfl rfl (l_yNum d X Z he he50 hp (hca.le hs)) ?_
        refine er_vret rfl rfl ?_
        rw [qP_nu h12 h37 h43]
        by_cases hd : dg (pk (jm (X 64) 9) e p) = true
        · rw [if_pos hd, if_pos hd]
          obtain ⟨_, q, _, hq⟩ := pNum_v ht 4 p 0 (by omega) (by omega)
          have hnn : ¬ (pNum (jm (X 64) 9) e 4 p (nI 0)).2 < 0 := by rw [hq]; exact nI_pos (by omega)
          exact PY_inr rfl (pNum_le 4 p (nI 0) hp) (wrC_le hs) (hca.wr (Or.inl ⟨rfl, hnn⟩) (cM_1 rfl))
        · rw [if_neg hd, if_neg hd]
          exact PY_inl rfl (wrY_le (hca.le hs)) hp
      · refine er_loc (pc' := 47) rfl rfl rfl ?_
        refine er_loc (pc' := 48) rfl rfl rfl ?_
        rw [h43]
        refine er_cIP (pc' := 51) (rest := []) 12 rfl rfl rfl rfl rfl rfl ((l_yO40 d X Z hop he he50 H0 s y hp (fun _ => pkq_lt h43 (by decide +kernel)) hs hca).up (by omega)) (fun r hr => ?_)
        rw [← qP_40 (f := f) hu h43] at hr
        obtain ⟨r1, r2⟩ := r
        have hv : r1 = none := PY_none hr
        subst hv
        refine er_goto rfl ?_
        exact er_ret _ rfl rfl hr
  · refine er_loc (pc' := 16) rfl rfl rfl ?_
    refine er_pure (pc' := 17) rfl rfl rfl ?_
    refine er_gf (pc' := 20) (.int (nI p)) rfl rfl rfl rfl rfl ?_
    refine er_k (pc' := 21) (nI 1) rfl rfl rfl ?_
    refine er_iadd (pc' := 22) rfl rfl ?_
    rw [nI_add p 1]
    refine er_pfIZ (pc' := 25) 10 rfl rfl rfl rfl rfl rfl ?_
    rw [QZ_p]
    refine er_loc (pc' := 26) rfl rfl rfl ?_
    refine er_k (pc' := 27) (nI 2) rfl rfl rfl ?_
    refine er_loc (pc' := 28) rfl rfl rfl ?_
    refine er_cIn (pc' := 31) (rest := []) 12 rfl rfl rfl rfl rfl rfl ((l_yLays (d + 2) X _ (hca.le hs) _ _).up (by omega)) ?_
    refine er_goto rfl ?_
    refine er_vret rfl rfl ?_
    exact PY_inr (qP_nm h12) (pkq_lt rfl (nm_dg h12).2) (wrC_le hs) (hca.wr (Or.inr (Or.inl ⟨rfl, nmQ_v h12⟩)) (cM_2 rfl))
theorem l_yq (X Z : Nat → Nat → Int32) {u e : Nat} (hu : u = 0 ∨ u = 1) (ht : ∀ k, isN ((jm (X 64) 9) k) 255) (he : X 64 5 = nI e) (he50 : e ≤ 50) : ∀ (F D : Nat), 3 * F + 6 ≤ D → ∀ (rk op p : Nat) (s : Nat × (Nat → Int32)) (y : YS), rk ≤ 5 → op ≤ 5 → (5 - op) * 6 + (5 - rk) + 1 ≤ F → p ≤ e → s.1 ≤ 50 → CA s y → EC D (153 + rk) [.ref 63] (Wd X (QZ Z u op false p y)) (PY X Z u e op (qq (jm (X 64) 9) e u F rk op (p, s)))
  | 0, D, _ => fun rk op p s y _ _ h => by omega
  | F + 1, D, hD => by
    obtain ⟨D, rfl⟩ : ∃ D', D = D' + 6 := ⟨D - 6, by omega⟩
    intro rk op p s y hrk hop hF hp hs hca
    have ih := l_yq X Z hu ht he he50 F
    have Hr : ∀ d', 3 * F + 6 ≤ d' → rk < 5 → ∀ (p : Nat) (s : Nat × (Nat → Int32)) (y : YS), p ≤ e → s.1 ≤ 50 → CA s y → EC d' (153 + (rk + 1)) [.ref 63] (Wd X (QZ Z u op false p y)) (PY X Z u e op (qq (jm (X 64) 9) e u F (rk + 1) op (p, s))) := fun d' hd' hr5 p s y h1 h2 h3 => ih d' hd' (rk + 1) op p s y (by omega) hop (by omega) h1 h2 h3
    have Hle : ∀ p s s', qq (jm (X 64) 9) e u F (rk + 1) op (p, s) = .inr s' → p ≤ s'.1 := fun p s s' => qq_le F (rk + 1) op p s s'
    by_cases h5 : rk = 5
    · subst h5
      rw [qq_P]
      exact (l_yPiece (D + 2) X Z hu ht hop he he50 (fun hlt p s y h1 h2 h3 => ih (D + 2 + 1) (by omega) 5 (op + 1) p s y (by omega) (by omega) (by omega) h1 h2 h3) (fun hlt p s y h1 h2 h3 => ih (D + 2 + 1) (by omega) 0 (op + 1) p s y (by omega) (by omega) (by omega) h1 h2 h3) s y hp hs hca)
    · rw [qq_R (by omega)]
      have hr5 : rk < 5 := by omega
      rcases lt5 hr5 with e0 | e0 | e0 | e0 | e0 <;> subst e0
      · exact l_yR0 (D + 4) X Z rfl he he50 (Hr (D + 5) (by omega) (by omega)) Hle s y hp hs hca
      · exact l_yR1 (D + 4) X Z rfl he he50 (Hr (D + 5) (by omega) (by omega)) Hle s y hp hs hca
      · exact l_yR2 (D + 4) X Z rfl he he50 (Hr (D + 5) (by omega) (by omega)) s y hp hs hca
      · exact l_yR3 (D + 4) X Z rfl he he50 (Hr (D + 5) (by omega) (by omega)) Hle s y hp hs hca
      · exact l_yR4 (D + 4) X Z rfl he he50 (Hr (D + 5) (by omega) (by omega)) Hle s y hp hs hca
end
section
/-! THE REFERENCE reads: text -/
theorem jm_text0 {R R' : Nat → Int32} {s : Nat × (Nat → Int32)} {y : YS} (hs : s.1 ≤ 50) (hn : nN (R 2) ≤ 8) (hl : nN (R 125) ≤ 50) (hca : CA s y) (h1 : ∀ q, q < 125 → R' q = R q) (h2 : R' 125 = nI s.1) (h3 : ∀ k, k < s.1 → R' (126 + k) = y.2.1 k ∧ R' (176 + k) = y.2.2 k) (h4 : ∀ q, 226 ≤ q → R' q = R q) : jm R' = jTx0 (jm R) s := by
  have e2 : R' 2 = R 2 := h1 2 (by omega)
  have e6 : rB R' 11 (nN (R' 2)) = rB R 11 (nN (R 2)) := by rw [e2]; exact rB_cong (fun i hi => h1 _ (by omega))
  have e7 : rB R' 12 (nN (R' 2)) = rB R 12 (nN (R 2)) := by rw [e2]; exact rB_cong (fun i hi => h1 _ (by omega))
  funext i j
  match i with
  | 0 =>
    show jm R' 0 j = jm R 0 j
    match j with
    | 0 => exact (show jm R' 0 0 = 0 from rfl).trans (show 0 = jm R 0 0 from rfl)
    | 1 => exact h1 2 (by omega)
    | 2 => exact (show jm R' 0 2 = 0 from rfl).trans (show 0 = jm R 0 2 from rfl)
    | 3 => exact (show jm R' 0 3 = 0 from rfl).trans (show 0 = jm R 0 3 from rfl)
    | 4 => exact (show jm R' 0 4 = 0 from rfl).trans (show 0 = jm R 0 4 from rfl)
    | 5 => exact (show jm R' 0 5 = 0 from rfl).trans (show 0 = jm R 0 5 from rfl)
    | 6 => exact e6
    | 7 => exact e7
    | 8 => exact h1 3 (by omega)
    | 9 => exact h1 4 (by omega)
    | 10 => exact h1 0 (by omega)
    | 11 => exact (show jm R' 0 11 = 0 from rfl).trans (show 0 = jm R 0 11 from rfl)
    | 12 => exact (show jm R' 0 12 = 0 from rfl).trans (show 0 = jm R 0 12 from rfl)
    | 13 => exact (show jm R' 0 13 = 0 from rfl).trans (show 0 = jm R 0 13 from rfl)
    | 14 => exact h1 5 (by omega)
    | 15 => exact (show jm R' 0 15 = 0 from rfl).trans (show 0 = jm R 0 15 from rfl)
    | 16 => exact h1 6 (by omega)
    | 17 => exact h1 1 (by omega)
    | j + 18 => exact (show jm R' 0 (j + 18) = 0 from rfl).trans (show 0 = jm R 0 (j + 18) from rfl)
  | 1 =>
    show (if j < 8 then R' (7 + 6 * j) else 0) = (if j < 8 then R (7 + 6 * j) else 0)
    split
    · exact h1 _ (by omega)
    · rfl
  | 2 =>
    show (if j < 8 then R' (8 + 6 * j) else 0) = (if j < 8 then R (8 + 6 * j) else 0)
    split
    · exact h1 _ (by omega)
    · rfl
  | 3 =>
    show (if j < 8 then R' (9 + 6 * j) else 0) = (if j < 8 then R (9 + 6 * j) else 0)
    split
    · exact h1 _ (by omega)
    · rfl
  | 4 =>
    show (if j < 8 then R' (10 + 6 * j) else 0) = (if j < 8 then R (10 + 6 * j) else 0)
    split
    · exact h1 _ (by omega)
    · rfl
  | 9 =>
    show (if j < 50 then R' (55 + j) else 0) = (if j < 50 then R (55 + j) else 0)
    split
    · exact h1 _ (by omega)
    · rfl
  | 10 =>
    show (if j < 20 then R' (105 + j) else 0) = (if j < 20 then R (105 + j) else 0)
    split
    · exact h1 _ (by omega)
    · rfl
  | 5 =>
    show (if j = 0 then R' 125 else 0) = (if j = 0 then nI s.1 else 0)
    rw [h2]
  | 7 =>
    show (if j = 0 then R' 226 else 0) = (if j = 0 then R 226 else 0)
    rw [h4 226 (by omega)]
  | 6 =>
    show (if j < nN (R' 125) then cM (R' (126 + j)) (R' (176 + j)) else 0) = (if j < s.1 then s.2 j else 0)
    rw [h2, nN_nI (by omega)]
    by_cases hj : j < s.1
    · rw [if_pos hj, if_pos hj, (h3 j hj).1, (h3 j hj).2]
      exact (hca.2 j hj).1.symm
    · rw [if_neg hj, if_neg hj]
  | 8 =>
    show (if j < nN (R' 226) then cM (R' (227 + j)) (R' (277 + j)) else 0) = (if j < nN (R 226) then cM (R (227 + j)) (R (277 + j)) else 0)
    rw [h4 226 (by omega), h4 (227 + j) (by omega), h4 (277 + j) (by omega)]
  | i + 11 =>
    exact (show jm R' (i + 11) j = 0 from rfl).trans (show 0 = jm R (i + 11) j from rfl)
theorem jm_text1 {R R' : Nat → Int32} {s : Nat × (Nat → Int32)} {y : YS} (hs : s.1 ≤ 50) (hn : nN (R 2) ≤ 8) (hl : nN (R 125) ≤ 50) (hca : CA s y) (h1 : ∀ q, q < 226 → R' q = R q) (h2 : R' 226 = nI s.1) (h3 : ∀ k, k < s.1 → R' (227 + k) = y.2.1 k ∧ R' (277 + k) = y.2.2 k) : jm R' = jTx1 (jm R) s := by
  have e2 : R' 2 = R 2 := h1 2 (by omega)
  have e6 : rB R' 11 (nN (R' 2)) = rB R 11 (nN (R 2)) := by rw [e2]; exact rB_cong (fun i hi => h1 _ (by omega))
  have e7 : rB R' 12 (nN (R' 2)) = rB R 12 (nN (R 2)) := by rw [e2]; exact rB_cong (fun i hi => h1 _ (by omega))
  funext i j
  match i with
  | 0 =>
    show jm R' 0 j = jm R 0 j
    match j with
    | 0 => exact (show jm R' 0 0 = 0 from rfl).trans (show 0 = jm R 0 0 from rfl)
    | 1 => exact h1 2 (by omega)
    | 2 => exact (show jm R' 0 2 = 0 from rfl).trans (show 0 = jm R 0 2 from rfl)
    | 3 => exact (show jm R' 0 3 = 0 from rfl).trans (show 0 = jm R 0 3 from rfl)
    | 4 => exact (show jm R' 0 4 = 0 from rfl).trans (show 0 = jm R 0 4 from rfl)
    | 5 => exact (show jm R' 0 5 = 0 from rfl).trans (show 0 = jm R 0 5 from rfl)
    | 6 => exact e6
    | 7 => exact e7
    | 8 => exact h1 3 (by omega)
    | 9 => exact h1 4 (by omega)
    | 10 => exact h1 0 (by omega)
    | 11 => exact (show jm R' 0 11 = 0 from rfl).trans (show 0 = jm R 0 11 from rfl)
    | 12 => exact (show jm R' 0 12 = 0 from rfl).trans (show 0 = jm R 0 12 from rfl)
    | 13 => exact (show jm R' 0 13 = 0 from rfl).trans (show 0 = jm R 0 13 from rfl)
    | 14 => exact h1 5 (by omega)
    | 15 => exact (show jm R' 0 15 = 0 from rfl).trans (show 0 = jm R 0 15 from rfl)
    | 16 => exact h1 6 (by omega)
    | 17 => exact h1 1 (by omega)
    | j + 18 => exact (show jm R' 0 (j + 18) = 0 from rfl).trans (show 0 = jm R 0 (j + 18) from rfl)
  | 1 =>
    show (if j < 8 then R' (7 + 6 * j) else 0) = (if j < 8 then R (7 + 6 * j) else 0)
    split
    · exact h1 _ (by omega)
    · rfl
  | 2 =>
    show (if j < 8 then R' (8 + 6 * j) else 0) = (if j < 8 then R (8 + 6 * j) else 0)
    split
    · exact h1 _ (by omega)
    · rfl
  | 3 =>
    show (if j < 8 then R' (9 + 6 * j) else 0) = (if j < 8 then R (9 + 6 * j) else 0)
    split
    · exact h1 _ (by omega)
    · rfl
  | 4 =>
    show (if j < 8 then R' (10 + 6 * j) else 0) = (if j < 8 then R (10 + 6 * j) else 0)
    split
    · exact h1 _ (by omega)
    · rfl
  | 9 =>
    show (if j < 50 then R' (55 + j) else 0) = (if j < 50 then R (55 + j) else 0)
    split
    · exact h1 _ (by omega)
    · rfl
  | 10 =>
    show (if j < 20 then R' (105 + j) else 0) = (if j < 20 then R (105 + j) else 0)
    split
    · exact h1 _ (by omega)
    · rfl
  | 5 =>
    show (if j = 0 then R' 125 else 0) = (if j = 0 then R 125 else 0)
    rw [h1 125 (by omega)]
  | 7 =>
    show (if j = 0 then R' 226 else 0) = (if j = 0 then nI s.1 else 0)
    rw [h2]
  | 6 =>
    show (if j < nN (R' 125) then cM (R' (126 + j)) (R' (176 + j)) else 0) = (if j < nN (R 125) then cM (R (126 + j)) (R (176 + j)) else 0)
    rw [h1 125 (by omega)]
    by_cases hj : j < nN (R 125)
    · rw [if_pos hj, if_pos hj, h1 (126 + j) (by omega), h1 (176 + j) (by omega)]
    · rw [if_neg hj, if_neg hj]
  | 8 =>
    show (if j < nN (R' 226) then cM (R' (227 + j)) (R' (277 + j)) else 0) = (if j < s.1 then s.2 j else 0)
    rw [h2, nN_nI (by omega)]
    by_cases hj : j < s.1
    · rw [if_pos hj, if_pos hj, (h3 j hj).1, (h3 j hj).2]
      exact (hca.2 j hj).1.symm
    · rw [if_neg hj, if_neg hj]
  | i + 11 =>
    exact (show jm R' (i + 11) j = 0 from rfl).trans (show 0 = jm R (i + 11) j from rfl)
theorem RK.text0 {T : Nat} {R R' : Nat → Int32} {s : Nat × (Nat → Int32)} {y : YS} (h : RK T R) (hs : s.1 ≤ 50) (hw : wfC s.2 s.1) (hca : CA s y) (h1 : ∀ q, q < 125 → R' q = R q) (h2 : R' 125 = nI s.1) (h3 : ∀ k, k < s.1 → R' (126 + k) = y.2.1 k ∧ R' (176 + k) = y.2.2 k) (h4 : ∀ q, 226 ≤ q → R' q = R q) : RK T R' := by
  refine ⟨?_, fun i hi => ?_, fun k hk => ?_, fun k hk => ?_⟩
  · rw [jm_text0 hs h.n8 h.ij.tl.1.2 hca h1 h2 h3 h4]
    exact h.ij.text0 hs hw
  · rw [h1 _ (by omega), h1 _ (by omega)]
    exact h.2.1 i hi
  · rw [h2, nN_nI (by omega)] at hk
    have e := h3 k hk
    rw [show 125 + 1 + k = 126 + k by omega, show 125 + 51 + k = 176 + k by omega, e.1, e.2]
    exact (hca.2 k hk).2
  · rw [h4 _ (by omega)] at hk
    rw [h4 _ (by omega), h4 _ (by omega)]
    exact h.2.2.2 k hk
theorem RK.text1 {T : Nat} {R R' : Nat → Int32} {s : Nat × (Nat → Int32)} {y : YS} (h : RK T R) (hs : s.1 ≤ 50) (hw : wfC s.2 s.1) (hca : CA s y) (h1 : ∀ q, q < 226 → R' q = R q) (h2 : R' 226 = nI s.1) (h3 : ∀ k, k < s.1 → R' (227 + k) = y.2.1 k ∧ R' (277 + k) = y.2.2 k) : RK T R' := by
  have h50 : nN (R 125) ≤ 50 := h.ij.tl.1.2
  refine ⟨?_, fun i hi => ?_, fun k hk => ?_, fun k hk => ?_⟩
  · rw [jm_text1 hs h.n8 h50 hca h1 h2 h3]
    exact h.ij.text1 hs hw
  · rw [h1 _ (by omega), h1 _ (by omega)]
    exact h.2.1 i hi
  · rw [h1 _ (by omega)] at hk
    rw [h1 _ (by omega), h1 _ (by omega)]
    exact h.2.2.1 k hk
  · rw [h2, nN_nI (by omega)] at hk
    have e := h3 k hk
    rw [show 226 + 1 + k = 227 + k by omega, show 226 + 51 + k = 277 + k by omega, e.1, e.2]
    exact (hca.2 k hk).2
def yTx (R : Nat → Int32) (p : Nat) (B W : Nat → Int32) (i : Nat) : Nat → Int32 := fun q => if p + 1 ≤ q ∧ q < p + 1 + i then B (q - (p + 1)) else if p + 51 ≤ q ∧ q < p + 51 + i then W (q - (p + 51)) else R q
theorem yTx_at {R B W : Nat → Int32} {p i q : Nat} : yTx R p B W i q = if p + 1 ≤ q ∧ q < p + 1 + i then B (q - (p + 1)) else if p + 51 ≤ q ∧ q < p + 51 + i then W (q - (p + 51)) else R q := rfl
theorem yTx_0 {R B W : Nat → Int32} {p : Nat} : yTx R p B W 0 = R := by
  funext q
  rw [yTx_at, if_neg (by omega), if_neg (by omega)]
theorem yTx_s {R B W : Nat → Int32} {p i : Nat} (h : i < 50) : u1 (u1 (yTx R p B W i) (p + 1 + i) (B i)) (p + 51 + i) (W i) = yTx R p B W (i + 1) := by
  funext q
  rw [u1_at, u1_at, yTx_at, yTx_at]
  by_cases h1 : q = p + 51 + i
  · rw [if_pos h1, if_neg (by omega), if_pos ⟨by omega, by omega⟩, show q - (p + 51) = i by omega]
  · rw [if_neg h1]
    by_cases h2 : q = p + 1 + i
    · rw [if_pos h2, if_pos ⟨by omega, by omega⟩, show q - (p + 1) = i by omega]
    · rw [if_neg h2]
      by_cases h3 : p + 1 ≤ q ∧ q < p + 1 + i
      · rw [if_pos h3, if_pos ⟨h3.1, by omega⟩]
      · rw [if_neg h3, if_neg (show ¬ (p + 1 ≤ q ∧ q < p + 1 + (i + 1)) from fun hh => h3 ⟨hh.1, by omega⟩)]
        by_cases h4 : p + 51 ≤ q ∧ q < p + 51 + i
        · rw [if_pos h4, if_pos ⟨h4.1, by omega⟩]
        · rw [if_neg h4, if_neg (show ¬ (p + 51 ≤ q ∧ q < p + 51 + (i + 1)) from fun hh => h4 ⟨hh.1, by omega⟩)]
theorem QZ_68 {Z : Nat → Nat → Int32} {u op p : Nat} {bad : Bool} {y : YS} : QZ Z u op bad p y 68 = y.2.1 := by
  unfold QZ
  rw [uc_ne (by omega), uc_same]
theorem QZ_69 {Z : Nat → Nat → Int32} {u op p : Nat} {bad : Bool} {y : YS} : QZ Z u op bad p y 69 = y.2.2 := by
  unfold QZ
  rw [uc_same]
theorem Wd_Z63 {X Z Z' : Nat → Nat → Int32} (h : ∀ c, c ≠ 63 → Z c = Z' c) (h9 : Z 63 9 = Z' 63 9) (h10 : Z 63 10 = Z' 63 10) (h11 : Z 63 11 = Z' 63 11) (h12 : Z 63 12 = Z' 63 12) (h13 : Z 63 13 = Z' 63 13) : Wd X Z = Wd X Z' := by
  unfold Wd
  apply List.map_congr_left
  intro c _
  by_cases hc : c = 63
  · subst hc
    show (.inl (12, [.ref 64, .ref 65, .ref 66, .int (X 63 3), .ref 67, .ref 68, .ref 69, .ref 70, .ref 71, .int (Z 63 9), .int (Z 63 10), .int (Z 63 11), .int (Z 63 12), .int (Z 63 13), .ref 72, .ref 73, .int (X 63 16), .ref 74, .int (X 63 18), .int (X 63 19), .ref 75, .int (X 63 21), .ref 76, .ref 77, .ref 78]) : ab_C) = _
    rw [h9, h10, h11, h12, h13]
    rfl
  · rw [h c hc]
theorem Wd_start {X Z : Nat → Nat → Int32} {u : Nat} : Wd X (ud (ud (ud (ud (ud Z 63 13 (nI u)) 63 9 (nI 0)) 63 10 (nI 0)) 63 11 (nI 0)) 63 12 (nI 0)) = Wd X (QZ Z u 0 false 0 (0, Z 68, Z 69)) := by
  refine Wd_Z63 (fun c hc => ?_) ?_ ?_ ?_ ?_ ?_
  · rw [ud_ne hc, ud_ne hc, ud_ne hc, ud_ne hc, ud_ne hc]
    unfold QZ
    by_cases h9 : c = 69
    · subst h9; rw [uc_same]
    · rw [uc_ne h9]
      by_cases h8 : c = 68
      · subst h8; rw [uc_same]
      · rw [uc_ne h8, uc_ne hc]
  · rw [QZ_63]; simp [ud_at, yzf]
  · rw [QZ_63]; simp [ud_at, yzf]
  · rw [QZ_63]; simp [ud_at, yzf]
  · rw [QZ_63]; simp [ud_at, yzf, bI]
  · rw [QZ_63]; simp [ud_at, yzf]
theorem QZ_b0 {Z : Nat → Nat → Int32} {u op p : Nat} {bad : Bool} {y : YS} : ud (QZ Z u op bad p y) 63 12 (nI 0) = QZ Z u op false p y := QZ_b (c := false)
theorem QZ_b1 {Z : Nat → Nat → Int32} {u op p : Nat} {bad : Bool} {y : YS} : ud (QZ Z u op bad p y) 63 12 (nI 1) = QZ Z u op true p y := QZ_b (c := true)
def RNT (v : Int32) (J : Nat → Nat → Int32) (T : Nat) (X : Nat → Nat → Int32) : ab_R → Prop := fun r => ∃ X' Z', r = (some (.int v), Wd X' Z') ∧ jm (X' 64) = J ∧ RK T (X' 64) ∧ ∀ c, c ≠ 64 → X' c = X c
theorem RNT_of {v x : Int32} {J : Nat → Nat → Int32} {T : Nat} {X X' Z : Nat → Nat → Int32} (hx : x = v) (h1 : jm (X' 64) = J) (h2 : RK T (X' 64)) (h3 : ∀ c, c ≠ 64 → X' c = X c) : RNT v J T X (some (.int x), Wd X' Z) := ⟨X', Z, by rw [hx], h1, h2, h3⟩
theorem RNT_w {v x : Int32} {J : Nat → Nat → Int32} {T : Nat} {X X' Z : Nat → Nat → Int32} (hx : x = v) (h : WJ J T X X') : RNT v J T X (some (.int x), Wd X' Z) := ⟨X', Z, by rw [hx], h.1, h.2.1, h.2.2.1⟩
def rTx (X : Nat → Nat → Int32) (u f : Nat) : PT := sTx (fun _ => jm (X 64) 9) u f
set_option maxRecDepth 100000 in
set_option maxHeartbeats 4000000 in
theorem l_rText_no (d : Nat) (X Z : Nat → Nat → Int32) (u : Int32) (hu : sUse u = false) : EC (d + 3) 152 [.ref 63, .int u] (Wd X Z) (RI (sErr 1) (yErr X 1)) := by
  refine er_enter (L := [(0, _), (1, _)]) rfl rfl rfl ?_
  refine er_loc (pc' := 1) rfl rfl rfl ?_
  refine er_k (pc' := 2) (nI 0) rfl rfl rfl ?_
  refine er_k (pc' := 3) (nI 1) rfl rfl rfl ?_
  refine er_cSi (pc' := 6) (rest := []) rfl rfl rfl (l_in _ _ _ _ _) ?_
  rw [sIn_01, hu]
  refine er_if_neF (pc' := 9) rfl (by decide +kernel) rfl ?_
  refine er_loc (pc' := 10) rfl rfl rfl ?_
  refine er_ldc (pc' := 12) (-1000000001) rfl rfl rfl rfl rfl ?_
  refine er_cIz (pc' := 15) (rest := []) 12 rfl rfl rfl rfl rfl rfl (l_rError1 _ _ _) ?_
  intro Z9
  refine er_iret rfl rfl ?_
  exact RI_of rfl rfl
set_option maxRecDepth 100000 in
set_option maxHeartbeats 4000000 in
theorem l_yStore0 (d : Nat) (X : Nat → Nat → Int32) {Z : Nat → Nat → Int32} {u q : Nat} {bad : Bool} {y : YS} (hy : y.1 ≤ 50) : ∀ (m i : Nat) (x : Int32), i + m = y.1 → x = nI i → ER (d + 1) tb_m152 116 [(0, .ref 63), (2, .int (nI 125)), (3, .int x)] [] (Wd (uc X 64 (yTx (X 64) 125 y.2.1 y.2.2 i)) (QZ Z u 0 bad q y)) (RI (nI 1) (uc X 64 (yTx (X 64) 125 y.2.1 y.2.2 y.1)))
  | 0, i, x, hi, hx => by
    have hi0 : i = y.1 := by omega
    subst hx
    rw [hi0]
    refine er_loc (pc' := 117) rfl rfl rfl ?_
    refine er_loc (pc' := 118) rfl rfl rfl ?_
    refine er_gf (pc' := 121) (.int (nI y.1)) rfl rfl rfl rfl rfl ?_
    refine er_cm_geT rfl (nI_nlt (Nat.le_refl _) (by omega)) ?_
    refine er_k (pc' := 164) (nI 1) rfl rfl rfl ?_
    refine er_iret rfl rfl ?_
    exact RI_of rfl rfl
  | m + 1, i, x, hi, hx => by
    subst hx
    refine er_loc (pc' := 117) rfl rfl rfl ?_
    refine er_loc (pc' := 118) rfl rfl rfl ?_
    refine er_gf (pc' := 121) (.int (nI y.1)) rfl rfl rfl rfl rfl ?_
    refine er_cm_geF (pc' := 124) rfl (nI_lt (by omega) (by omega)) rfl ?_
    refine er_loc (pc' := 125) rfl rfl rfl ?_
    refine er_gf (pc' := 128) (_) rfl rfl rfl rfl rfl ?_
    refine er_loc (pc' := 129) rfl rfl rfl ?_
    refine er_k (pc' := 130) (nI 1) rfl rfl rfl ?_
    refine er_iadd (pc' := 131) rfl rfl ?_
    refine er_loc (pc' := 132) rfl rfl rfl ?_
    refine er_iadd (pc' := 133) rfl rfl ?_
    refine er_loc (pc' := 134) rfl rfl rfl ?_
    refine er_gf (pc' := 137) (_) rfl rfl rfl rfl rfl ?_
    refine er_loc (pc' := 138) rfl rfl rfl ?_
    refine er_ia (pc' := 139) (i) rfl rfl rfl rfl (by omega) rfl rfl ?_
    rw [QZ_68]
    refine er_isX (pc' := 140) (((125 + 1) + i)) rfl rfl (fun _ => rfl) (by simp only [nI_add, nI_mul]) (by omega) rfl rfl ?_
    refine er_loc (pc' := 141) rfl rfl rfl ?_
    refine er_gf (pc' := 144) (_) rfl rfl rfl rfl rfl ?_
    refine er_loc (pc' := 145) rfl rfl rfl ?_
    refine er_k (pc' := 147) (nI 51) rfl rfl rfl ?_
    refine er_iadd (pc' := 148) rfl rfl ?_
    refine er_loc (pc' := 149) rfl rfl rfl ?_
    refine er_iadd (pc' := 150) rfl rfl ?_
    refine er_loc (pc' := 151) rfl rfl rfl ?_
    refine er_gf (pc' := 154) (_) rfl rfl rfl rfl rfl ?_
    refine er_loc (pc' := 155) rfl rfl rfl ?_
    refine er_ia (pc' := 156) (i) rfl rfl rfl rfl (by omega) rfl rfl ?_
    rw [QZ_69]
    refine er_isX (pc' := 157) (((125 + 51) + i)) rfl rfl (fun _ => rfl) (by simp only [nI_add, nI_mul]) (by omega) rfl rfl ?_
    refine er_loc (L' := [(3, .int (_ + nI 1)), (0, _), (2, _)]) rfl rfl rfl ?_
    refine er_goto rfl ?_
    refine ER_loc [(0, _), (2, _), (3, _)] rfl (List.forall_mem_cons.mpr ⟨rfl, List.forall_mem_cons.mpr ⟨rfl, List.forall_mem_cons.mpr ⟨rfl, fun _ h => absurd h List.not_mem_nil⟩⟩⟩) rfl rfl ?_
    have ih := l_yStore0 d X (Z := Z) (u := u) (q := q) (bad := bad) hy m (i + 1) _ (by omega) (nI_add i 1)
    rw [show ud (ud (uc X 64 (yTx (X 64) 125 y.2.1 y.2.2 i)) 64 (125 + 1 + i) (y.2.1 i)) 64 (125 + 51 + i) (y.2.2 i) = uc X 64 (yTx (X 64) 125 y.2.1 y.2.2 (i + 1)) from by unfold ud; rw [uc_uc, uc_uc, uc_same, uc_same, yTx_s (by omega)]]
    exact ih
set_option maxRecDepth 100000 in
set_option maxHeartbeats 4000000 in
theorem l_rText0 (d : Nat) (X Z : Nat → Nat → Int32) {T : Nat} (hI : RK T (X 64)) {f : Nat} (hf : X 64 5 = nI f) (hf50 : f ≤ 50) : EC (d + 120) 152 [.ref 63, .int (nI 0)] (Wd X Z) (fun r => match rTx X 0 f with | .inl x => RNT (-10 - nI x) (ud (jm (X 64)) 0 14 (nI 0)) T X r | .inr s => (if s.1 < f then RNT (-10 - nI s.1) (ud (jm (X 64)) 0 14 (nI 0)) T X else RNT (nI 1) (jTx0 (ud (jm (X 64)) 0 14 (nI 0)) s.2) T X) r) := by
  refine er_enter (L := [(0, _), (1, _)]) rfl rfl rfl ?_
  refine er_loc (pc' := 1) rfl rfl rfl ?_
  refine er_k (pc' := 2) (nI 0) rfl rfl rfl ?_
  refine er_k (pc' := 3) (nI 1) rfl rfl rfl ?_
  refine er_cSi (pc' := 6) (rest := []) rfl rfl rfl (l_in _ _ _ _ _) ?_
  rw [show sIn (nI 0) (nI 0) (nI 1) = true from by decide +kernel]
  refine er_if_neT rfl (by decide +kernel) ?_
  refine er_loc (pc' := 17) rfl rfl rfl ?_
  refine er_loc (pc' := 18) rfl rfl rfl ?_
  refine er_pfIZ (pc' := 21) 13 rfl rfl rfl rfl rfl rfl ?_
  refine er_loc (pc' := 22) rfl rfl rfl ?_
  refine er_k (pc' := 23) (nI 0) rfl rfl rfl ?_
  refine er_pfIZ (pc' := 26) 9 rfl rfl rfl rfl rfl rfl ?_
  refine er_loc (pc' := 27) rfl rfl rfl ?_
  refine er_k (pc' := 28) (nI 0) rfl rfl rfl ?_
  refine er_pfIZ (pc' := 31) 10 rfl rfl rfl rfl rfl rfl ?_
  refine er_loc (pc' := 32) rfl rfl rfl ?_
  refine er_k (pc' := 33) (nI 0) rfl rfl rfl ?_
  refine er_pfIZ (pc' := 36) 11 rfl rfl rfl rfl rfl rfl ?_
  refine er_loc (pc' := 37) rfl rfl rfl ?_
  refine er_k (pc' := 38) (nI 0) rfl rfl rfl ?_
  refine er_pfIZ (pc' := 41) 12 rfl rfl rfl rfl rfl rfl ?_
  refine er_loc (pc' := 42) rfl rfl rfl ?_
  rw [Wd_start]
  refine er_cIP (pc' := 45) (rest := []) 12 rfl rfl rfl rfl rfl rfl (l_yq X Z (show 0 = 0 ∨ 0 = 1 by omega) hI.ij.tape hf hf50 36 (d + 119) (by omega) 0 0 0 (0, fun _ => 0) (0, Z 68, Z 69) (by omega) (by omega) (by omega) (by omega) (by omega) ⟨rfl, fun k hk => absurd hk (Nat.not_lt_zero k)⟩) (fun r hr => ?_)
  have hwf := sTx_wf (X := fun _ => jm (X 64) 9) (u := 0) (f := f) hI.ij.tape hf50
  rw [show qq (jm (X 64) 9) f 0 36 0 0 (0, (0, fun _ => 0)) = rTx X 0 f from rfl] at hr
  rw [show sTx (fun _ => jm (X 64) 9) 0 f = rTx X 0 f from rfl] at hwf
  have w5 := wFed (p := 5) hI rfl (isN.of (show 0 ≤ 50 by omega) (by omega)) rfl
  cases hT : rTx X 0 f with
  | inl x =>
    rw [hT] at hr hwf
    obtain ⟨y, hy, hx, rfl⟩ := hr
    refine er_loc (pc' := 46) rfl rfl rfl ?_
    refine er_loc (pc' := 47) rfl rfl rfl ?_
    refine er_gf (pc' := 50) (.int (bI true)) rfl rfl rfl rfl rfl ?_
    refine er_if_neT rfl (by decide +kernel) ?_
    refine er_k (pc' := 67) (nI 1) rfl rfl rfl ?_
    refine er_goto rfl ?_
    refine er_pfIZ (pc' := 74) 12 rfl rfl rfl rfl rfl rfl ?_
    rw [QZ_b1]
    refine er_loc (pc' := 75) rfl rfl rfl ?_
    refine er_gf (pc' := 78) (_) rfl rfl rfl rfl rfl ?_
    refine er_k (pc' := 79) (nI 5) rfl rfl rfl ?_
    refine er_k (pc' := 80) (nI 0) rfl rfl rfl ?_
    refine er_isX (pc' := 81) (5) rfl rfl (fun _ => rfl) rfl (by omega) rfl rfl ?_
    refine er_loc (pc' := 82) rfl rfl rfl ?_
    refine er_gf (pc' := 85) (.int (bI true)) rfl rfl rfl rfl rfl ?_
    refine er_if_eqF (pc' := 88) rfl (by decide +kernel) rfl ?_
    refine er_k (pc' := 90) (-10) rfl rfl rfl ?_
    refine er_loc (pc' := 91) rfl rfl rfl ?_
    refine er_gf (pc' := 94) (.int (nI x)) rfl rfl rfl rfl rfl ?_
    refine er_isub (pc' := 95) rfl rfl ?_
    refine er_iret rfl rfl ?_
    exact RNT_w rfl w5
  | inr s =>
    rw [hT] at hr hwf
    obtain ⟨hq1, hq2, y, hca, rfl⟩ := hr
    obtain ⟨_, _, hw⟩ := hwf
    refine er_loc (pc' := 46) rfl rfl rfl ?_
    refine er_loc (pc' := 47) rfl rfl rfl ?_
    refine er_gf (pc' := 50) (.int (bI false)) rfl rfl rfl rfl rfl ?_
    refine er_if_neF (pc' := 53) rfl (by decide +kernel) rfl ?_
    refine er_loc (pc' := 54) rfl rfl rfl ?_
    refine er_gf (pc' := 57) (.int (nI s.1)) rfl rfl rfl rfl rfl ?_
    refine er_loc (pc' := 58) rfl rfl rfl ?_
    refine er_gf (pc' := 61) (_) rfl rfl rfl rfl rfl ?_
    refine er_k (pc' := 62) (nI 5) rfl rfl rfl ?_
    refine er_ia (pc' := 63) (5) rfl rfl rfl rfl (by omega) rfl rfl ?_
    rw [hf]
    refine er_cm_ge (pc' := 66) rfl rfl (fun h63 => ?_) (fun h63 => ?_)
    · have hsf : ¬ s.1 < f := fun h => h63 (nI_lt h (by omega))
      refine er_k (pc' := 71) (nI 0) rfl rfl rfl ?_
      refine er_pfIZ (pc' := 74) 12 rfl rfl rfl rfl rfl rfl ?_
      rw [QZ_b0]
      refine er_loc (pc' := 75) rfl rfl rfl ?_
      refine er_gf (pc' := 78) (_) rfl rfl rfl rfl rfl ?_
      refine er_k (pc' := 79) (nI 5) rfl rfl rfl ?_
      refine er_k (pc' := 80) (nI 0) rfl rfl rfl ?_
      refine er_isX (pc' := 81) (5) rfl rfl (fun _ => rfl) rfl (by omega) rfl rfl ?_
      refine er_loc (pc' := 82) rfl rfl rfl ?_
      refine er_gf (pc' := 85) (.int (bI false)) rfl rfl rfl rfl rfl ?_
      refine er_if_eqT rfl (by decide +kernel) ?_
      refine er_k (pc' := 98) (nI 125) rfl rfl rfl ?_
      refine er_k (pc' := 100) (nI 101) rfl rfl rfl ?_
      refine er_loc (pc' := 101) rfl rfl rfl ?_
      refine er_imul (pc' := 102) rfl rfl ?_
      refine er_iadd rfl rfl ?_
      rw [show nI 125 + nI 101 * nI 0 = nI 125 from by decide +kernel]
      refine er_loc (pc' := 104) (L' := [(2, _), (0, _), (1, _)]) rfl rfl rfl ?_
      refine er_loc (pc' := 105) rfl rfl rfl ?_
      refine er_gf (pc' := 108) (_) rfl rfl rfl rfl rfl ?_
      refine er_loc (pc' := 109) rfl rfl rfl ?_
      refine er_loc (pc' := 110) rfl rfl rfl ?_
      refine er_gf (pc' := 113) (.int (nI y.1)) rfl rfl rfl rfl rfl ?_
      refine er_isX (pc' := 114) (125) rfl rfl (fun _ => rfl) rfl (by omega) rfl rfl ?_
      refine er_k (pc' := 115) (nI 0) rfl rfl rfl ?_
      refine er_loc (pc' := 116) (L' := [(3, _), (2, _), (0, _), (1, _)]) rfl rfl rfl ?_
      refine ER_loc [(0, _), (2, _), (3, _)] rfl (List.forall_mem_cons.mpr ⟨rfl, List.forall_mem_cons.mpr ⟨rfl, List.forall_mem_cons.mpr ⟨rfl, fun _ h => absurd h List.not_mem_nil⟩⟩⟩) rfl rfl ?_
      have hl := l_yStore0 (d + 118) (ud (ud X 64 5 (nI 0)) 64 125 (nI y.1)) (Z := Z) (u := 0) (q := s.1) (bad := false) (hca.le hq2) y.1 0 (nI 0) (by omega) rfl
      rw [yTx_0, uc_id] at hl
      refine hl.mono (fun r hr => ?_)
      obtain ⟨Z9, rfl⟩ := hr
      show (if s.1 < f then RNT (-10 - nI s.1) (ud (jm (X 64)) 0 14 (nI 0)) T X else RNT (nI 1) (jTx0 (ud (jm (X 64)) 0 14 (nI 0)) s.2) T X) _
      rw [if_neg hsf]
      have b1 : ∀ q, q < 125 → yTx ((ud (ud X 64 5 (nI 0)) 64 125 (nI y.1)) 64) 125 y.2.1 y.2.2 y.1 q = ud X 64 5 (nI 0) 64 q := fun q hq => by rw [yTx_at, if_neg (by omega), if_neg (by omega), ud_same, u1_ne (by omega)]
      have b2 : yTx ((ud (ud X 64 5 (nI 0)) 64 125 (nI y.1)) 64) 125 y.2.1 y.2.2 y.1 125 = nI s.2.1 := by rw [yTx_at, if_neg (by omega), if_neg (by omega), ud_same, u1_same, hca.1]
      have hy50 := hca.le hq2
      have b3 : ∀ k, k < s.2.1 → yTx ((ud (ud X 64 5 (nI 0)) 64 125 (nI y.1)) 64) 125 y.2.1 y.2.2 y.1 (126 + k) = y.2.1 k ∧ yTx ((ud (ud X 64 5 (nI 0)) 64 125 (nI y.1)) 64) 125 y.2.1 y.2.2 y.1 (176 + k) = y.2.2 k := by
        intro k hk
        rw [hca.1] at hk
        refine ⟨?_, ?_⟩
        · rw [yTx_at, if_pos ⟨by omega, by omega⟩, show 126 + k - (125 + 1) = k by omega]
        · rw [yTx_at, if_neg (by omega), if_pos ⟨by omega, by omega⟩, show 176 + k - (125 + 51) = k by omega]
      have b4 : ∀ q, 226 ≤ q → yTx ((ud (ud X 64 5 (nI 0)) 64 125 (nI y.1)) 64) 125 y.2.1 y.2.2 y.1 q = ud X 64 5 (nI 0) 64 q := fun q hq => by rw [yTx_at, if_neg (by omega), if_neg (by omega), ud_same, u1_ne (by omega)]
      have r5 := w5.rk
      refine RNT_of rfl ?_ ?_ ?_
      · rw [uc_same, ← w5.j]
        exact jm_text0 hq2 r5.n8 r5.ij.tl.1.2 hca b1 b2 b3 b4
      · rw [uc_same]
        exact r5.text0 hq2 hw hca b1 b2 b3 b4
      · intro c hc
        rw [uc_ne hc, ud_ne hc, ud_ne hc]
    · have hsf : s.1 < f := by
        rcases Nat.lt_or_ge s.1 f with h | h
        · exact h
        · exact absurd h63 (nI_nlt h (by omega))
      refine er_k (pc' := 67) (nI 1) rfl rfl rfl ?_
      refine er_goto rfl ?_
      refine er_pfIZ (pc' := 74) 12 rfl rfl rfl rfl rfl rfl ?_
      rw [QZ_b1]
      refine er_loc (pc' := 75) rfl rfl rfl ?_
      refine er_gf (pc' := 78) (_) rfl rfl rfl rfl rfl ?_
      refine er_k (pc' := 79) (nI 5) rfl rfl rfl ?_
      refine er_k (pc' := 80) (nI 0) rfl rfl rfl ?_
      refine er_isX (pc' := 81) (5) rfl rfl (fun _ => rfl) rfl (by omega) rfl rfl ?_
      refine er_loc (pc' := 82) rfl rfl rfl ?_
      refine er_gf (pc' := 85) (.int (bI true)) rfl rfl rfl rfl rfl ?_
      refine er_if_eqF (pc' := 88) rfl (by decide +kernel) rfl ?_
      refine er_k (pc' := 90) (-10) rfl rfl rfl ?_
      refine er_loc (pc' := 91) rfl rfl rfl ?_
      refine er_gf (pc' := 94) (.int (nI s.1)) rfl rfl rfl rfl rfl ?_
      refine er_isub (pc' := 95) rfl rfl ?_
      refine er_iret rfl rfl ?_
      show (if s.1 < f then RNT (-10 - nI s.1) (ud (jm (X 64)) 0 14 (nI 0)) T X else RNT (nI 1) (jTx0 (ud (jm (X 64)) 0 14 (nI 0)) s.2) T X) _
      rw [if_pos hsf]
      exact RNT_w rfl w5
set_option maxRecDepth 100000 in
set_option maxHeartbeats 4000000 in
theorem l_yStore1 (d : Nat) (X : Nat → Nat → Int32) {Z : Nat → Nat → Int32} {u q : Nat} {bad : Bool} {y : YS} (hy : y.1 ≤ 50) : ∀ (m i : Nat) (x : Int32), i + m = y.1 → x = nI i → ER (d + 1) tb_m152 116 [(0, .ref 63), (2, .int (nI 226)), (3, .int x)] [] (Wd (uc X 64 (yTx (X 64) 226 y.2.1 y.2.2 i)) (QZ Z u 0 bad q y)) (RI (nI 1) (uc X 64 (yTx (X 64) 226 y.2.1 y.2.2 y.1)))
  | 0, i, x, hi, hx => by
    have hi0 : i = y.1 := by omega
    subst hx
    rw [hi0]
    refine er_loc (pc' := 117) rfl rfl rfl ?_
    refine er_loc (pc' := 118) rfl rfl rfl ?_
    refine er_gf (pc' := 121) (.int (nI y.1)) rfl rfl rfl rfl rfl ?_
    refine er_cm_geT rfl (nI_nlt (Nat.le_refl _) (by omega)) ?_
    refine er_k (pc' := 164) (nI 1) rfl rfl rfl ?_
    refine er_iret rfl rfl ?_
    exact RI_of rfl rfl
  | m + 1, i, x, hi, hx => by
    subst hx
    refine er_loc (pc' := 117) rfl rfl rfl ?_
    refine er_loc (pc' := 118) rfl rfl rfl ?_
    refine er_gf (pc' := 121) (.int (nI y.1)) rfl rfl rfl rfl rfl ?_
    refine er_cm_geF (pc' := 124) rfl (nI_lt (by omega) (by omega)) rfl ?_
    refine er_loc (pc' := 125) rfl rfl rfl ?_
    refine er_gf (pc' := 128) (_) rfl rfl rfl rfl rfl ?_
    refine er_loc (pc' := 129) rfl rfl rfl ?_
    refine er_k (pc' := 130) (nI 1) rfl rfl rfl ?_
    refine er_iadd (pc' := 131) rfl rfl ?_
    refine er_loc (pc' := 132) rfl rfl rfl ?_
    refine er_iadd (pc' := 133) rfl rfl ?_
    refine er_loc (pc' := 134) rfl rfl rfl ?_
    refine er_gf (pc' := 137) (_) rfl rfl rfl rfl rfl ?_
    refine er_loc (pc' := 138) rfl rfl rfl ?_
    refine er_ia (pc' := 139) (i) rfl rfl rfl rfl (by omega) rfl rfl ?_
    rw [QZ_68]
    refine er_isX (pc' := 140) (((226 + 1) + i)) rfl rfl (fun _ => rfl) (by simp only [nI_add, nI_mul]) (by omega) rfl rfl ?_
    refine er_loc (pc' := 141) rfl rfl rfl ?_
    refine er_gf (pc' := 144) (_) rfl rfl rfl rfl rfl ?_
    refine er_loc (pc' := 145) rfl rfl rfl ?_
    refine er_k (pc' := 147) (nI 51) rfl rfl rfl ?_
    refine er_iadd (pc' := 148) rfl rfl ?_
    refine er_loc (pc' := 149) rfl rfl rfl ?_
    refine er_iadd (pc' := 150) rfl rfl ?_
    refine er_loc (pc' := 151) rfl rfl rfl ?_
    refine er_gf (pc' := 154) (_) rfl rfl rfl rfl rfl ?_
    refine er_loc (pc' := 155) rfl rfl rfl ?_
    refine er_ia (pc' := 156) (i) rfl rfl rfl rfl (by omega) rfl rfl ?_
    rw [QZ_69]
    refine er_isX (pc' := 157) (((226 + 51) + i)) rfl rfl (fun _ => rfl) (by simp only [nI_add, nI_mul]) (by omega) rfl rfl ?_
    refine er_loc (L' := [(3, .int (_ + nI 1)), (0, _), (2, _)]) rfl rfl rfl ?_
    refine er_goto rfl ?_
    refine ER_loc [(0, _), (2, _), (3, _)] rfl (List.forall_mem_cons.mpr ⟨rfl, List.forall_mem_cons.mpr ⟨rfl, List.forall_mem_cons.mpr ⟨rfl, fun _ h => absurd h List.not_mem_nil⟩⟩⟩) rfl rfl ?_
    have ih := l_yStore1 d X (Z := Z) (u := u) (q := q) (bad := bad) hy m (i + 1) _ (by omega) (nI_add i 1)
    rw [show ud (ud (uc X 64 (yTx (X 64) 226 y.2.1 y.2.2 i)) 64 (226 + 1 + i) (y.2.1 i)) 64 (226 + 51 + i) (y.2.2 i) = uc X 64 (yTx (X 64) 226 y.2.1 y.2.2 (i + 1)) from by unfold ud; rw [uc_uc, uc_uc, uc_same, uc_same, yTx_s (by omega)]]
    exact ih
set_option maxRecDepth 100000 in
set_option maxHeartbeats 4000000 in
theorem l_rText1 (d : Nat) (X Z : Nat → Nat → Int32) {T : Nat} (hI : RK T (X 64)) {f : Nat} (hf : X 64 5 = nI f) (hf50 : f ≤ 50) : EC (d + 120) 152 [.ref 63, .int (nI 1)] (Wd X Z) (fun r => match rTx X 1 f with | .inl x => RNT (-10 - nI x) (ud (jm (X 64)) 0 14 (nI 0)) T X r | .inr s => (if s.1 < f then RNT (-10 - nI s.1) (ud (jm (X 64)) 0 14 (nI 0)) T X else RNT (nI 1) (jTx1 (ud (jm (X 64)) 0 14 (nI 0)) s.2) T X) r) := by
  refine er_enter (L := [(0, _), (1, _)]) rfl rfl rfl ?_
  refine er_loc (pc' := 1) rfl rfl rfl ?_
  refine er_k (pc' := 2) (nI 0) rfl rfl rfl ?_
  refine er_k (pc' := 3) (nI 1) rfl rfl rfl ?_
  refine er_cSi (pc' := 6) (rest := []) rfl rfl rfl (l_in _ _ _ _ _) ?_
  rw [show sIn (nI 1) (nI 0) (nI 1) = true from by decide +kernel]
  refine er_if_neT rfl (by decide +kernel) ?_
  refine er_loc (pc' := 17) rfl rfl rfl ?_
  refine er_loc (pc' := 18) rfl rfl rfl ?_
  refine er_pfIZ (pc' := 21) 13 rfl rfl rfl rfl rfl rfl ?_
  refine er_loc (pc' := 22) rfl rfl rfl ?_
  refine er_k (pc' := 23) (nI 0) rfl rfl rfl ?_
  refine er_pfIZ (pc' := 26) 9 rfl rfl rfl rfl rfl rfl ?_
  refine er_loc (pc' := 27) rfl rfl rfl ?_
  refine er_k (pc' := 28) (nI 0) rfl rfl rfl ?_
  refine er_pfIZ (pc' := 31) 10 rfl rfl rfl rfl rfl rfl ?_
  refine er_loc (pc' := 32) rfl rfl rfl ?_
  refine er_k (pc' := 33) (nI 0) rfl rfl rfl ?_
  refine er_pfIZ (pc' := 36) 11 rfl rfl rfl rfl rfl rfl ?_
  refine er_loc (pc' := 37) rfl rfl rfl ?_
  refine er_k (pc' := 38) (nI 0) rfl rfl rfl ?_
  refine er_pfIZ (pc' := 41) 12 rfl rfl rfl rfl rfl rfl ?_
  refine er_loc (pc' := 42) rfl rfl rfl ?_
  rw [Wd_start]
  refine er_cIP (pc' := 45) (rest := []) 12 rfl rfl rfl rfl rfl rfl (l_yq X Z (show 1 = 0 ∨ 1 = 1 by omega) hI.ij.tape hf hf50 36 (d + 119) (by omega) 0 0 0 (0, fun _ => 0) (0, Z 68, Z 69) (by omega) (by omega) (by omega) (by omega) (by omega) ⟨rfl, fun k hk => absurd hk (Nat.not_lt_zero k)⟩) (fun r hr => ?_)
  have hwf := sTx_wf (X := fun _ => jm (X 64) 9) (u := 1) (f := f) hI.ij.tape hf50
  rw [show qq (jm (X 64) 9) f 1 36 0 0 (0, (0, fun _ => 0)) = rTx X 1 f from rfl] at hr
  rw [show sTx (fun _ => jm (X 64) 9) 1 f = rTx X 1 f from rfl] at hwf
  have w5 := wFed (p := 5) hI rfl (isN.of (show 0 ≤ 50 by omega) (by omega)) rfl
  cases hT : rTx X 1 f with
  | inl x =>
    rw [hT] at hr hwf
    obtain ⟨y, hy, hx, rfl⟩ := hr
    refine er_loc (pc' := 46) rfl rfl rfl ?_
    refine er_loc (pc' := 47) rfl rfl rfl ?_
    refine er_gf (pc' := 50) (.int (bI true)) rfl rfl rfl rfl rfl ?_
    refine er_if_neT rfl (by decide +kernel) ?_
    refine er_k (pc' := 67) (nI 1) rfl rfl rfl ?_
    refine er_goto rfl ?_
    refine er_pfIZ (pc' := 74) 12 rfl rfl rfl rfl rfl rfl ?_
    rw [QZ_b1]
    refine er_loc (pc' := 75) rfl rfl rfl ?_
    refine er_gf (pc' := 78) (_) rfl rfl rfl rfl rfl ?_
    refine er_k (pc' := 79) (nI 5) rfl rfl rfl ?_
    refine er_k (pc' := 80) (nI 0) rfl rfl rfl ?_
    refine er_isX (pc' := 81) (5) rfl rfl (fun _ => rfl) rfl (by omega) rfl rfl ?_
    refine er_loc (pc' := 82) rfl rfl rfl ?_
    refine er_gf (pc' := 85) (.int (bI true)) rfl rfl rfl rfl rfl ?_
    refine er_if_eqF (pc' := 88) rfl (by decide +kernel) rfl ?_
    refine er_k (pc' := 90) (-10) rfl rfl rfl ?_
    refine er_loc (pc' := 91) rfl rfl rfl ?_
    refine er_gf (pc' := 94) (.int (nI x)) rfl rfl rfl rfl rfl ?_
    refine er_isub (pc' := 95) rfl rfl ?_
    refine er_iret rfl rfl ?_
    exact RNT_w rfl w5
  | inr s =>
    rw [hT] at hr hwf
    obtain ⟨hq1, hq2, y, hca, rfl⟩ := hr
    obtain ⟨_, _, hw⟩ := hwf
    refine er_loc (pc' := 46) rfl rfl rfl ?_
    refine er_loc (pc' := 47) rfl rfl rfl ?_
    refine er_gf (pc' := 50) (.int (bI false)) rfl rfl rfl rfl rfl ?_
    refine er_if_neF (pc' := 53) rfl (by decide +kernel) rfl ?_
    refine er_loc (pc' := 54) rfl rfl rfl ?_
    refine er_gf (pc' := 57) (.int (nI s.1)) rfl rfl rfl rfl rfl ?_
    refine er_loc (pc' := 58) rfl rfl rfl ?_
    refine er_gf (pc' := 61) (_) rfl rfl rfl rfl rfl ?_
    refine er_k (pc' := 62) (nI 5) rfl rfl rfl ?_
    refine er_ia (pc' := 63) (5) rfl rfl rfl rfl (by omega) rfl rfl ?_
    rw [hf]
    refine er_cm_ge (pc' := 66) rfl rfl (fun h63 => ?_) (fun h63 => ?_)
    · have hsf : ¬ s.1 < f := fun h => h63 (nI_lt h (by omega))
      refine er_k (pc' := 71) (nI 0) rfl rfl rfl ?_
      refine er_pfIZ (pc' := 74) 12 rfl rfl rfl rfl rfl rfl ?_
      rw [QZ_b0]
      refine er_loc (pc' := 75) rfl rfl rfl ?_
      refine er_gf (pc' := 78) (_) rfl rfl rfl rfl rfl ?_
      refine er_k (pc' := 79) (nI 5) rfl rfl rfl ?_
      refine er_k (pc' := 80) (nI 0) rfl rfl rfl ?_
      refine er_isX (pc' := 81) (5) rfl rfl (fun _ => rfl) rfl (by omega) rfl rfl ?_
      refine er_loc (pc' := 82) rfl rfl rfl ?_
      refine er_gf (pc' := 85) (.int (bI false)) rfl rfl rfl rfl rfl ?_
      refine er_if_eqT rfl (by decide +kernel) ?_
      refine er_k (pc' := 98) (nI 125) rfl rfl rfl ?_
      refine er_k (pc' := 100) (nI 101) rfl rfl rfl ?_
      refine er_loc (pc' := 101) rfl rfl rfl ?_
      refine er_imul (pc' := 102) rfl rfl ?_
      refine er_iadd rfl rfl ?_
      rw [show nI 125 + nI 101 * nI 1 = nI 226 from by decide +kernel]
      refine er_loc (pc' := 104) (L' := [(2, _), (0, _), (1, _)]) rfl rfl rfl ?_
      refine er_loc (pc' := 105) rfl rfl rfl ?_
      refine er_gf (pc' := 108) (_) rfl rfl rfl rfl rfl ?_
      refine er_loc (pc' := 109) rfl rfl rfl ?_
      refine er_loc (pc' := 110) rfl rfl rfl ?_
      refine er_gf (pc' := 113) (.int (nI y.1)) rfl rfl rfl rfl rfl ?_
      refine er_isX (pc' := 114) (226) rfl rfl (fun _ => rfl) rfl (by omega) rfl rfl ?_
      refine er_k (pc' := 115) (nI 0) rfl rfl rfl ?_
      refine er_loc (pc' := 116) (L' := [(3, _), (2, _), (0, _), (1, _)]) rfl rfl rfl ?_
      refine ER_loc [(0, _), (2, _), (3, _)] rfl (List.forall_mem_cons.mpr ⟨rfl, List.forall_mem_cons.mpr ⟨rfl, List.forall_mem_cons.mpr ⟨rfl, fun _ h => absurd h List.not_mem_nil⟩⟩⟩) rfl rfl ?_
      have hl := l_yStore1 (d + 118) (ud (ud X 64 5 (nI 0)) 64 226 (nI y.1)) (Z := Z) (u := 1) (q := s.1) (bad := false) (hca.le hq2) y.1 0 (nI 0) (by omega) rfl
      rw [yTx_0, uc_id] at hl
      refine hl.mono (fun r hr => ?_)
      obtain ⟨Z9, rfl⟩ := hr
      show (if s.1 < f then RNT (-10 - nI s.1) (ud (jm (X 64)) 0 14 (nI 0)) T X else RNT (nI 1) (jTx1 (ud (jm (X 64)) 0 14 (nI 0)) s.2) T X) _
      rw [if_neg hsf]
      have b1 : ∀ q, q < 226 → yTx ((ud (ud X 64 5 (nI 0)) 64 226 (nI y.1)) 64) 226 y.2.1 y.2.2 y.1 q = ud X 64 5 (nI 0) 64 q := fun q hq => by rw [yTx_at, if_neg (by omega), if_neg (by omega), ud_same, u1_ne (by omega)]
      have b2 : yTx ((ud (ud X 64 5 (nI 0)) 64 226 (nI y.1)) 64) 226 y.2.1 y.2.2 y.1 226 = nI s.2.1 := by rw [yTx_at, if_neg (by omega), if_neg (by omega), ud_same, u1_same, hca.1]
      have hy50 := hca.le hq2
      have b3 : ∀ k, k < s.2.1 → yTx ((ud (ud X 64 5 (nI 0)) 64 226 (nI y.1)) 64) 226 y.2.1 y.2.2 y.1 (227 + k) = y.2.1 k ∧ yTx ((ud (ud X 64 5 (nI 0)) 64 226 (nI y.1)) 64) 226 y.2.1 y.2.2 y.1 (277 + k) = y.2.2 k := by
        intro k hk
        rw [hca.1] at hk
        refine ⟨?_, ?_⟩
        · rw [yTx_at, if_pos ⟨by omega, by omega⟩, show 227 + k - (226 + 1) = k by omega]
        · rw [yTx_at, if_neg (by omega), if_pos ⟨by omega, by omega⟩, show 277 + k - (226 + 51) = k by omega]
      have r5 := w5.rk
      refine RNT_of rfl ?_ ?_ ?_
      · rw [uc_same, ← w5.j]
        exact jm_text1 hq2 r5.n8 r5.ij.tl.1.2 hca b1 b2 b3
      · rw [uc_same]
        exact r5.text1 hq2 hw hca b1 b2 b3
      · intro c hc
        rw [uc_ne hc, ud_ne hc, ud_ne hc]
    · have hsf : s.1 < f := by
        rcases Nat.lt_or_ge s.1 f with h | h
        · exact h
        · exact absurd h63 (nI_nlt h (by omega))
      refine er_k (pc' := 67) (nI 1) rfl rfl rfl ?_
      refine er_goto rfl ?_
      refine er_pfIZ (pc' := 74) 12 rfl rfl rfl rfl rfl rfl ?_
      rw [QZ_b1]
      refine er_loc (pc' := 75) rfl rfl rfl ?_
      refine er_gf (pc' := 78) (_) rfl rfl rfl rfl rfl ?_
      refine er_k (pc' := 79) (nI 5) rfl rfl rfl ?_
      refine er_k (pc' := 80) (nI 0) rfl rfl rfl ?_
      refine er_isX (pc' := 81) (5) rfl rfl (fun _ => rfl) rfl (by omega) rfl rfl ?_
      refine er_loc (pc' := 82) rfl rfl rfl ?_
      refine er_gf (pc' := 85) (.int (bI true)) rfl rfl rfl rfl rfl ?_
      refine er_if_eqF (pc' := 88) rfl (by decide +kernel) rfl ?_
      refine er_k (pc' := 90) (-10) rfl rfl rfl ?_
      refine er_loc (pc' := 91) rfl rfl rfl ?_
      refine er_gf (pc' := 94) (.int (nI s.1)) rfl rfl rfl rfl rfl ?_
      refine er_isub (pc' := 95) rfl rfl ?_
      refine er_iret rfl rfl ?_
      show (if s.1 < f then RNT (-10 - nI s.1) (ud (jm (X 64)) 0 14 (nI 0)) T X else RNT (nI 1) (jTx1 (ud (jm (X 64)) 0 14 (nI 0)) s.2) T X) _
      rw [if_pos hsf]
      exact RNT_w rfl w5
end
section
/-! THE REFERENCE: a new step -/
theorem jm_offD {R R' : Nat → Int32} {k : Nat} (hk : nN (R 2) ≤ k) (hk8 : k < 8) (ho : ∀ q, q ≠ 11 + 6 * k → R' q = R q) : jm R' = jm R := by
  have e2 : R' 2 = R 2 := ho 2 (by omega)
  have e6 : rB R' 11 (nN (R' 2)) = rB R 11 (nN (R 2)) := by rw [e2]; exact rB_cong (fun i hi => ho _ (by omega))
  have e7 : rB R' 12 (nN (R' 2)) = rB R 12 (nN (R 2)) := by rw [e2]; exact rB_cong (fun i hi => ho _ (by omega))
  funext i j
  match i with
  | 0 =>
    match j with
    | 0 => exact (show jm R' 0 0 = 0 from rfl).trans (show 0 = jm R 0 0 from rfl)
    | 1 => exact ho 2 (by omega)
    | 2 => exact (show jm R' 0 2 = 0 from rfl).trans (show 0 = jm R 0 2 from rfl)
    | 3 => exact (show jm R' 0 3 = 0 from rfl).trans (show 0 = jm R 0 3 from rfl)
    | 4 => exact (show jm R' 0 4 = 0 from rfl).trans (show 0 = jm R 0 4 from rfl)
    | 5 => exact (show jm R' 0 5 = 0 from rfl).trans (show 0 = jm R 0 5 from rfl)
    | 6 => exact e6
    | 7 => exact e7
    | 8 => exact ho 3 (by omega)
    | 9 => exact ho 4 (by omega)
    | 10 => exact ho 0 (by omega)
    | 11 => exact (show jm R' 0 11 = 0 from rfl).trans (show 0 = jm R 0 11 from rfl)
    | 12 => exact (show jm R' 0 12 = 0 from rfl).trans (show 0 = jm R 0 12 from rfl)
    | 13 => exact (show jm R' 0 13 = 0 from rfl).trans (show 0 = jm R 0 13 from rfl)
    | 14 => exact ho 5 (by omega)
    | 15 => exact (show jm R' 0 15 = 0 from rfl).trans (show 0 = jm R 0 15 from rfl)
    | 16 => exact ho 6 (by omega)
    | 17 => exact ho 1 (by omega)
    | j + 18 => exact (show jm R' 0 (j + 18) = 0 from rfl).trans (show 0 = jm R 0 (j + 18) from rfl)
  | 1 =>
    show (if j < 8 then R' (7 + 6 * j) else 0) = (if j < 8 then R (7 + 6 * j) else 0)
    split
    · exact ho _ (by omega)
    · rfl
  | 2 =>
    show (if j < 8 then R' (8 + 6 * j) else 0) = (if j < 8 then R (8 + 6 * j) else 0)
    split
    · exact ho _ (by omega)
    · rfl
  | 3 =>
    show (if j < 8 then R' (9 + 6 * j) else 0) = (if j < 8 then R (9 + 6 * j) else 0)
    split
    · exact ho _ (by omega)
    · rfl
  | 4 =>
    show (if j < 8 then R' (10 + 6 * j) else 0) = (if j < 8 then R (10 + 6 * j) else 0)
    split
    · exact ho _ (by omega)
    · rfl
  | 9 =>
    show (if j < 50 then R' (55 + j) else 0) = (if j < 50 then R (55 + j) else 0)
    split
    · exact ho _ (by omega)
    · rfl
  | 10 =>
    show (if j < 20 then R' (105 + j) else 0) = (if j < 20 then R (105 + j) else 0)
    split
    · exact ho _ (by omega)
    · rfl
  | 5 =>
    show (if j = 0 then R' 125 else 0) = (if j = 0 then R 125 else 0)
    rw [ho 125 (by omega)]
  | 7 =>
    show (if j = 0 then R' 226 else 0) = (if j = 0 then R 226 else 0)
    rw [ho 226 (by omega)]
  | 6 =>
    show (if j < nN (R' 125) then cM (R' (126 + j)) (R' (176 + j)) else 0) = (if j < nN (R 125) then cM (R (126 + j)) (R (176 + j)) else 0)
    rw [ho 125 (by omega), ho (126 + j) (by omega), ho (176 + j) (by omega)]
  | 8 =>
    show (if j < nN (R' 226) then cM (R' (227 + j)) (R' (277 + j)) else 0) = (if j < nN (R 226) then cM (R (227 + j)) (R (277 + j)) else 0)
    rw [ho 226 (by omega), ho (227 + j) (by omega), ho (277 + j) (by omega)]
  | i + 11 =>
    exact (show jm R' (i + 11) j = 0 from rfl).trans (show 0 = jm R (i + 11) j from rfl)
theorem jm_offW {R R' : Nat → Int32} {k : Nat} (hk : nN (R 2) ≤ k) (hk8 : k < 8) (ho : ∀ q, q ≠ 12 + 6 * k → R' q = R q) : jm R' = jm R := by
  have e2 : R' 2 = R 2 := ho 2 (by omega)
  have e6 : rB R' 11 (nN (R' 2)) = rB R 11 (nN (R 2)) := by rw [e2]; exact rB_cong (fun i hi => ho _ (by omega))
  have e7 : rB R' 12 (nN (R' 2)) = rB R 12 (nN (R 2)) := by rw [e2]; exact rB_cong (fun i hi => ho _ (by omega))
  funext i j
  match i with
  | 0 =>
    match j with
    | 0 => exact (show jm R' 0 0 = 0 from rfl).trans (show 0 = jm R 0 0 from rfl)
    | 1 => exact ho 2 (by omega)
    | 2 => exact (show jm R' 0 2 = 0 from rfl).trans (show 0 = jm R 0 2 from rfl)
    | 3 => exact (show jm R' 0 3 = 0 from rfl).trans (show 0 = jm R 0 3 from rfl)
    | 4 => exact (show jm R' 0 4 = 0 from rfl).trans (show 0 = jm R 0 4 from rfl)
    | 5 => exact (show jm R' 0 5 = 0 from rfl).trans (show 0 = jm R 0 5 from rfl)
    | 6 => exact e6
    | 7 => exact e7
    | 8 => exact ho 3 (by omega)
    | 9 => exact ho 4 (by omega)
    | 10 => exact ho 0 (by omega)
    | 11 => exact (show jm R' 0 11 = 0 from rfl).trans (show 0 = jm R 0 11 from rfl)
    | 12 => exact (show jm R' 0 12 = 0 from rfl).trans (show 0 = jm R 0 12 from rfl)
    | 13 => exact (show jm R' 0 13 = 0 from rfl).trans (show 0 = jm R 0 13 from rfl)
    | 14 => exact ho 5 (by omega)
    | 15 => exact (show jm R' 0 15 = 0 from rfl).trans (show 0 = jm R 0 15 from rfl)
    | 16 => exact ho 6 (by omega)
    | 17 => exact ho 1 (by omega)
    | j + 18 => exact (show jm R' 0 (j + 18) = 0 from rfl).trans (show 0 = jm R 0 (j + 18) from rfl)
  | 1 =>
    show (if j < 8 then R' (7 + 6 * j) else 0) = (if j < 8 then R (7 + 6 * j) else 0)
    split
    · exact ho _ (by omega)
    · rfl
  | 2 =>
    show (if j < 8 then R' (8 + 6 * j) else 0) = (if j < 8 then R (8 + 6 * j) else 0)
    split
    · exact ho _ (by omega)
    · rfl
  | 3 =>
    show (if j < 8 then R' (9 + 6 * j) else 0) = (if j < 8 then R (9 + 6 * j) else 0)
    split
    · exact ho _ (by omega)
    · rfl
  | 4 =>
    show (if j < 8 then R' (10 + 6 * j) else 0) = (if j < 8 then R (10 + 6 * j) else 0)
    split
    · exact ho _ (by omega)
    · rfl
  | 9 =>
    show (if j < 50 then R' (55 + j) else 0) = (if j < 50 then R (55 + j) else 0)
    split
    · exact ho _ (by omega)
    · rfl
  | 10 =>
    show (if j < 20 then R' (105 + j) else 0) = (if j < 20 then R (105 + j) else 0)
    split
    · exact ho _ (by omega)
    · rfl
  | 5 =>
    show (if j = 0 then R' 125 else 0) = (if j = 0 then R 125 else 0)
    rw [ho 125 (by omega)]
  | 7 =>
    show (if j = 0 then R' 226 else 0) = (if j = 0 then R 226 else 0)
    rw [ho 226 (by omega)]
  | 6 =>
    show (if j < nN (R' 125) then cM (R' (126 + j)) (R' (176 + j)) else 0) = (if j < nN (R 125) then cM (R (126 + j)) (R (176 + j)) else 0)
    rw [ho 125 (by omega), ho (126 + j) (by omega), ho (176 + j) (by omega)]
  | 8 =>
    show (if j < nN (R' 226) then cM (R' (227 + j)) (R' (277 + j)) else 0) = (if j < nN (R 226) then cM (R (227 + j)) (R (277 + j)) else 0)
    rw [ho 226 (by omega), ho (227 + j) (by omega), ho (277 + j) (by omega)]
  | i + 11 =>
    exact (show jm R' (i + 11) j = 0 from rfl).trans (show 0 = jm R (i + 11) j from rfl)
theorem jm_uN {R R' : Nat → Int32} {n : Nat} (hn : n < 8) (h2 : R 2 = nI n) (hD : R (11 + 6 * n) = nI 0) (hW : R (12 + 6 * n) = nI 0) (ho : ∀ q, q ≠ 2 → R' q = R q) (hv : R' 2 = nI (n + 1)) : jm R' = ud (jm R) 0 1 (nI (n + 1)) := by
  have e6 : rB R' 11 (nN (R' 2)) = rB R 11 (nN (R 2)) := by
    rw [hv, h2, nN_nI (by omega), nN_nI (by omega)]
    show rB R' 11 n ||| (R' (11 + 6 * n) <<< (nI n &&& 31)) = _
    rw [rB_cong (fun i hi => ho (11 + 6 * i) (by omega)), ho (11 + 6 * n) (by omega), hD, sh0 (by omega), or_0]
  have e7 : rB R' 12 (nN (R' 2)) = rB R 12 (nN (R 2)) := by
    rw [hv, h2, nN_nI (by omega), nN_nI (by omega)]
    show rB R' 12 n ||| (R' (12 + 6 * n) <<< (nI n &&& 31)) = _
    rw [rB_cong (fun i hi => ho (12 + 6 * i) (by omega)), ho (12 + 6 * n) (by omega), hW, sh0 (by omega), or_0]
  funext i j
  rw [ud_at]
  match i with
  | 0 =>
    rw [if_pos rfl]
    match j with
    | 0 => rw [if_neg (by omega)]; exact (show jm R' 0 0 = 0 from rfl).trans (show 0 = jm R 0 0 from rfl)
    | 1 => rw [if_pos rfl]; exact hv
    | 2 => rw [if_neg (by omega)]; exact (show jm R' 0 2 = 0 from rfl).trans (show 0 = jm R 0 2 from rfl)
    | 3 => rw [if_neg (by omega)]; exact (show jm R' 0 3 = 0 from rfl).trans (show 0 = jm R 0 3 from rfl)
    | 4 => rw [if_neg (by omega)]; exact (show jm R' 0 4 = 0 from rfl).trans (show 0 = jm R 0 4 from rfl)
    | 5 => rw [if_neg (by omega)]; exact (show jm R' 0 5 = 0 from rfl).trans (show 0 = jm R 0 5 from rfl)
    | 6 => rw [if_neg (by omega)]; exact e6
    | 7 => rw [if_neg (by omega)]; exact e7
    | 8 => rw [if_neg (by omega)]; exact ho 3 (by omega)
    | 9 => rw [if_neg (by omega)]; exact ho 4 (by omega)
    | 10 => rw [if_neg (by omega)]; exact ho 0 (by omega)
    | 11 => rw [if_neg (by omega)]; exact (show jm R' 0 11 = 0 from rfl).trans (show 0 = jm R 0 11 from rfl)
    | 12 => rw [if_neg (by omega)]; exact (show jm R' 0 12 = 0 from rfl).trans (show 0 = jm R 0 12 from rfl)
    | 13 => rw [if_neg (by omega)]; exact (show jm R' 0 13 = 0 from rfl).trans (show 0 = jm R 0 13 from rfl)
    | 14 => rw [if_neg (by omega)]; exact ho 5 (by omega)
    | 15 => rw [if_neg (by omega)]; exact (show jm R' 0 15 = 0 from rfl).trans (show 0 = jm R 0 15 from rfl)
    | 16 => rw [if_neg (by omega)]; exact ho 6 (by omega)
    | 17 => rw [if_neg (by omega)]; exact ho 1 (by omega)
    | j + 18 => rw [if_neg (by omega)]; exact (show jm R' 0 (j + 18) = 0 from rfl).trans (show 0 = jm R 0 (j + 18) from rfl)
  | 1 =>
    rw [if_neg (by omega)]
    show (if j < 8 then R' (7 + 6 * j) else 0) = (if j < 8 then R (7 + 6 * j) else 0)
    split
    · exact ho _ (by omega)
    · rfl
  | 2 =>
    rw [if_neg (by omega)]
    show (if j < 8 then R' (8 + 6 * j) else 0) = (if j < 8 then R (8 + 6 * j) else 0)
    split
    · exact ho _ (by omega)
    · rfl
  | 3 =>
    rw [if_neg (by omega)]
    show (if j < 8 then R' (9 + 6 * j) else 0) = (if j < 8 then R (9 + 6 * j) else 0)
    split
    · exact ho _ (by omega)
    · rfl
  | 4 =>
    rw [if_neg (by omega)]
    show (if j < 8 then R' (10 + 6 * j) else 0) = (if j < 8 then R (10 + 6 * j) else 0)
    split
    · exact ho _ (by omega)
    · rfl
  | 9 =>
    rw [if_neg (by omega)]
    show (if j < 50 then R' (55 + j) else 0) = (if j < 50 then R (55 + j) else 0)
    split
    · exact ho _ (by omega)
    · rfl
  | 10 =>
    rw [if_neg (by omega)]
    show (if j < 20 then R' (105 + j) else 0) = (if j < 20 then R (105 + j) else 0)
    split
    · exact ho _ (by omega)
    · rfl
  | 5 =>
    rw [if_neg (by omega)]
    show (if j = 0 then R' 125 else 0) = (if j = 0 then R 125 else 0)
    rw [ho 125 (by omega)]
  | 7 =>
    rw [if_neg (by omega)]
    show (if j = 0 then R' 226 else 0) = (if j = 0 then R 226 else 0)
    rw [ho 226 (by omega)]
  | 6 =>
    rw [if_neg (by omega)]
    show (if j < nN (R' 125) then cM (R' (126 + j)) (R' (176 + j)) else 0) = (if j < nN (R 125) then cM (R (126 + j)) (R (176 + j)) else 0)
    rw [ho 125 (by omega), ho (126 + j) (by omega), ho (176 + j) (by omega)]
  | 8 =>
    rw [if_neg (by omega)]
    show (if j < nN (R' 226) then cM (R' (227 + j)) (R' (277 + j)) else 0) = (if j < nN (R 226) then cM (R (227 + j)) (R (277 + j)) else 0)
    rw [ho 226 (by omega), ho (227 + j) (by omega), ho (277 + j) (by omega)]
  | i + 11 =>
    rw [if_neg (by omega)]
    exact (show jm R' (i + 11) j = 0 from rfl).trans (show 0 = jm R (i + 11) j from rfl)
theorem IJ.add {T : Nat} {J : Nat → Nat → Int32} (h : IJ T J) {km s nd : Int32} (hn : jn J < 8) (h1 : sIn km (nI 0) (nI 69) = true) (h2 : sIn s (nI 0) (nI 9) = true) (h3 : sIn nd (nI 0) (nI 1 <<< (nI (jn J) &&& 31) - nI 1) = true) : IJ T (jAdd J (jn J) km s nd) := by
  obtain ⟨g1, g2⟩ := km_q h1
  have hb := ((((h.uKind (k := jn J) g1).uM (k := jn J) g2).uSc (k := jn J) (sIn_isN (by omega) (by omega) h2)).uNeeds (k := jn J) (needs_lt (by omega) h3))
  exact hb.uN (n := jn J + 1) (by omega) (show jn J ≤ jn J + 1 by omega)
theorem step_WJ {X : Nat → Nat → Int32} {T : Nat} (hI : RK T (X 64)) {n : Nat} (hn : jn (jm (X 64)) = n) (h8 : n < 8) {km s nd : Int32} (h1 : sIn km (nI 0) (nI 69) = true) (h2 : sIn s (nI 0) (nI 9) = true) (h3 : sIn nd (nI 0) (nI 1 <<< (nI n &&& 31) - nI 1) = true) : WJ (jAdd (jm (X 64)) n km s nd) T X (ud (ud (ud (ud (ud (ud (ud X 64 2 (nI (n + 1))) 64 (7 + 6 * n + 0) (km / nI 10)) 64 (7 + 6 * n + 1) (km - km / nI 10 * nI 10)) 64 (7 + 6 * n + 2) s) 64 (7 + 6 * n + 3) nd) 64 (7 + 6 * n + 4) (nI 0)) 64 (7 + 6 * n + 5) (nI 0)) := by
  obtain ⟨g1, g2⟩ := km_q h1
  rw [ud_comm (a := 2) (b := 7 + 6 * n + 0) (by omega), ud_comm (a := 2) (b := 7 + 6 * n + 1) (by omega), ud_comm (a := 2) (b := 7 + 6 * n + 2) (by omega), ud_comm (a := 2) (b := 7 + 6 * n + 3) (by omega), ud_comm (a := 2) (b := 7 + 6 * n + 4) (by omega), ud_comm (a := 2) (b := 7 + 6 * n + 5) (by omega)]
  have w1 := wKind (k := n) (p := 7 + 6 * n + 0) hI rfl h8 g1 (by omega)
  have w2 := wM (k := n) (p := 7 + 6 * n + 1) w1.rk w1.j h8 g2 (by omega)
  have w3 := wSc (k := n) (p := 7 + 6 * n + 2) w2.rk w2.j h8 (sIn_isN (by omega) (by omega) h2) (by omega)
  have w4 := wNeeds (k := n) (p := 7 + 6 * n + 3) w3.rk w3.j h8 (needs_lt (by omega) h3) (by omega)
  have w := w1.trans (w2.trans (w3.trans w4))
  clear w1 w2 w3 w4
  revert w
  generalize ud (ud (ud (ud X 64 (7 + 6 * n + 0) (km / nI 10)) 64 (7 + 6 * n + 1) (km - km / nI 10 * nI 10)) 64 (7 + 6 * n + 2) s) 64 (7 + 6 * n + 3) nd = Y
  intro w
  have hnY : nN (Y 64 2) = n := by
    have e : jn (jm (Y 64)) = n := by rw [w.j]; exact hn
    exact e
  have hY2 : Y 64 2 = nI n := by rw [← hnY]; exact w.rk.n
  -- the flags of the new step
  have f1 : jm (ud Y 64 (7 + 6 * n + 4) (nI 0) 64) = jm (Y 64) := jm_offD (k := n) (by omega) h8 (fun q hq => by rw [ud_same, u1_ne (by omega)])
  have k1 : RK T (ud Y 64 (7 + 6 * n + 4) (nI 0) 64) := by rw [ud_same]; exact w.rk.updF (by omega) (Or.inl rfl) (by rw [← ud_same, f1]; exact w.rk.ij)
  have f2 : jm (ud (ud Y 64 (7 + 6 * n + 4) (nI 0)) 64 (7 + 6 * n + 5) (nI 0) 64) = jm (Y 64) := by
    rw [← f1]
    exact jm_offW (k := n) (by rw [ud_same, u1_ne (by omega)]; omega) h8 (fun q hq => by rw [ud_same, u1_ne (by omega)])
  have k2 : RK T (ud (ud Y 64 (7 + 6 * n + 4) (nI 0)) 64 (7 + 6 * n + 5) (nI 0) 64) := by rw [ud_same]; exact k1.updF (by omega) (Or.inl rfl) (by rw [← ud_same, f2]; exact w.rk.ij)
  revert f2 k2
  have hoff : ∀ c, c ≠ 64 → ud (ud Y 64 (7 + 6 * n + 4) (nI 0)) 64 (7 + 6 * n + 5) (nI 0) c = X c := fun c hc => by rw [ud_ne hc, ud_ne hc]; exact w.off hc
  have hhi : ∀ k, 125 ≤ k → ud (ud Y 64 (7 + 6 * n + 4) (nI 0)) 64 (7 + 6 * n + 5) (nI 0) 64 k = X 64 k := fun k hk => by rw [ud_same, u1_ne (by omega), ud_same, u1_ne (by omega)]; exact w.2.2.2 k hk
  have hV2 : ud (ud Y 64 (7 + 6 * n + 4) (nI 0)) 64 (7 + 6 * n + 5) (nI 0) 64 2 = nI n := by rw [ud_same, u1_ne (by omega), ud_same, u1_ne (by omega)]; exact hY2
  have hVD : ud (ud Y 64 (7 + 6 * n + 4) (nI 0)) 64 (7 + 6 * n + 5) (nI 0) 64 (11 + 6 * n) = nI 0 := by rw [ud_same, u1_ne (by omega), ud_same, show 11 + 6 * n = 7 + 6 * n + 4 by omega, u1_same]
  have hVW : ud (ud Y 64 (7 + 6 * n + 4) (nI 0)) 64 (7 + 6 * n + 5) (nI 0) 64 (12 + 6 * n) = nI 0 := by rw [ud_same, show 12 + 6 * n = 7 + 6 * n + 5 by omega, u1_same]
  clear f1 k1
  revert hoff hhi hV2 hVD hVW
  generalize ud (ud Y 64 (7 + 6 * n + 4) (nI 0)) 64 (7 + 6 * n + 5) (nI 0) = V
  intro hoff hhi hV2 hVD hVW f2 k2
  have f3 : jm (ud V 64 2 (nI (n + 1)) 64) = ud (jm (V 64)) 0 1 (nI (n + 1)) := jm_uN h8 hV2 hVD hVW (fun q hq => by rw [ud_same, u1_ne hq]) (by rw [ud_same, u1_same])
  have fj : jm (ud V 64 2 (nI (n + 1)) 64) = jAdd (jm (X 64)) n km s nd := by
    rw [f3, f2, w.j]
    rfl
  refine ⟨fj, ?_, fun c hc => by rw [ud_ne hc]; exact hoff c hc, fun k hk => by rw [ud_same, u1_ne (by omega)]; exact hhi k hk⟩
  rw [ud_same]
  refine k2.upd (by omega) (fun i hi => ⟨by omega, by omega⟩) ?_
  rw [← ud_same, fj]
  subst hn
  exact hI.ij.add h8 h1 h2 h3
set_option maxRecDepth 100000 in
set_option maxHeartbeats 4000000 in
theorem l_rStep (d : Nat) (X Z : Nat → Nat → Int32) {T : Nat} (hI : RK T (X 64)) (km s nd : Int32) : EC (d + 3) 126 [.ref 63, .int km, .int s, .int nd] (Wd X Z) (fun r => if sStepOk (jm (X 64) 0 1) km s nd = true then (if jn (jm (X 64)) < 8 then RNJ (nI (jn (jm (X 64)))) (jAdd (jm (X 64)) (jn (jm (X 64))) km s nd) T X r else RI (sErr 4) (yErr X 4) r) else RI (sErr 1) (yErr X 1) r) := by
  obtain ⟨n, hn⟩ : ∃ n, jn (jm (X 64)) = n := ⟨_, rfl⟩
  have hJ : jm (X 64) 0 1 = nI n := by rw [← hn]; exact hI.ij.n.1
  have hn8 : n ≤ 8 := by rw [← hn]; exact jn8 hI.ij
  have hX2 : X 64 2 = nI n := hJ
  rw [hn]
  refine er_enter (L := [(0, _), (1, _), (2, _), (3, _)]) rfl rfl rfl ?_
  refine er_loc (pc' := 1) rfl rfl rfl ?_
  refine er_gf (pc' := 4) (_) rfl rfl rfl rfl rfl ?_
  refine er_k (pc' := 5) (nI 2) rfl rfl rfl ?_
  refine er_ia (pc' := 6) (2) rfl rfl rfl rfl (by omega) rfl rfl ?_
  rw [hX2]
  refine er_loc (pc' := 8) (L' := [(4, _), (0, _), (1, _), (2, _), (3, _)]) rfl rfl rfl ?_
  refine er_loc (pc' := 9) rfl rfl rfl ?_
  refine er_cSi (pc' := 12) (rest := []) rfl rfl rfl (l_isKm _ _ _) ?_
  refine er_if_eqb (pc' := 15) rfl rfl (fun h12 => ?_) (fun h12 => ?_)
  · refine er_loc (pc' := 40) rfl rfl rfl ?_
    refine er_ldc (pc' := 42) (-1000000001) rfl rfl rfl rfl rfl ?_
    refine er_cIz (pc' := 45) (rest := []) 12 rfl rfl rfl rfl rfl rfl (l_rError1 _ _ _) ?_
    intro Z9
    refine er_iret rfl rfl ?_
    have e : sStepOk (jm (X 64) 0 1) km s nd = false := by unfold sStepOk; rw [hJ]; simp_all
    rw [e, if_neg (by decide)]
    exact RI_of rfl rfl
  · refine er_loc (pc' := 16) rfl rfl rfl ?_
    refine er_k (pc' := 17) (nI 0) rfl rfl rfl ?_
    refine er_k (pc' := 19) (nI 9) rfl rfl rfl ?_
    refine er_cSi (pc' := 22) (rest := []) rfl rfl rfl (l_in _ _ _ _ _) ?_
    refine er_if_eqb (pc' := 25) rfl rfl (fun h22 => ?_) (fun h22 => ?_)
    · refine er_loc (pc' := 40) rfl rfl rfl ?_
      refine er_ldc (pc' := 42) (-1000000001) rfl rfl rfl rfl rfl ?_
      refine er_cIz (pc' := 45) (rest := []) 12 rfl rfl rfl rfl rfl rfl (l_rError1 _ _ _) ?_
      intro Z9
      refine er_iret rfl rfl ?_
      have e : sStepOk (jm (X 64) 0 1) km s nd = false := by unfold sStepOk; rw [hJ]; simp_all
      rw [e, if_neg (by decide)]
      exact RI_of rfl rfl
    · refine er_loc (pc' := 26) rfl rfl rfl ?_
      refine er_k (pc' := 27) (nI 0) rfl rfl rfl ?_
      refine er_k (pc' := 28) (nI 1) rfl rfl rfl ?_
      refine er_loc (pc' := 30) rfl rfl rfl ?_
      refine er_ishl (pc' := 31) rfl rfl ?_
      refine er_k (pc' := 32) (nI 1) rfl rfl rfl ?_
      refine er_isub (pc' := 33) rfl rfl ?_
      refine er_cSi (pc' := 36) (rest := []) rfl rfl rfl (l_in _ _ _ _ _) ?_
      refine er_if_neb (pc' := 39) rfl rfl (fun h36 => ?_) (fun h36 => ?_)
      · refine er_loc (pc' := 48) rfl rfl rfl ?_
        refine er_k (pc' := 50) (nI 8) rfl rfl rfl ?_
        refine er_cm_ne (pc' := 53) rfl rfl (fun h50 => ?_) (fun h50 => ?_)
        · have h8 : n < 8 := by
            rcases Nat.lt_or_ge n 8 with h | h
            · exact h
            · exact absurd (show nI n = nI 8 by rw [show n = 8 by omega]) h50
          refine er_loc (pc' := 61) rfl rfl rfl ?_
          refine er_gf (pc' := 64) (_) rfl rfl rfl rfl rfl ?_
          refine er_k (pc' := 65) (nI 2) rfl rfl rfl ?_
          refine er_pure (pc' := 66) rfl rfl rfl ?_
          refine er_ia (pc' := 67) (2) rfl rfl rfl rfl (by omega) rfl rfl ?_
          rw [hX2]
          refine er_k (pc' := 68) (nI 1) rfl rfl rfl ?_
          refine er_iadd (pc' := 69) rfl rfl ?_
          rw [nI_add n 1]
          refine er_isX (pc' := 70) (2) rfl rfl (fun _ => rfl) rfl (by omega) rfl rfl ?_
          refine er_loc (pc' := 71) rfl rfl rfl ?_
          refine er_loc (pc' := 73) rfl rfl rfl ?_
          refine er_k (pc' := 74) (nI 0) rfl rfl rfl ?_
          refine er_loc (pc' := 75) rfl rfl rfl ?_
          refine er_k (pc' := 77) (nI 10) rfl rfl rfl ?_
          refine er_idiv (pc' := 78) rfl rfl (by decide) ?_
          refine er_cIv (pc' := 81) (rest := []) 12 rfl rfl rfl rfl rfl rfl (l_rLets _ _ _ (show n < 8 by omega) (show 0 < 6 by omega) _) ?_
          intro Z7
          refine er_loc (pc' := 82) rfl rfl rfl ?_
          refine er_loc (pc' := 84) rfl rfl rfl ?_
          refine er_k (pc' := 85) (nI 1) rfl rfl rfl ?_
          refine er_loc (pc' := 86) rfl rfl rfl ?_
          refine er_k (pc' := 88) (nI 10) rfl rfl rfl ?_
          refine er_irem (pc' := 89) rfl rfl (by decide) ?_
          refine er_cIv (pc' := 92) (rest := []) 12 rfl rfl rfl rfl rfl rfl (l_rLets _ _ _ (show n < 8 by omega) (show 1 < 6 by omega) _) ?_
          intro Z7
          refine er_loc (pc' := 93) rfl rfl rfl ?_
          refine er_loc (pc' := 95) rfl rfl rfl ?_
          refine er_k (pc' := 96) (nI 2) rfl rfl rfl ?_
          refine er_loc (pc' := 97) rfl rfl rfl ?_
          refine er_cIv (pc' := 100) (rest := []) 12 rfl rfl rfl rfl rfl rfl (l_rLets _ _ _ (show n < 8 by omega) (show 2 < 6 by omega) _) ?_
          intro Z7
          refine er_loc (pc' := 101) rfl rfl rfl ?_
          refine er_loc (pc' := 103) rfl rfl rfl ?_
          refine er_k (pc' := 104) (nI 3) rfl rfl rfl ?_
          refine er_loc (pc' := 105) rfl rfl rfl ?_
          refine er_cIv (pc' := 108) (rest := []) 12 rfl rfl rfl rfl rfl rfl (l_rLets _ _ _ (show n < 8 by omega) (show 3 < 6 by omega) _) ?_
          intro Z7
          refine er_loc (pc' := 109) rfl rfl rfl ?_
          refine er_loc (pc' := 111) rfl rfl rfl ?_
          refine er_k (pc' := 112) (nI 4) rfl rfl rfl ?_
          refine er_k (pc' := 113) (nI 0) rfl rfl rfl ?_
          refine er_cIv (pc' := 116) (rest := []) 12 rfl rfl rfl rfl rfl rfl (l_rLets _ _ _ (show n < 8 by omega) (show 4 < 6 by omega) _) ?_
          intro Z7
          refine er_loc (pc' := 117) rfl rfl rfl ?_
          refine er_loc (pc' := 119) rfl rfl rfl ?_
          refine er_k (pc' := 120) (nI 5) rfl rfl rfl ?_
          refine er_k (pc' := 121) (nI 0) rfl rfl rfl ?_
          refine er_cIv (pc' := 124) (rest := []) 12 rfl rfl rfl rfl rfl rfl (l_rLets _ _ _ (show n < 8 by omega) (show 5 < 6 by omega) _) ?_
          intro Z7
          refine er_loc (pc' := 126) rfl rfl rfl ?_
          refine er_iret rfl rfl ?_
          have e : sStepOk (jm (X 64) 0 1) km s nd = true := by unfold sStepOk; rw [hJ, h12, h22, h36]; rfl
          rw [if_pos e, if_pos h8]
          exact RNJ_of rfl (step_WJ hI hn h8 h12 h22 h36)
        · have h8n : n = 8 := nIj (by omega) (by omega) h50
          refine er_loc (pc' := 54) rfl rfl rfl ?_
          refine er_ldc (pc' := 56) (-1000000004) rfl rfl rfl rfl rfl ?_
          refine er_cIz (pc' := 59) (rest := []) 12 rfl rfl rfl rfl rfl rfl (l_rError4 _ _ _) ?_
          intro Z9
          refine er_iret rfl rfl ?_
          have e : sStepOk (jm (X 64) 0 1) km s nd = true := by unfold sStepOk; rw [hJ, h12, h22, h36]; rfl
          rw [if_pos e, if_neg (show ¬ n < 8 by omega)]
          exact RI_of rfl rfl
      · refine er_loc (pc' := 40) rfl rfl rfl ?_
        refine er_ldc (pc' := 42) (-1000000001) rfl rfl rfl rfl rfl ?_
        refine er_cIz (pc' := 45) (rest := []) 12 rfl rfl rfl rfl rfl rfl (l_rError1 _ _ _) ?_
        intro Z9
        refine er_iret rfl rfl ?_
        have e : sStepOk (jm (X 64) 0 1) km s nd = false := by unfold sStepOk; rw [hJ]; simp_all
        rw [e, if_neg (by decide)]
        exact RI_of rfl rfl
end
section
/-! BOTH SIDES: what holds between them -/
def CRl (b c r : Int32) : Prop := c = sLow r b ∧ r = yLow r b
def SR (X : Nat → Nat → Int32) (a : Nat) : Prop := sBits (X 60 a) = true ∧ X 76 a = X 60 a ∧ (∃ g, g ≤ 40 ∧ X 59 a = nI g ∧ X 77 a = nI g) ∧ ∀ k, k < 40 → CRl (X 60 a) (X (55 + a) k) (X 78 (40 * a + k))
def TRc (X : Nat → Nat → Int32) : Prop := ∃ g, g ≤ 40 ∧ X 51 1 = nI g ∧ X 63 21 = nI g ∧ ∀ k, k < g → X 52 k = X 75 k
def Rel (X : Nat → Nat → Int32) : Prop := RK 99999 (X 64) ∧ jx X 9 = jm (X 64) ∧ IJ 99999 (jx X 22) ∧ (X 0 4 = 0 ∨ (RK 99999 (X 65) ∧ jx X 22 = jm (X 65))) ∧ X 0 4 = X 63 3 ∧ TRc X ∧ ∀ a, a < 4 → SR X a
section REL
variable {X X1 X2 Z : Nat → Nat → Int32}
theorem Rel.rk (h : Rel X) : RK 99999 (X 64) := h.1
theorem Rel.j (h : Rel X) : jx X 9 = jm (X 64) := h.2.1
theorem Rel.ij (h : Rel X) : IJ 99999 (jx X 9) := by rw [h.j]; exact h.rk.ij
theorem Rel.rk1 (h : Rel X) (e : X1 64 = X 64) : RK 99999 (X1 64) := by rw [e]; exact h.rk
theorem Rel.j1 (h : Rel X) (e : X1 64 = X 64) : jm (X1 64) = jx X 9 := by rw [e]; exact h.j.symm
theorem Rel.im (h : Rel X) : IJ 99999 (jx X 22) := h.2.2.1
theorem Rel.has (_ : Rel X) (s : Int32) : xHas X s = jHas (jx X 9) s := rfl
end REL
def XS (X X1 J : Nat → Nat → Int32) : Prop := jx X1 9 = J ∧ (∀ c, 22 ≤ c → c ≤ 34 → X1 c = X c) ∧ X1 0 4 = X 0 4 ∧ ∀ c, 51 ≤ c → c ≠ 53 → c ≠ 61 → c ≠ 62 → X1 c = X c
def MS (X X2 J : Nat → Nat → Int32) : Prop := jm (X2 64) = J ∧ RK 99999 (X2 64) ∧ OM X X2
def XP (v : Int32) (J X : Nat → Nat → Int32) : ab_R → Prop := fun r => ∃ X1 Z1, r = (some (.int v), Wd X1 Z1) ∧ XS X X1 J
def MP (v : Int32) (J X : Nat → Nat → Int32) : ab_R → Prop := fun r => ∃ X2 Z2, r = (some (.int v), Wd X2 Z2) ∧ MS X X2 J
def PAIR (X Z : Nat → Nat → Int32) (j1 j2 : Nat) (as : List Value) (c : Bool) : Prop := EC 200 j1 (.ref 0 :: as) (Wd X Z) (fun r => ∃ v X1 Z1, r = (some (.int v), Wd X1 Z1) ∧ EC 200 j2 (.ref 63 :: as) (Wd X1 Z1) (fun r2 => ∃ v2 X2 Z2, r2 = (some (.int v2), Wd X2 Z2) ∧ Rel X2 ∧ (c = true → v = v2)))
section XSS
variable {X X1 X2 Z J J' : Nat → Nat → Int32} {v : Int32} {k : Nat} {r : ab_R}
theorem XS.rf (hJ : jx X 9 = J) : XS X X J := ⟨hJ, fun _ _ _ => rfl, rfl, fun _ _ _ _ _ => rfl⟩
theorem XS.err (h : XS X X1 J) : XS X (xErr X1 k) J := by
  refine ⟨?_, fun c h1 h2 => ?_, ?_, fun c h1 h2 h3 h4 => ?_⟩
  · rw [← h.1]
    exact jx_off (fun c _ hc => by unfold xErr; rw [ud_ne (by omega)])
  · unfold xErr; rw [ud_ne (by omega)]; exact h.2.1 c h1 h2
  · unfold xErr; rw [ud_ne (by omega)]; exact h.2.2.1
  · unfold xErr; rw [ud_ne h2]; exact h.2.2.2 c h1 h2 h3 h4
theorem XS.o9 (h : O9 X X1) (hJ : jx X1 9 = J) : XS X X1 J := ⟨hJ, fun c h1 h2 => h c (by omega), by rw [h 0 (by omega)], fun c h1 _ _ _ => h c (by omega)⟩
theorem XS.ot (h : OT X X1) (hJ : jx X 9 = J) : XS X X1 J := ⟨by rw [h.j9]; exact hJ, fun c h1 h2 => h c (by omega), by rw [h 0 (by omega)], fun c h1 _ _ _ => h c (by omega)⟩
theorem XS.op (h : OP X X1) (hJ : jx X 9 = J) : XS X X1 J := ⟨by rw [← hJ]; exact jx_off (fun c h1 h2 => h c (by omega) (by omega) (by omega)), fun c h1 h2 => h c (by omega) (by omega) (by omega), by rw [h 0 (by omega) (by omega) (by omega)], fun c h1 h2 h3 h4 => h c (by omega) h3 h4⟩
theorem XP_ri (hJ : jx X 9 = J) (h : RI v X r) : XP v J X r := by
  obtain ⟨Z', rfl⟩ := h
  exact ⟨X, Z', rfl, XS.rf hJ⟩
theorem XP_er (hJ : jx X 9 = J) (h : RI v (xErr X k) r) : XP v J X r := by
  obtain ⟨Z', rfl⟩ := h
  exact ⟨_, Z', rfl, (XS.rf hJ).err⟩
theorem XP_r9 (ho : O9 X X1) (hJ : jx X1 9 = J) (h : RI v X1 r) : XP v J X r := by
  obtain ⟨Z', rfl⟩ := h
  exact ⟨_, Z', rfl, XS.o9 ho hJ⟩
theorem XP_ro (hJ : jx X 9 = J) (h : RO v X r) : XP v J X r := by
  obtain ⟨X', Z', rfl, h1⟩ := h
  exact ⟨_, Z', rfl, XS.ot h1 hJ⟩
theorem XP_rj (h : RJ v J X r) : XP v J X r := by
  obtain ⟨X', Z', rfl, h1, h2⟩ := h
  exact ⟨_, Z', rfl, XS.o9 h2 h1⟩
theorem XP_rt (h : RT v 9 22 X r) (hJ : jx X 22 = J) : XP v J X r := by
  obtain ⟨X', Z', rfl, h1, h2⟩ := h
  exact ⟨_, Z', rfl, XS.o9 h2 (h1.trans hJ)⟩
theorem MS.rf (h : RK 99999 (X 64)) (hJ : jm (X 64) = J) : MS X X J := ⟨hJ, h, OM.rf X⟩
theorem MS.err (h : MS X X1 J) : MS X (yErr X1 k) J := ⟨by unfold yErr; rw [ud_ne (by omega)]; exact h.1, by unfold yErr; rw [ud_ne (by omega)]; exact h.2.1, h.2.2.err⟩
theorem OM.o64 (h : ∀ c, c ≠ 64 → X1 c = X c) : OM X X1 := ⟨fun c _ h2 _ _ _ _ _ => h c h2, by rw [h 63 (by omega)], by rw [h 63 (by omega)]⟩
theorem MP_ri (hI : RK 99999 (X 64)) (hJ : jm (X 64) = J) (h : RI v X r) : MP v J X r := by
  obtain ⟨Z', rfl⟩ := h
  exact ⟨X, Z', rfl, MS.rf hI hJ⟩
theorem MP_er (hI : RK 99999 (X 64)) (hJ : jm (X 64) = J) (h : RI v (yErr X k) r) : MP v J X r := by
  obtain ⟨Z', rfl⟩ := h
  exact ⟨_, Z', rfl, (MS.rf hI hJ).err⟩
theorem MP_nj (h : RNJ v J 99999 X r) : MP v J X r := by
  obtain ⟨X', Z', rfl, h1⟩ := h
  exact ⟨_, Z', rfl, h1.1, h1.2.1, OM.o64 h1.2.2.1⟩
theorem RK.cap {R : Nat → Int32} {T : Nat} (h : RK T R) (hm : isN (R 0) 99999) : RK 99999 R := ⟨⟨h.1.n, h.1.kind, h.1.m, h.1.sc, h.1.needs, h.1.done, h.1.wrong, h.1.hands, h.1.bag, hm, h.1.tl, h.1.te, h.1.fed, h.1.waits, h.1.tape⟩, h.2.1, h.2.2.1, h.2.2.2⟩
theorem MP_cap {T : Nat} (hm : isN (J 0 10) 99999) (h : RNJ v J T X r) : MP v J X r := by
  obtain ⟨X', Z', rfl, h1⟩ := h
  refine ⟨_, Z', rfl, h1.1, h1.2.1.cap ?_, OM.o64 h1.2.2.1⟩
  have e : X' 64 0 = J 0 10 := by rw [← h1.1]; rfl
  rw [e]
  exact hm
theorem MP_nt (h : RNT v J 99999 X r) : MP v J X r := by
  obtain ⟨X', Z', rfl, h1, h2, h3⟩ := h
  exact ⟨_, Z', rfl, h1, h2, OM.o64 h3⟩
theorem MP_r6 (hI : RK 99999 (X 64)) (hJ : jm (X 64) = J) (h : R6 v X r) : MP v J X r := by
  obtain ⟨X', Z', rfl, h1⟩ := h
  have e := h1 64 (by omega)
  exact ⟨_, Z', rfl, by rw [e]; exact hJ, by rw [e]; exact hI, fun c _ _ h3 _ _ _ _ => h1 c h3, by rw [h1 63 (by omega)], by rw [h1 63 (by omega)]⟩
theorem MP_oq (hI : RK 99999 (X 64)) (hJ : jm (X 64) = J) (h : ROQ v X r) : MP v J X r := by
  obtain ⟨X', Z', rfl, h1⟩ := h
  exact ⟨_, Z', rfl, by rw [h1.2.1]; exact hJ, by rw [h1.2.1]; exact hI, h1.1, h1.2.2 3 (by omega), h1.2.2 21 (by omega)⟩
theorem SR.keep {a : Nat} (h : SR X a) (ha : a < 4) (h1 : ∀ c, 55 ≤ c → c ≤ 60 → X2 c = X c) (h2 : ∀ c, 76 ≤ c → c ≤ 78 → X2 c = X c) : SR X2 a := by
  unfold SR
  rw [h1 60 (by omega) (by omega), h1 59 (by omega) (by omega), h1 (55 + a) (by omega) (by omega), h2 76 (by omega) (by omega), h2 77 (by omega) (by omega), h2 78 (by omega) (by omega)]
  exact h
theorem rel_keep (h : Rel X) (h1 : XS X X1 J) (h2 : MS X1 X2 J) : Rel X2 := by
  obtain ⟨a1, a2, a3, a4⟩ := h1
  obtain ⟨b1, b2, b3, b4, b5⟩ := h2
  have hb : ∀ c, c ≤ 62 → X2 c = X1 c := fun c hc => b3 c (by omega) (by omega) (by omega) (by omega) (by omega) (by omega) (by omega)
  have h9 : jx X2 9 = J := by rw [← a1]; exact jx_off (fun c _ hc => hb c (by omega))
  have h22 : jx X2 22 = jx X 22 := jx_off (fun c h1 h2 => by rw [hb c (by omega)]; exact a2 c h1 (by omega))
  have h04 : X2 0 4 = X 0 4 := by rw [hb 0 (by omega)]; exact a3
  have h65 : X2 65 = X 65 := by rw [b3 65 (by omega) (by omega) (by omega) (by omega) (by omega) (by omega) (by omega)]; exact a4 65 (by omega) (by omega) (by omega) (by omega)
  have h63 : X1 63 = X 63 := a4 63 (by omega) (by omega) (by omega) (by omega)
  refine ⟨b2, h9.trans b1.symm, by rw [h22]; exact h.im, ?_, ?_, ?_, ?_⟩
  · rw [h04, h65, h22]; exact h.2.2.2.1
  · rw [h04, b4, h63]; exact h.2.2.2.2.1
  · obtain ⟨g, g1, g2, g3, g4⟩ := h.2.2.2.2.2.1
    refine ⟨g, g1, ?_, ?_, fun k hk => ?_⟩
    · rw [hb 51 (by omega), a4 51 (by omega) (by omega) (by omega) (by omega)]; exact g2
    · rw [b5, h63]; exact g3
    · rw [hb 52 (by omega), a4 52 (by omega) (by omega) (by omega) (by omega), b3 75 (by omega) (by omega) (by omega) (by omega) (by omega) (by omega) (by omega), a4 75 (by omega) (by omega) (by omega) (by omega)]
      exact g4 k hk
  · intro a ha
    refine (h.2.2.2.2.2.2 a ha).keep ha (fun c c1 c2 => ?_) (fun c c1 c2 => ?_)
    · rw [hb c (by omega)]; exact a4 c (by omega) (by omega) (by omega) (by omega)
    · rw [b3 c (by omega) (by omega) (by omega) (by omega) (by omega) (by omega) (by omega)]; exact a4 c (by omega) (by omega) (by omega) (by omega)
theorem mk_pair {j1 j2 : Nat} {as : List Value} {v2 : Int32} {c : Bool} (h : Rel X) (h1 : EC 200 j1 (.ref 0 :: as) (Wd X Z) (XP v J X)) (h2 : ∀ X1 Z1, (∀ c, 63 ≤ c → X1 c = X c) → EC 200 j2 (.ref 63 :: as) (Wd X1 Z1) (MP v2 J X1)) (hv : c = true → v = v2) : PAIR X Z j1 j2 as c := by
  refine h1.mono (fun r hr => ?_)
  obtain ⟨X1, Z1, rfl, hx⟩ := hr
  refine ⟨v, X1, Z1, rfl, (h2 X1 Z1 (fun c hc => hx.2.2.2 c (by omega) (by omega) (by omega) (by omega))).mono (fun r2 hr2 => ?_)⟩
  obtain ⟨X2, Z2, rfl, hm⟩ := hr2
  exact ⟨v2, X2, Z2, rfl, rel_keep h hx hm, hv⟩
end XSS
theorem qL_tp {f g : PS → PT} {tp tp' : Nat → Int32} {e rk : Nat} (hp : ∀ p, pk tp e p = pk tp' e p) (hfg : ∀ s, f s = g s) : ∀ (m : Nat) (s : PS), qL f tp e rk m s = qL g tp' e rk m s
  | 0, s => rfl
  | m + 1, s => by
    unfold qL
    rw [hp, hfg]
    split
    · cases g (s.1 + 1, s.2) with
      | inl x => rfl
      | inr s' => exact qL_tp hp hfg m _
    · rfl
theorem pNum_tp {tp tp' : Nat → Int32} {e : Nat} (hp : ∀ p, pk tp e p = pk tp' e p) : ∀ (m p : Nat) (v : Int32), pNum tp e m p v = pNum tp' e m p v
  | 0, _, _ => rfl
  | m + 1, p, v => by
    unfold pNum
    rw [hp, pNum_tp hp m]
theorem qq_tp {tp tp' : Nat → Int32} {e u : Nat} (hp : ∀ p, pk tp e p = pk tp' e p) : ∀ (F rk op : Nat) (s : PS), qq tp e u F rk op s = qq tp' e u F rk op s
  | 0, rk, op, s => (show qq tp e u 0 rk op s = .inl s.1 from rfl).trans (show (.inl s.1 : PT) = qq tp' e u 0 rk op s from rfl)
  | F + 1, rk, op, s => by
    have ih := qq_tp (u := u) hp F
    by_cases c : rk < 5
    · rw [qq_R c, qq_R c]
      unfold qR
      rw [ih]
      cases qq tp' e u F (rk + 1) op s with
      | inl x => rfl
      | inr s' => exact qL_tp hp (fun s => ih (rk + 1) op s) _ _
    · have e1 : ∀ t, qq t e u (F + 1) rk op s = qP t e u (qq t e u F) op s := fun t => if_neg c
      rw [e1, e1]
      unfold qP
      rw [hp, pNum_tp hp, ih, ih]
      simp only [hp]
def VA (t t' : VT) : Prop := t.1 = t'.1 ∧ ∀ k, k < t.1 → t.2 k = t'.2 k
theorem VA.bgs {t t' : VT} (h : VA t t') (b : Int32) : VA (bg t b) (bg t' b) := by
  unfold bg
  rw [← h.1]
  by_cases c : t.1 < 40
  · rw [if_pos c, if_pos c]
    refine ⟨rfl, fun k hk => ?_⟩
    show u1 t.2 t.1 b k = u1 t'.2 t.1 b k
    rw [u1_at, u1_at]
    split
    · rfl
    · exact h.2 k (by have : k < t.1 + 1 := hk; omega)
  · rw [if_neg c, if_neg c]
    exact h
def VQ (a b : Int32 × VT) : Prop := a.1 = b.1 ∧ VA a.2 b.2
section VAS
variable {t t' : VT} {q : Nat} {n m x : Int32}
theorem VA.pf (h : VA t t') : VQ (vPF n x t) (vPF n x t') := ⟨rfl, h.bgs _⟩
theorem VA.fits (h : VA t t') : VQ (vFits q n x t) (vFits q n x t') := by
  unfold vFits
  split
  · exact ⟨rfl, (h.bgs _).bgs _⟩
  · exact h.pf
theorem VA.pe (h : VA t t') : VQ (vPE q n x t) (vPE q n x t') := by
  have g := (h.bgs (nI 11)).fits (q := q) (n := n) (x := x)
  exact ⟨congrArg (· * nI 2) g.1, g.2⟩
theorem VA.pl (h : VA t t') : VQ (vPL m x t) (vPL m x t') := ⟨rfl, h.bgs _⟩
theorem VA.hl (h : VA t t') : VQ (vHL m x t) (vHL m x t') := ⟨rfl, (h.bgs _).bgs _⟩
theorem VA.looks (h : VA t t') : VQ (vLooks q n m x t) (vLooks q n m x t') := by
  unfold vLooks
  split
  · exact h.hl
  · split
    · exact ⟨rfl, ((h.bgs _).bgs _).bgs _⟩
    · exact h.pl
theorem VA.ge (h : VA t t') : VQ (vGE q n m x t) (vGE q n m x t') := by
  have g := (h.bgs (nI 30)).pe (q := q) (n := n) (x := x)
  have g2 := g.2.looks (q := q) (n := n) (m := m) (x := nI 1)
  exact ⟨by unfold vGE; dsimp only; rw [g.1, g2.1], g2.2⟩
theorem VA.errs (h : VA t t') : VQ (vErrs q n m x t) (vErrs q n m x t') := by
  unfold vErrs
  split
  · exact h.ge
  · split
    · exact (h.bgs _).ge
    · exact h.pe
theorem VA.pu (h : VA t t') : VQ (vPU q n m x t) (vPU q n m x t') := by
  have g := (h.bgs (nI 13)).errs (q := q) (n := n) (m := m) (x := x)
  have g2 := g.2.looks (q := q) (n := n) (m := m) (x := x)
  exact ⟨by unfold vPU; dsimp only; rw [g.1, g2.1], g2.2⟩
theorem VA.undoes (h : VA t t') : VQ (vUndoes q n m x t) (vUndoes q n m x t') := by
  unfold vUndoes
  split
  · have g := (h.bgs (nI 50)).pu (q := q) (n := n) (m := m) (x := x)
    have g2 := g.2.fits (q := q) (n := n) (x := nI 2)
    exact ⟨by dsimp only; rw [g.1, g2.1], g2.2⟩
  · split
    · have g := (h.bgs (nI 71)).errs (q := q) (n := n) (m := m) (x := x)
      have g2 := g.2.pu (q := q) (n := n) (m := m) (x := x)
      exact ⟨by dsimp only; rw [g.1, g2.1], g2.2⟩
    · exact h.pu
theorem VA.voice (h : VA t t') {k : Nat} {w : Int32} : VQ (sVoice q k m w x t) (sVoice q k m w x t') := by
  unfold sVoice
  split
  · exact h.fits
  · split
    · exact h.errs
    · split
      · exact h.looks
      · exact h.undoes
theorem sVoice_le {k : Nat} {w : Int32} (h : t.1 ≤ 40) : (sVoice q k m w x t).2.1 ≤ 40 := by
  unfold sVoice
  split
  · exact vFits_le h
  · split
    · exact vErrs_le h
    · split
      · exact vLooks_le h
      · exact vUndoes_le h
end VAS
end
section
/-! THE FACE: refused calls, the rest -/
set_option maxRecDepth 100000 in
set_option maxHeartbeats 4000000 in
theorem l_goBack_no (d : Nat) (X Z : Nat → Nat → Int32) (s w : Int32) (hs : xHas X s = false) : EC (d + 3) 99 [.ref 0, .int s, .int w] (Wd X Z) (RI (sErr 1) (xErr X 1)) := by
  refine er_enter (L := [(0, _), (1, _), (2, _)]) rfl rfl rfl ?_
  refine er_loc (pc' := 1) rfl rfl rfl ?_
  refine er_gf (pc' := 4) (_) rfl rfl rfl rfl rfl ?_
  refine er_loc (pc' := 5) rfl rfl rfl ?_
  refine er_cIi (pc' := 8) (rest := []) 7 rfl rfl rfl rfl rfl rfl (l_has_no _ _ _ j9 _ hs) ?_
  refine er_if_eqT rfl (by decide +kernel) ?_
  refine er_loc (pc' := 21) rfl rfl rfl ?_
  refine er_k (pc' := 22) (nI 1) rfl rfl rfl ?_
  refine er_cIz (pc' := 25) (rest := []) 11 rfl rfl rfl rfl rfl rfl (l_error _ _ _ 1 (by decide)) ?_
  intro Z9
  refine er_iret rfl rfl ?_
  exact RI_of rfl rfl
set_option maxRecDepth 100000 in
set_option maxHeartbeats 4000000 in
theorem l_odds_no (d : Nat) (X Z : Nat → Nat → Int32) (s w : Int32) (hs : xHas X s = false) : EC (d + 3) 108 [.ref 0, .int s, .int w] (Wd X Z) (RI (sErr 1) (xErr X 1)) := by
  refine er_enter (L := [(0, _), (1, _), (2, _)]) rfl rfl rfl ?_
  refine er_loc (pc' := 1) rfl rfl rfl ?_
  refine er_gf (pc' := 4) (_) rfl rfl rfl rfl rfl ?_
  refine er_loc (pc' := 5) rfl rfl rfl ?_
  refine er_cIi (pc' := 8) (rest := []) 7 rfl rfl rfl rfl rfl rfl (l_has_no _ _ _ j9 _ hs) ?_
  refine er_if_eqT rfl (by decide +kernel) ?_
  refine er_loc (pc' := 21) rfl rfl rfl ?_
  refine er_k (pc' := 22) (nI 1) rfl rfl rfl ?_
  refine er_cIz (pc' := 25) (rest := []) 11 rfl rfl rfl rfl rfl rfl (l_error _ _ _ 1 (by decide)) ?_
  intro Z9
  refine er_iret rfl rfl ?_
  exact RI_of rfl rfl
set_option maxRecDepth 100000 in
set_option maxHeartbeats 4000000 in
theorem l_voice_no (d : Nat) (X Z : Nat → Nat → Int32) (s w x : Int32) (hs : xHas X s = false) : EC (d + 3) 110 [.ref 0, .int s, .int w, .int x] (Wd X Z) (RI (sErr 1) (xErr X 1)) := by
  refine er_enter (L := [(0, _), (1, _), (2, _), (3, _)]) rfl rfl rfl ?_
  refine er_loc (pc' := 1) rfl rfl rfl ?_
  refine er_gf (pc' := 4) (_) rfl rfl rfl rfl rfl ?_
  refine er_loc (pc' := 5) rfl rfl rfl ?_
  refine er_cIi (pc' := 8) (rest := []) 7 rfl rfl rfl rfl rfl rfl (l_has_no _ _ _ j9 _ hs) ?_
  refine er_if_eqT rfl (by decide +kernel) ?_
  refine er_loc (pc' := 21) rfl rfl rfl ?_
  refine er_k (pc' := 22) (nI 1) rfl rfl rfl ?_
  refine er_cIz (pc' := 25) (rest := []) 11 rfl rfl rfl rfl rfl rfl (l_error _ _ _ 1 (by decide)) ?_
  intro Z9
  refine er_iret rfl rfl ?_
  exact RI_of rfl rfl
set_option maxRecDepth 100000 in
set_option maxHeartbeats 4000000 in
theorem l_screws_no (d : Nat) (X Z : Nat → Nat → Int32) (s : Int32) (hs : sIn s (nI 0) (nI 3) = false) : EC (d + 3) 117 [.ref 0, .int s] (Wd X Z) (RI (sErr 1) (xErr X 1)) := by
  refine er_enter (L := [(0, _), (1, _)]) rfl rfl rfl ?_
  refine er_loc (pc' := 1) rfl rfl rfl ?_
  refine er_cSi (pc' := 4) (rest := []) rfl rfl rfl (l_xSheet _ _ _) ?_
  rw [hs]
  refine er_if_neF (pc' := 7) rfl (by decide +kernel) rfl ?_
  refine er_loc (pc' := 8) rfl rfl rfl ?_
  refine er_k (pc' := 9) (nI 1) rfl rfl rfl ?_
  refine er_cIz (pc' := 12) (rest := []) 11 rfl rfl rfl rfl rfl rfl (l_error _ _ _ 1 (by decide)) ?_
  intro Z9
  refine er_iret rfl rfl ?_
  exact RI_of rfl rfl
set_option maxRecDepth 100000 in
set_option maxHeartbeats 4000000 in
theorem l_judge_no (d : Nat) (X Z : Nat → Nat → Int32) (s : Int32) (hs : sIn s (nI 0) (nI 3) = false) : EC (d + 3) 118 [.ref 0, .int s] (Wd X Z) (RI (sErr 1) (xErr X 1)) := by
  refine er_enter (L := [(0, _), (1, _)]) rfl rfl rfl ?_
  refine er_loc (pc' := 1) rfl rfl rfl ?_
  refine er_cSi (pc' := 4) (rest := []) rfl rfl rfl (l_xSheet _ _ _) ?_
  rw [hs]
  refine er_if_neF (pc' := 7) rfl (by decide +kernel) rfl ?_
  refine er_loc (pc' := 8) rfl rfl rfl ?_
  refine er_k (pc' := 9) (nI 1) rfl rfl rfl ?_
  refine er_cIz (pc' := 12) (rest := []) 11 rfl rfl rfl rfl rfl rfl (l_error _ _ _ 1 (by decide)) ?_
  intro Z9
  refine er_iret rfl rfl ?_
  exact RI_of rfl rfl
end
section
/-! BOTH SIDES, call by call -/
theorem E64 {X X1 : Nat → Nat → Int32} (h : ∀ c, 63 ≤ c → X1 c = X c) : X1 64 = X 64 := h 64 (by omega)
theorem p_step {X Z : Nat → Nat → Int32} (h : Rel X) (km s nd : Int32) : PAIR X Z 75 126 [.int km, .int s, .int nd] true := by
  by_cases c1 : sStepOk (jx X 9 0 1) km s nd = true
  · by_cases c2 : jn (jx X 9) < 8
    · exact mk_pair h (J := (jAdd (jx X 9) (jn (jx X 9)) km s nd)) (v := (nI (jn (jx X 9)))) (v2 := (nI (jn (jx X 9)))) ((EC.up (l_step 0 X Z h.ij km s nd) (by omega)).mono (fun r hr => by
          rw [if_pos c1, if_pos c2] at hr
          exact XP_r9 (fun c hc => by unfold xAdd; rw [ud_ne (by omega), ud_ne (by omega), ud_ne (by omega), ud_ne (by omega), ud_ne (by omega)]) (jx_xAdd c2) hr)) (fun X1 Z1 hx => (EC.up (l_rStep 0 X1 Z1 (h.rk1 (E64 hx)) km s nd) (by omega)).mono (fun r hr => by
          rw [h.j1 (E64 hx)] at hr
          rw [if_pos c1, if_pos c2] at hr
          exact MP_nj hr)) (fun _ => rfl)
    · exact mk_pair h (J := (jx X 9)) (v := (sErr 4)) (v2 := (sErr 4)) ((EC.up (l_step 0 X Z h.ij km s nd) (by omega)).mono (fun r hr => by
          rw [if_pos c1, if_neg c2] at hr
          exact XP_er rfl hr)) (fun X1 Z1 hx => (EC.up (l_rStep 0 X1 Z1 (h.rk1 (E64 hx)) km s nd) (by omega)).mono (fun r hr => by
          rw [h.j1 (E64 hx)] at hr
          rw [if_pos c1, if_neg c2] at hr
          exact MP_er (h.rk1 (E64 hx)) (h.j1 (E64 hx)) hr)) (fun _ => rfl)
  · exact mk_pair h (J := (jx X 9)) (v := (sErr 1)) (v2 := (sErr 1)) ((EC.up (l_step 0 X Z h.ij km s nd) (by omega)).mono (fun r hr => by
        rw [if_neg c1] at hr
        exact XP_er rfl hr)) (fun X1 Z1 hx => (EC.up (l_rStep 0 X1 Z1 (h.rk1 (E64 hx)) km s nd) (by omega)).mono (fun r hr => by
        rw [h.j1 (E64 hx)] at hr
        rw [if_neg c1] at hr
        exact MP_er (h.rk1 (E64 hx)) (h.j1 (E64 hx)) hr)) (fun _ => rfl)
theorem p_ofStep {X Z : Nat → Nat → Int32} (h : Rel X) (s w : Int32) : PAIR X Z 78 131 [.int s, .int w] true := by
  by_cases cs : jHas (jx X 9) s = true
  · obtain ⟨k, hk, rfl⟩ := xHas_k h.ij (show xHas X s = true from cs)
    have hk1 : ∀ X1 : Nat → Nat → Int32, X1 64 = X 64 → k < jn (jm (X1 64)) := fun X1 e => by rw [h.j1 e]; exact hk
    by_cases c1 : sIn w (nI 0) (nI 9) = true
    · exact mk_pair h (J := (jx X 9)) (v := (sOf (jx X 9) k w)) (v2 := (sOf (jx X 9) k w)) ((EC.up (l_ofStep 0 X Z h.ij hk w) (by omega)).mono (fun r hr => by
          rw [if_pos c1] at hr
          exact XP_ri rfl hr)) (fun X1 Z1 hx => (EC.up (l_rOfStep 0 X1 Z1 (h.rk1 (E64 hx)) (by omega) (hk1 X1 (E64 hx)) w) (by omega)).mono (fun r hr => by
          rw [h.j1 (E64 hx)] at hr
          rw [if_pos c1] at hr
          exact MP_ri (h.rk1 (E64 hx)) (h.j1 (E64 hx)) hr)) (fun _ => rfl)
    · exact mk_pair h (J := (jx X 9)) (v := (sErr 1)) (v2 := (sErr 1)) ((EC.up (l_ofStep 0 X Z h.ij hk w) (by omega)).mono (fun r hr => by
          rw [if_neg c1] at hr
          exact XP_er rfl hr)) (fun X1 Z1 hx => (EC.up (l_rOfStep 0 X1 Z1 (h.rk1 (E64 hx)) (by omega) (hk1 X1 (E64 hx)) w) (by omega)).mono (fun r hr => by
          rw [h.j1 (E64 hx)] at hr
          rw [if_neg c1] at hr
          exact MP_er (h.rk1 (E64 hx)) (h.j1 (E64 hx)) hr)) (fun _ => rfl)
  · have cs2 : jHas (jx X 9) s = false := by simpa using cs
    exact mk_pair h (J := (jx X 9)) (v := sErr 1) (v2 := sErr 1) ((EC.up (l_ofStep_no 0 X Z s w (show xHas X s = false from cs2)) (by omega)).mono (fun r hr => by
        exact XP_er rfl hr)) (fun X1 Z1 hx => (EC.up (l_rOfStep_no 0 X1 Z1 (h.rk1 (E64 hx)) s w (by rw [h.j1 (E64 hx)]; exact cs2)) (by omega)).mono (fun r hr => by
        exact MP_er (h.rk1 (E64 hx)) (h.j1 (E64 hx)) hr)) (fun _ => rfl)
theorem p_change {X Z : Nat → Nat → Int32} (h : Rel X) (s w v : Int32) : PAIR X Z 80 146 [.int s, .int w, .int v] true := by
  by_cases cs : jHas (jx X 9) s = true
  · obtain ⟨k, hk, rfl⟩ := xHas_k h.ij (show xHas X s = true from cs)
    have hk1 : ∀ X1 : Nat → Nat → Int32, X1 64 = X 64 → k < jn (jm (X1 64)) := fun X1 e => by rw [h.j1 e]; exact hk
    have hk8 : k < 8 := Nat.lt_of_lt_of_le hk (jn8 h.ij)
    by_cases c1 : sIn v (nI 0) (sMost k w) = true
    · by_cases c2 : w = 0
      · exact mk_pair h (J := (ud (jx X 9) 3 k v)) (v := (jx X 9 3 k)) (v2 := (jx X 9 3 k)) ((EC.up (l_change 0 X Z h.ij hk w v) (by omega)).mono (fun r hr => by
            rw [if_pos c1, if_pos c2] at hr
            exact XP_r9 (fun c hc => ud_ne (by omega)) (jx_ud3 hk8) hr)) (fun X1 Z1 hx => (EC.up (l_rChange 0 X1 Z1 (h.rk1 (E64 hx)) (hk1 X1 (E64 hx)) w v) (by omega)).mono (fun r hr => by
            rw [h.j1 (E64 hx)] at hr
            rw [if_pos c1, if_pos c2] at hr
            exact MP_nj hr)) (fun _ => rfl)
      · by_cases c3 : w = nI 1
        · exact mk_pair h (J := (ud (jx X 9) 4 k v)) (v := (jx X 9 4 k)) (v2 := (jx X 9 4 k)) ((EC.up (l_change 0 X Z h.ij hk w v) (by omega)).mono (fun r hr => by
              rw [if_pos c1, if_neg c2, if_pos c3] at hr
              exact XP_r9 (fun c hc => ud_ne (by omega)) (jx_ud4 hk8) hr)) (fun X1 Z1 hx => (EC.up (l_rChange 0 X1 Z1 (h.rk1 (E64 hx)) (hk1 X1 (E64 hx)) w v) (by omega)).mono (fun r hr => by
              rw [h.j1 (E64 hx)] at hr
              rw [if_pos c1, if_neg c2, if_pos c3] at hr
              exact MP_nj hr)) (fun _ => rfl)
        · by_cases c4 : sDone (jx X 9) k = true
          · exact mk_pair h (J := (ud (jx X 9) 0 7 (sWith (jx X 9 0 7) (nI k) (decide (v = nI 1))))) (v := (bI (sBit (jx X 9 0 7) (nI k)))) (v2 := (bI (sBit (jx X 9 0 7) (nI k)))) ((EC.up (l_change 0 X Z h.ij hk w v) (by omega)).mono (fun r hr => by
                rw [if_pos c1, if_neg c2, if_neg c3, if_pos (show sBit (jx X 9 0 6) (nI k) = true from c4)] at hr
                exact XP_r9 (fun c hc => ud_ne (by omega)) (jx_ud0 (b := 9) rfl) hr)) (fun X1 Z1 hx => (EC.up (l_rChange 0 X1 Z1 (h.rk1 (E64 hx)) (hk1 X1 (E64 hx)) w v) (by omega)).mono (fun r hr => by
                rw [h.j1 (E64 hx)] at hr
                rw [if_pos c1, if_neg c2, if_neg c3, if_pos c4] at hr
                exact MP_nj hr)) (fun _ => rfl)
          · exact mk_pair h (J := (jx X 9)) (v := (sErr 3)) (v2 := (sErr 3)) ((EC.up (l_change 0 X Z h.ij hk w v) (by omega)).mono (fun r hr => by
                rw [if_pos c1, if_neg c2, if_neg c3, if_neg (show ¬ sBit (jx X 9 0 6) (nI k) = true from c4)] at hr
                exact XP_er rfl hr)) (fun X1 Z1 hx => (EC.up (l_rChange 0 X1 Z1 (h.rk1 (E64 hx)) (hk1 X1 (E64 hx)) w v) (by omega)).mono (fun r hr => by
                rw [h.j1 (E64 hx)] at hr
                rw [if_pos c1, if_neg c2, if_neg c3, if_neg c4] at hr
                exact MP_er (h.rk1 (E64 hx)) (h.j1 (E64 hx)) hr)) (fun _ => rfl)
    · exact mk_pair h (J := (jx X 9)) (v := (sErr 1)) (v2 := (sErr 1)) ((EC.up (l_change 0 X Z h.ij hk w v) (by omega)).mono (fun r hr => by
          rw [if_neg c1] at hr
          exact XP_er rfl hr)) (fun X1 Z1 hx => (EC.up (l_rChange 0 X1 Z1 (h.rk1 (E64 hx)) (hk1 X1 (E64 hx)) w v) (by omega)).mono (fun r hr => by
          rw [h.j1 (E64 hx)] at hr
          rw [if_neg c1] at hr
          exact MP_er (h.rk1 (E64 hx)) (h.j1 (E64 hx)) hr)) (fun _ => rfl)
  · have cs2 : jHas (jx X 9) s = false := by simpa using cs
    exact mk_pair h (J := (jx X 9)) (v := sErr 1) (v2 := sErr 1) ((EC.up (l_change_no 0 X Z s w v (show xHas X s = false from cs2)) (by omega)).mono (fun r hr => by
        exact XP_er rfl hr)) (fun X1 Z1 hx => (EC.up (l_rChange_no 0 X1 Z1 (h.rk1 (E64 hx)) s w v (by rw [h.j1 (E64 hx)]; exact cs2)) (by omega)).mono (fun r hr => by
        exact MP_er (h.rk1 (E64 hx)) (h.j1 (E64 hx)) hr)) (fun _ => rfl)
theorem p_set {X Z : Nat → Nat → Int32} (h : Rel X) (w v : Int32) : PAIR X Z 83 148 [.int w, .int v] true := by
  by_cases c1 : w = 0 ∧ sIn v (nI 1) (nI 2) = true
  · exact mk_pair h (J := (ud (jx X 9) 0 8 v)) (v := (jx X 9 0 8)) (v2 := (jx X 9 0 8)) ((EC.up (l_set 0 X Z h.ij w v) (by omega)).mono (fun r hr => by
        rw [if_pos c1] at hr
        exact XP_r9 (fun c hc => ud_ne (by omega)) (jx_ud0 (b := 9) rfl) hr)) (fun X1 Z1 hx => (EC.up (l_rSet 0 X1 Z1 (h.rk1 (E64 hx)) w v) (by omega)).mono (fun r hr => by
        rw [if_pos c1] at hr
        rw [show X1 64 3 = jm (X1 64) 0 8 from rfl, h.j1 (E64 hx)] at hr
        exact MP_nj hr)) (fun _ => rfl)
  · by_cases c2 : w = nI 1 ∧ sIn v (nI 0) (nI 999) = true
    · exact mk_pair h (J := (ud (jx X 9) 0 9 v)) (v := (jx X 9 0 9)) (v2 := (jx X 9 0 9)) ((EC.up (l_set 0 X Z h.ij w v) (by omega)).mono (fun r hr => by
          rw [if_neg c1, if_pos c2] at hr
          exact XP_r9 (fun c hc => ud_ne (by omega)) (jx_ud0 (b := 9) rfl) hr)) (fun X1 Z1 hx => (EC.up (l_rSet 0 X1 Z1 (h.rk1 (E64 hx)) w v) (by omega)).mono (fun r hr => by
          rw [if_neg c1, if_pos c2] at hr
          rw [show X1 64 4 = jm (X1 64) 0 9 from rfl, h.j1 (E64 hx)] at hr
          exact MP_nj hr)) (fun _ => rfl)
    · by_cases c3 : w = nI 2 ∧ sIn v (nI 0) 99999 = true
      · exact mk_pair h (J := (ud (jx X 9) 0 10 v)) (v := (jx X 9 0 10)) (v2 := (jx X 9 0 10)) ((EC.up (l_set 0 X Z h.ij w v) (by omega)).mono (fun r hr => by
            rw [if_neg c1, if_neg c2, if_pos c3] at hr
            exact XP_r9 (fun c hc => ud_ne (by omega)) (jx_ud0 (b := 9) rfl) hr)) (fun X1 Z1 hx => (EC.up (l_rSet 0 X1 Z1 (h.rk1 (E64 hx)) w v) (by omega)).mono (fun r hr => by
            rw [if_neg c1, if_neg c2, if_pos c3] at hr
            rw [show X1 64 0 = jm (X1 64) 0 10 from rfl, h.j1 (E64 hx)] at hr
            exact MP_nj hr)) (fun _ => rfl)
      · exact mk_pair h (J := (jx X 9)) (v := (sErr 1)) (v2 := (sErr 1)) ((EC.up (l_set 0 X Z h.ij w v) (by omega)).mono (fun r hr => by
            rw [if_neg c1, if_neg c2, if_neg c3] at hr
            exact XP_er rfl hr)) (fun X1 Z1 hx => (EC.up (l_rSet 0 X1 Z1 (h.rk1 (E64 hx)) w v) (by omega)).mono (fun r hr => by
            rw [if_neg c1, if_neg c2, if_neg c3] at hr
            exact MP_er (h.rk1 (E64 hx)) (h.j1 (E64 hx)) hr)) (fun _ => rfl)
theorem p_become {X Z : Nat → Nat → Int32} (h : Rel X) (s km : Int32) : PAIR X Z 84 149 [.int s, .int km] true := by
  by_cases cs : jHas (jx X 9) s = true
  · obtain ⟨k, hk, rfl⟩ := xHas_k h.ij (show xHas X s = true from cs)
    have hk1 : ∀ X1 : Nat → Nat → Int32, X1 64 = X 64 → k < jn (jm (X1 64)) := fun X1 e => by rw [h.j1 e]; exact hk
    have hk8 : k < 8 := Nat.lt_of_lt_of_le hk (jn8 h.ij)
    by_cases c1 : sIn km (nI 0) (nI 69) = true
    · exact mk_pair h (J := (ud (ud (jx X 9) 1 k (km / nI 10)) 2 k (km - km / nI 10 * nI 10))) (v := (jx X 9 1 k)) (v2 := (jx X 9 1 k)) ((EC.up (l_become 0 X Z h.ij hk km) (by omega)).mono (fun r hr => by
          rw [if_pos c1] at hr
          exact XP_r9 (fun c hc => by rw [ud_ne (by omega), ud_ne (by omega)]) (by rw [jx_ud2 hk8, jx_ud1 hk8]) hr)) (fun X1 Z1 hx => (EC.up (l_rBecome 0 X1 Z1 (h.rk1 (E64 hx)) (hk1 X1 (E64 hx)) km) (by omega)).mono (fun r hr => by
          rw [h.j1 (E64 hx)] at hr
          rw [if_pos c1] at hr
          exact MP_nj hr)) (fun _ => rfl)
    · exact mk_pair h (J := (jx X 9)) (v := (sErr 1)) (v2 := (sErr 1)) ((EC.up (l_become 0 X Z h.ij hk km) (by omega)).mono (fun r hr => by
          rw [if_neg c1] at hr
          exact XP_er rfl hr)) (fun X1 Z1 hx => (EC.up (l_rBecome 0 X1 Z1 (h.rk1 (E64 hx)) (hk1 X1 (E64 hx)) km) (by omega)).mono (fun r hr => by
          rw [h.j1 (E64 hx)] at hr
          rw [if_neg c1] at hr
          exact MP_er (h.rk1 (E64 hx)) (h.j1 (E64 hx)) hr)) (fun _ => rfl)
  · have cs2 : jHas (jx X 9) s = false := by simpa using cs
    exact mk_pair h (J := (jx X 9)) (v := sErr 1) (v2 := sErr 1) ((EC.up (l_become_no 0 X Z s km (show xHas X s = false from cs2)) (by omega)).mono (fun r hr => by
        exact XP_er rfl hr)) (fun X1 Z1 hx => (EC.up (l_rBecome_no 0 X1 Z1 (h.rk1 (E64 hx)) s km (by rw [h.j1 (E64 hx)]; exact cs2)) (by omega)).mono (fun r hr => by
        exact MP_er (h.rk1 (E64 hx)) (h.j1 (E64 hx)) hr)) (fun _ => rfl)
theorem p_as {X Z : Nat → Nat → Int32} (h : Rel X) (s w : Int32) : PAIR X Z 85 150 [.int s, .int w] true := by
  by_cases cs : jHas (jx X 9) s = true
  · obtain ⟨k, hk, rfl⟩ := xHas_k h.ij (show xHas X s = true from cs)
    have hk1 : ∀ X1 : Nat → Nat → Int32, X1 64 = X 64 → k < jn (jm (X1 64)) := fun X1 e => by rw [h.j1 e]; exact hk
    by_cases c1 : sIn w (nI 0) (nI 6) = true
    · by_cases c2 : sIsOf (sKind (jx X 9) k) w = true
      · exact mk_pair h (J := (jx X 9)) (v := (jx X 9 2 k)) (v2 := (jx X 9 2 k)) ((EC.up (l_as 0 X Z h.ij hk w) (by omega)).mono (fun r hr => by
            rw [if_pos c1, if_pos c2] at hr
            exact XP_ri rfl hr)) (fun X1 Z1 hx => (EC.up (l_rAs 0 X1 Z1 (h.rk1 (E64 hx)) (hk1 X1 (E64 hx)) w) (by omega)).mono (fun r hr => by
            rw [h.j1 (E64 hx)] at hr
            rw [if_pos c1, if_pos c2] at hr
            exact MP_ri (h.rk1 (E64 hx)) (h.j1 (E64 hx)) hr)) (fun _ => rfl)
      · exact mk_pair h (J := (jx X 9)) (v := (sErr 5)) (v2 := (sErr 5)) ((EC.up (l_as 0 X Z h.ij hk w) (by omega)).mono (fun r hr => by
            rw [if_pos c1, if_neg c2] at hr
            exact XP_er rfl hr)) (fun X1 Z1 hx => (EC.up (l_rAs 0 X1 Z1 (h.rk1 (E64 hx)) (hk1 X1 (E64 hx)) w) (by omega)).mono (fun r hr => by
            rw [h.j1 (E64 hx)] at hr
            rw [if_pos c1, if_neg c2] at hr
            exact MP_er (h.rk1 (E64 hx)) (h.j1 (E64 hx)) hr)) (fun _ => rfl)
    · exact mk_pair h (J := (jx X 9)) (v := (sErr 1)) (v2 := (sErr 1)) ((EC.up (l_as 0 X Z h.ij hk w) (by omega)).mono (fun r hr => by
          rw [if_neg c1] at hr
          exact XP_er rfl hr)) (fun X1 Z1 hx => (EC.up (l_rAs 0 X1 Z1 (h.rk1 (E64 hx)) (hk1 X1 (E64 hx)) w) (by omega)).mono (fun r hr => by
          rw [h.j1 (E64 hx)] at hr
          rw [if_neg c1] at hr
          exact MP_er (h.rk1 (E64 hx)) (h.j1 (E64 hx)) hr)) (fun _ => rfl)
  · have cs2 : jHas (jx X 9) s = false := by simpa using cs
    exact mk_pair h (J := (jx X 9)) (v := sErr 1) (v2 := sErr 1) ((EC.up (l_as_no 0 X Z s w (show xHas X s = false from cs2)) (by omega)).mono (fun r hr => by
        exact XP_er rfl hr)) (fun X1 Z1 hx => (EC.up (l_rAs_no 0 X1 Z1 (h.rk1 (E64 hx)) s w (by rw [h.j1 (E64 hx)]; exact cs2)) (by omega)).mono (fun r hr => by
        exact MP_er (h.rk1 (E64 hx)) (h.j1 (E64 hx)) hr)) (fun _ => rfl)
theorem p_feed {X Z : Nat → Nat → Int32} (h : Rel X) (w : Int64) (n : Int32) : PAIR X Z 87 151 [.long w, .int n] true := by
  obtain ⟨f, h50, hf⟩ : ∃ f, f ≤ 50 ∧ X 9 14 = nI f := ⟨_, h.ij.fed.2, h.ij.fed.1⟩
  have hf1 : ∀ X1 : Nat → Nat → Int32, (∀ c, 63 ≤ c → X1 c = X c) → X1 64 5 = nI f := fun X1 hx => by rw [show X1 64 5 = jm (X1 64) 0 14 from rfl, h.j1 (E64 hx)]; exact hf
  by_cases c1 : sIn n (nI 1) (nI 8) = true
  · by_cases c2 : f + nN n ≤ 50
    · exact mk_pair h (J := (jFeed (jx X 9) w f (nN n))) (v := (nI (f + nN n))) (v2 := (nI (f + nN n))) ((EC.up (l_feed 0 X Z hf h50 w n) (by omega)).mono (fun r hr => by
          rw [if_pos c1, if_pos c2] at hr
          exact XP_r9 xFeed_off (jx_xFeed c2) hr)) (fun X1 Z1 hx => (EC.up (l_rFeed 0 X1 Z1 (h.rk1 (E64 hx)) (hf1 X1 hx) h50 w n) (by omega)).mono (fun r hr => by
          rw [h.j1 (E64 hx)] at hr
          rw [if_pos c1, if_pos c2] at hr
          exact MP_nj hr)) (fun _ => rfl)
    · exact mk_pair h (J := (jx X 9)) (v := (sErr 4)) (v2 := (sErr 4)) ((EC.up (l_feed 0 X Z hf h50 w n) (by omega)).mono (fun r hr => by
          rw [if_pos c1, if_neg c2] at hr
          exact XP_er rfl hr)) (fun X1 Z1 hx => (EC.up (l_rFeed 0 X1 Z1 (h.rk1 (E64 hx)) (hf1 X1 hx) h50 w n) (by omega)).mono (fun r hr => by
          rw [h.j1 (E64 hx)] at hr
          rw [if_pos c1, if_neg c2] at hr
          exact MP_er (h.rk1 (E64 hx)) (h.j1 (E64 hx)) hr)) (fun _ => rfl)
  · exact mk_pair h (J := (jx X 9)) (v := (sErr 1)) (v2 := (sErr 1)) ((EC.up (l_feed 0 X Z hf h50 w n) (by omega)).mono (fun r hr => by
        rw [if_neg c1] at hr
        exact XP_er rfl hr)) (fun X1 Z1 hx => (EC.up (l_rFeed 0 X1 Z1 (h.rk1 (E64 hx)) (hf1 X1 hx) h50 w n) (by omega)).mono (fun r hr => by
        rw [h.j1 (E64 hx)] at hr
        rw [if_neg c1] at hr
        exact MP_er (h.rk1 (E64 hx)) (h.j1 (E64 hx)) hr)) (fun _ => rfl)
theorem p_law {X Z : Nat → Nat → Int32} (h : Rel X) (u p q r0 : Int32) : PAIR X Z 90 164 [.int u, .int p, .int q, .int r0] true := by
  by_cases c1 : sUse u = true
  · by_cases c2 : u = 0
    · exact mk_pair h (J := (jx X 9)) (v := (sLastsBy (jx X 9) p q r0)) (v2 := (sLastsBy (jx X 9) p q r0)) ((EC.up (l_law 0 X Z h.ij u p q r0) (by omega)).mono (fun r hr => by
          rw [if_pos c1, if_pos c2] at hr
          exact XP_ri rfl hr)) (fun X1 Z1 hx => (EC.up (l_rLaw 0 X1 Z1 (h.rk1 (E64 hx)) u p q r0) (by omega)).mono (fun r hr => by
          rw [h.j1 (E64 hx)] at hr
          rw [if_pos c1, if_pos c2] at hr
          exact MP_ri (h.rk1 (E64 hx)) (h.j1 (E64 hx)) hr)) (fun _ => rfl)
    · exact mk_pair h (J := (jx X 9)) (v := (sErrsBy (jx X 9) p q r0)) (v2 := (sErrsBy (jx X 9) p q r0)) ((EC.up (l_law 0 X Z h.ij u p q r0) (by omega)).mono (fun r hr => by
          rw [if_pos c1, if_neg c2] at hr
          exact XP_ri rfl hr)) (fun X1 Z1 hx => (EC.up (l_rLaw 0 X1 Z1 (h.rk1 (E64 hx)) u p q r0) (by omega)).mono (fun r hr => by
          rw [h.j1 (E64 hx)] at hr
          rw [if_pos c1, if_neg c2] at hr
          exact MP_ri (h.rk1 (E64 hx)) (h.j1 (E64 hx)) hr)) (fun _ => rfl)
  · exact mk_pair h (J := (jx X 9)) (v := (sErr 1)) (v2 := (sErr 1)) ((EC.up (l_law 0 X Z h.ij u p q r0) (by omega)).mono (fun r hr => by
        rw [if_neg c1] at hr
        exact XP_er rfl hr)) (fun X1 Z1 hx => (EC.up (l_rLaw 0 X1 Z1 (h.rk1 (E64 hx)) u p q r0) (by omega)).mono (fun r hr => by
        rw [h.j1 (E64 hx)] at hr
        rw [if_neg c1] at hr
        exact MP_er (h.rk1 (E64 hx)) (h.j1 (E64 hx)) hr)) (fun _ => rfl)
theorem lasts_cap {J : Nat → Nat → Int32} (h : IJ 99999 J) {k : Nat} {l : Int32} (hl : isN l 300) (hc : ¬ 99999 < J 0 10 + l) : isN (J 0 10 + l) 99999 := by
  obtain ⟨m1, m2⟩ := h.minute
  obtain ⟨l1, l2⟩ := hl
  rw [m1, l1, nI_add] at hc ⊢
  refine isN.of ?_ (by omega)
  rcases Nat.lt_or_ge 99999 (nN (J 0 10) + nN l) with h9 | h9
  · exact absurd (nI_lt h9 (by omega)) hc
  · exact h9
theorem can_m {J : Nat → Nat → Int32} (h : IJ 99999 J) {k : Nat} (hc : sCan J k = true) : sMayDo J k = true ∧ isN (jFin J k 0 10) 99999 := by
  unfold sCan at hc
  simp only [Bool.and_eq_true, Bool.not_eq_true', decide_eq_false_iff_not] at hc
  exact ⟨hc.1, lasts_cap (k := k) h (lasts300 h k) hc.2⟩
theorem canU_m {J : Nat → Nat → Int32} (h : IJ 99999 J) {k : Nat} (hc : sCanU J k = true) : sMayUn J k = true ∧ isN (jApart J k 0 10) 99999 := by
  unfold sCanU at hc
  simp only [Bool.and_eq_true, Bool.not_eq_true', decide_eq_false_iff_not] at hc
  exact ⟨hc.1, lasts_cap (k := k) h (back300 h k) hc.2⟩
theorem p_does {X Z : Nat → Nat → Int32} (h : Rel X) (s : Int32) : PAIR X Z 91 165 [.int s] true := by
  by_cases cs : jHas (jx X 9) s = true
  · obtain ⟨k, hk, rfl⟩ := xHas_k h.ij (show xHas X s = true from cs)
    have hk1 : ∀ X1 : Nat → Nat → Int32, X1 64 = X 64 → k < jn (jm (X1 64)) := fun X1 e => by rw [h.j1 e]; exact hk
    have hk8 : k < 8 := Nat.lt_of_lt_of_le hk (jn8 h.ij)
    by_cases c1 : sCan (jx X 9) k = true
    · have hm := (can_m h.ij c1).2
      exact mk_pair h (J := (jFin (jx X 9) k)) (v := (bI (sBit (jFin (jx X 9) k 0 7) (nI k)))) (v2 := (bI (sBit (jFin (jx X 9) k 0 7) (nI k)))) ((EC.up (l_does 0 X Z h.ij hk) (by omega)).mono (fun r hr => by
          rw [if_pos c1] at hr
          exact XP_r9 (fun c hc => xFin_off (by omega)) (jx_xFin hk8) hr)) (fun X1 Z1 hx => (EC.up (l_rDoes 0 X1 Z1 (h.rk1 (E64 hx)) (by omega) (hk1 X1 (E64 hx))) (by omega)).mono (fun r hr => by
          rw [h.j1 (E64 hx)] at hr
          rw [if_pos c1] at hr
          exact MP_cap hm hr)) (fun _ => rfl)
    · exact mk_pair h (J := (jx X 9)) (v := (sErr 3)) (v2 := (sErr 3)) ((EC.up (l_does 0 X Z h.ij hk) (by omega)).mono (fun r hr => by
          rw [if_neg c1] at hr
          exact XP_er rfl hr)) (fun X1 Z1 hx => (EC.up (l_rDoes 0 X1 Z1 (h.rk1 (E64 hx)) (by omega) (hk1 X1 (E64 hx))) (by omega)).mono (fun r hr => by
          rw [h.j1 (E64 hx)] at hr
          rw [if_neg c1] at hr
          exact MP_er (h.rk1 (E64 hx)) (h.j1 (E64 hx)) hr)) (fun _ => rfl)
  · have cs2 : jHas (jx X 9) s = false := by simpa using cs
    exact mk_pair h (J := (jx X 9)) (v := sErr 1) (v2 := sErr 1) ((EC.up (l_does_no 0 X Z s (show xHas X s = false from cs2)) (by omega)).mono (fun r hr => by
        exact XP_er rfl hr)) (fun X1 Z1 hx => (EC.up (l_rDoes_no 0 X1 Z1 (h.rk1 (E64 hx)) s (by rw [h.j1 (E64 hx)]; exact cs2)) (by omega)).mono (fun r hr => by
        exact MP_er (h.rk1 (E64 hx)) (h.j1 (E64 hx)) hr)) (fun _ => rfl)
theorem p_undo {X Z : Nat → Nat → Int32} (h : Rel X) (s : Int32) : PAIR X Z 92 168 [.int s] true := by
  by_cases cs : jHas (jx X 9) s = true
  · obtain ⟨k, hk, rfl⟩ := xHas_k h.ij (show xHas X s = true from cs)
    have hk1 : ∀ X1 : Nat → Nat → Int32, X1 64 = X 64 → k < jn (jm (X1 64)) := fun X1 e => by rw [h.j1 e]; exact hk
    have hk8 : k < 8 := Nat.lt_of_lt_of_le hk (jn8 h.ij)
    by_cases c1 : sCanU (jx X 9) k = true
    · have hm := (canU_m h.ij c1).2
      exact mk_pair h (J := (jApart (jx X 9) k)) (v := (jApart (jx X 9) k 0 9)) (v2 := (jApart (jx X 9) k 0 9)) ((EC.up (l_undo 0 X Z h.ij hk) (by omega)).mono (fun r hr => by
          rw [if_pos c1] at hr
          exact XP_r9 (fun c hc => xApart_off (by omega)) (jx_xApart hk8) hr)) (fun X1 Z1 hx => (EC.up (l_rUndo 0 X1 Z1 (h.rk1 (E64 hx)) (by omega) (hk1 X1 (E64 hx))) (by omega)).mono (fun r hr => by
          rw [h.j1 (E64 hx)] at hr
          rw [if_pos c1] at hr
          exact MP_cap hm hr)) (fun _ => rfl)
    · exact mk_pair h (J := (jx X 9)) (v := (sErr 3)) (v2 := (sErr 3)) ((EC.up (l_undo 0 X Z h.ij hk) (by omega)).mono (fun r hr => by
          rw [if_neg c1] at hr
          exact XP_er rfl hr)) (fun X1 Z1 hx => (EC.up (l_rUndo 0 X1 Z1 (h.rk1 (E64 hx)) (by omega) (hk1 X1 (E64 hx))) (by omega)).mono (fun r hr => by
          rw [h.j1 (E64 hx)] at hr
          rw [if_neg c1] at hr
          exact MP_er (h.rk1 (E64 hx)) (h.j1 (E64 hx)) hr)) (fun _ => rfl)
  · have cs2 : jHas (jx X 9) s = false := by simpa using cs
    exact mk_pair h (J := (jx X 9)) (v := sErr 1) (v2 := sErr 1) ((EC.up (l_undo_no 0 X Z s (show xHas X s = false from cs2)) (by omega)).mono (fun r hr => by
        exact XP_er rfl hr)) (fun X1 Z1 hx => (EC.up (l_rUndo_no 0 X1 Z1 (h.rk1 (E64 hx)) s (by rw [h.j1 (E64 hx)]; exact cs2)) (by omega)).mono (fun r hr => by
        exact MP_er (h.rk1 (E64 hx)) (h.j1 (E64 hx)) hr)) (fun _ => rfl)
theorem p_next {X Z : Nat → Nat → Int32} (h : Rel X) (w : Int32) : PAIR X Z 94 173 [.int w] true := by
  by_cases c1 : sIn w (nI 0) (nI 1) = true
  · exact mk_pair h (J := (jx X 9)) (v := (sSetOf (sPn (jx X 9) w) (jn (jx X 9)))) (v2 := (sSetOf (sPn (jx X 9) w) (jn (jx X 9)))) ((EC.up (l_next 0 X Z h.ij w) (by omega)).mono (fun r hr => by
        rw [if_pos c1] at hr
        exact XP_ri rfl hr)) (fun X1 Z1 hx => (EC.up (l_rNext 0 X1 Z1 (h.rk1 (E64 hx)) w) (by omega)).mono (fun r hr => by
        rw [h.j1 (E64 hx)] at hr
        rw [if_pos c1] at hr
        exact MP_ri (h.rk1 (E64 hx)) (h.j1 (E64 hx)) hr)) (fun _ => rfl)
  · exact mk_pair h (J := (jx X 9)) (v := (sErr 1)) (v2 := (sErr 1)) ((EC.up (l_next 0 X Z h.ij w) (by omega)).mono (fun r hr => by
        rw [if_neg c1] at hr
        exact XP_er rfl hr)) (fun X1 Z1 hx => (EC.up (l_rNext 0 X1 Z1 (h.rk1 (E64 hx)) w) (by omega)).mono (fun r hr => by
        rw [h.j1 (E64 hx)] at hr
        rw [if_neg c1] at hr
        exact MP_er (h.rk1 (E64 hx)) (h.j1 (E64 hx)) hr)) (fun _ => rfl)
theorem p_all {X Z : Nat → Nat → Int32} (h : Rel X) (w : Int32) : PAIR X Z 95 175 [.int w] true := by
  by_cases c1 : sIn w (nI 0) (nI 2) = true
  · exact mk_pair h (J := (jx X 9)) (v := (sAll (jx X 9) w)) (v2 := (sAll (jx X 9) w)) ((EC.up (l_all 0 X Z h.ij (by omega) w) (by omega)).mono (fun r hr => by
        rw [if_pos c1] at hr
        exact XP_ro rfl hr)) (fun X1 Z1 hx => (EC.up (l_rAll 0 X1 Z1 (h.rk1 (E64 hx)) (by omega) w) (by omega)).mono (fun r hr => by
        rw [h.j1 (E64 hx)] at hr
        rw [if_pos c1] at hr
        exact MP_r6 (h.rk1 (E64 hx)) (h.j1 (E64 hx)) hr)) (fun _ => rfl)
  · exact mk_pair h (J := (jx X 9)) (v := (sErr 1)) (v2 := (sErr 1)) ((EC.up (l_all 0 X Z h.ij (by omega) w) (by omega)).mono (fun r hr => by
        rw [if_neg c1] at hr
        exact XP_er rfl hr)) (fun X1 Z1 hx => (EC.up (l_rAll 0 X1 Z1 (h.rk1 (E64 hx)) (by omega) w) (by omega)).mono (fun r hr => by
        rw [h.j1 (E64 hx)] at hr
        rw [if_neg c1] at hr
        exact MP_er (h.rk1 (E64 hx)) (h.j1 (E64 hx)) hr)) (fun _ => rfl)
theorem p_under {X Z : Nat → Nat → Int32} (h : Rel X) (s : Int32) : PAIR X Z 98 186 [.int s] true := by
  by_cases cs : jHas (jx X 9) s = true
  · obtain ⟨k, hk, rfl⟩ := xHas_k h.ij (show xHas X s = true from cs)
    have hk1 : ∀ X1 : Nat → Nat → Int32, X1 64 = X 64 → k < jn (jm (X1 64)) := fun X1 e => by rw [h.j1 e]; exact hk
    by_cases c1 : sDone (jx X 9) k = true
    · exact mk_pair h (J := (jx X 9)) (v := (sRest (jx X 9) k (jn (jx X 9)))) (v2 := (sRest (jx X 9) k (jn (jx X 9)))) ((EC.up (l_under 0 X Z h.ij hk) (by omega)).mono (fun r hr => by
          rw [if_pos c1] at hr
          exact XP_ri rfl hr)) (fun X1 Z1 hx => (EC.up (l_rUnder 0 X1 Z1 (h.rk1 (E64 hx)) (hk1 X1 (E64 hx))) (by omega)).mono (fun r hr => by
          rw [h.j1 (E64 hx)] at hr
          rw [if_pos c1] at hr
          exact MP_ri (h.rk1 (E64 hx)) (h.j1 (E64 hx)) hr)) (fun _ => rfl)
    · exact mk_pair h (J := (jx X 9)) (v := (sErr 3)) (v2 := (sErr 3)) ((EC.up (l_under 0 X Z h.ij hk) (by omega)).mono (fun r hr => by
          rw [if_neg c1] at hr
          exact XP_er rfl hr)) (fun X1 Z1 hx => (EC.up (l_rUnder 0 X1 Z1 (h.rk1 (E64 hx)) (hk1 X1 (E64 hx))) (by omega)).mono (fun r hr => by
          rw [h.j1 (E64 hx)] at hr
          rw [if_neg c1] at hr
          exact MP_er (h.rk1 (E64 hx)) (h.j1 (E64 hx)) hr)) (fun _ => rfl)
  · have cs2 : jHas (jx X 9) s = false := by simpa using cs
    exact mk_pair h (J := (jx X 9)) (v := sErr 1) (v2 := sErr 1) ((EC.up (l_under_no 0 X Z s (show xHas X s = false from cs2)) (by omega)).mono (fun r hr => by
        exact XP_er rfl hr)) (fun X1 Z1 hx => (EC.up (l_rUnder_no 0 X1 Z1 (h.rk1 (E64 hx)) s (by rw [h.j1 (E64 hx)]; exact cs2)) (by omega)).mono (fun r hr => by
        exact MP_er (h.rk1 (E64 hx)) (h.j1 (E64 hx)) hr)) (fun _ => rfl)
theorem p_goBack {X Z : Nat → Nat → Int32} (h : Rel X) (s w : Int32) : PAIR X Z 99 188 [.int s, .int w] true := by
  by_cases cs : jHas (jx X 9) s = true
  · obtain ⟨k, hk, rfl⟩ := xHas_k h.ij (show xHas X s = true from cs)
    have hk1 : ∀ X1 : Nat → Nat → Int32, X1 64 = X 64 → k < jn (jm (X1 64)) := fun X1 e => by rw [h.j1 e]; exact hk
    by_cases c1 : sIn w (nI 0) (nI 1) = true
    · by_cases c2 : sDone (jx X 9) k = true
      · by_cases c3 : w = 0
        · exact mk_pair h (J := (jx X 9)) (v := (sGoM (jx X 9) k)) (v2 := (sGoM (jx X 9) k)) ((EC.up (l_goBack 0 X Z h.ij hk (by omega) w) (by omega)).mono (fun r hr => by
              rw [if_pos c1, if_pos c2, if_pos c3] at hr
              exact XP_ro rfl hr)) (fun X1 Z1 hx => (EC.up (l_rGoBack 0 X1 Z1 (h.rk1 (E64 hx)) (hk1 X1 (E64 hx)) (by omega) w) (by omega)).mono (fun r hr => by
              rw [h.j1 (E64 hx)] at hr
              rw [if_pos c1, if_pos c2, if_pos c3] at hr
              exact MP_r6 (h.rk1 (E64 hx)) (h.j1 (E64 hx)) hr)) (fun _ => rfl)
        · exact mk_pair h (J := (jx X 9)) (v := (bI (sBlocked (jx X 9) k))) (v2 := (bI (sBlocked (jx X 9) k))) ((EC.up (l_goBack 0 X Z h.ij hk (by omega) w) (by omega)).mono (fun r hr => by
              rw [if_pos c1, if_pos c2, if_neg c3] at hr
              exact XP_ri rfl hr)) (fun X1 Z1 hx => (EC.up (l_rGoBack 0 X1 Z1 (h.rk1 (E64 hx)) (hk1 X1 (E64 hx)) (by omega) w) (by omega)).mono (fun r hr => by
              rw [h.j1 (E64 hx)] at hr
              rw [if_pos c1, if_pos c2, if_neg c3] at hr
              exact MP_ri (h.rk1 (E64 hx)) (h.j1 (E64 hx)) hr)) (fun _ => rfl)
      · exact mk_pair h (J := (jx X 9)) (v := (sErr 3)) (v2 := (sErr 3)) ((EC.up (l_goBack 0 X Z h.ij hk (by omega) w) (by omega)).mono (fun r hr => by
            rw [if_pos c1, if_neg c2] at hr
            exact XP_er rfl hr)) (fun X1 Z1 hx => (EC.up (l_rGoBack 0 X1 Z1 (h.rk1 (E64 hx)) (hk1 X1 (E64 hx)) (by omega) w) (by omega)).mono (fun r hr => by
            rw [h.j1 (E64 hx)] at hr
            rw [if_pos c1, if_neg c2] at hr
            exact MP_er (h.rk1 (E64 hx)) (h.j1 (E64 hx)) hr)) (fun _ => rfl)
    · exact mk_pair h (J := (jx X 9)) (v := (sErr 1)) (v2 := (sErr 1)) ((EC.up (l_goBack 0 X Z h.ij hk (by omega) w) (by omega)).mono (fun r hr => by
          rw [if_neg c1] at hr
          exact XP_er rfl hr)) (fun X1 Z1 hx => (EC.up (l_rGoBack 0 X1 Z1 (h.rk1 (E64 hx)) (hk1 X1 (E64 hx)) (by omega) w) (by omega)).mono (fun r hr => by
          rw [h.j1 (E64 hx)] at hr
          rw [if_neg c1] at hr
          exact MP_er (h.rk1 (E64 hx)) (h.j1 (E64 hx)) hr)) (fun _ => rfl)
  · have cs2 : jHas (jx X 9) s = false := by simpa using cs
    exact mk_pair h (J := (jx X 9)) (v := sErr 1) (v2 := sErr 1) ((EC.up (l_goBack_no 0 X Z s w (show xHas X s = false from cs2)) (by omega)).mono (fun r hr => by
        exact XP_er rfl hr)) (fun X1 Z1 hx => (EC.up (l_rGoBack_no 0 X1 Z1 (h.rk1 (E64 hx)) s w (by rw [h.j1 (E64 hx)]; exact cs2)) (by omega)).mono (fun r hr => by
        exact MP_er (h.rk1 (E64 hx)) (h.j1 (E64 hx)) hr)) (fun _ => rfl)
theorem p_left {X Z : Nat → Nat → Int32} (h : Rel X) : PAIR X Z 102 191 [] true := by
  exact mk_pair h (J := (jx X 9)) (v := (sLeft (jx X 9) (jn (jx X 9)))) (v2 := (sLeft (jx X 9) (jn (jx X 9)))) ((EC.up (l_left 0 X Z h.ij) (by omega)).mono (fun r hr => by
      exact XP_ri rfl hr)) (fun X1 Z1 hx => (EC.up (l_rLeft 0 X1 Z1 (h.rk1 (E64 hx))) (by omega)).mono (fun r hr => by
      rw [h.j1 (E64 hx)] at hr
      exact MP_ri (h.rk1 (E64 hx)) (h.j1 (E64 hx)) hr)) (fun _ => rfl)
theorem p_whose {X Z : Nat → Nat → Int32} (h : Rel X) (q w : Int32) : PAIR X Z 103 192 [.int q, .int w] true := by
  by_cases c1 : (sIn q (nI 0) (nI 99) && sIn w (nI 0) (nI 1)) = true
  · by_cases c2 : w = 0
    · exact mk_pair h (J := (jx X 9)) (v := (sWh (jx X 9) q).1) (v2 := (sWh (jx X 9) q).1) ((EC.up (l_whose 0 X Z h.ij q w) (by omega)).mono (fun r hr => by
          rw [if_pos c1] at hr
          unfold WhP at hr
          rw [if_pos c2] at hr
          exact XP_ri rfl hr)) (fun X1 Z1 hx => (EC.up (l_rWhose 0 X1 Z1 (h.rk1 (E64 hx)) q w) (by omega)).mono (fun r hr => by
          rw [h.j1 (E64 hx)] at hr
          rw [if_pos c1] at hr
          unfold WhM at hr
          rw [if_pos c2] at hr
          exact MP_ri (h.rk1 (E64 hx)) (h.j1 (E64 hx)) hr)) (fun _ => rfl)
    · by_cases c3 : (sWh (jx X 9) q).2 < 0
      · exact mk_pair h (J := (jx X 9)) (v := (sErr 2)) (v2 := (sErr 2)) ((EC.up (l_whose 0 X Z h.ij q w) (by omega)).mono (fun r hr => by
            rw [if_pos c1] at hr
            unfold WhP at hr
            rw [if_neg c2, if_pos c3] at hr
            exact XP_er rfl hr)) (fun X1 Z1 hx => (EC.up (l_rWhose 0 X1 Z1 (h.rk1 (E64 hx)) q w) (by omega)).mono (fun r hr => by
            rw [h.j1 (E64 hx)] at hr
            rw [if_pos c1] at hr
            unfold WhM at hr
            rw [if_neg c2, if_pos c3] at hr
            exact MP_er (h.rk1 (E64 hx)) (h.j1 (E64 hx)) hr)) (fun _ => rfl)
      · exact mk_pair h (J := (jx X 9)) (v := (sWh (jx X 9) q).2) (v2 := (sWh (jx X 9) q).2) ((EC.up (l_whose 0 X Z h.ij q w) (by omega)).mono (fun r hr => by
            rw [if_pos c1] at hr
            unfold WhP at hr
            rw [if_neg c2, if_neg c3] at hr
            exact XP_ri rfl hr)) (fun X1 Z1 hx => (EC.up (l_rWhose 0 X1 Z1 (h.rk1 (E64 hx)) q w) (by omega)).mono (fun r hr => by
            rw [h.j1 (E64 hx)] at hr
            rw [if_pos c1] at hr
            unfold WhM at hr
            rw [if_neg c2, if_neg c3] at hr
            exact MP_ri (h.rk1 (E64 hx)) (h.j1 (E64 hx)) hr)) (fun _ => rfl)
  · exact mk_pair h (J := (jx X 9)) (v := (sErr 1)) (v2 := (sErr 1)) ((EC.up (l_whose 0 X Z h.ij q w) (by omega)).mono (fun r hr => by
        rw [if_neg c1] at hr
        exact XP_er rfl hr)) (fun X1 Z1 hx => (EC.up (l_rWhose 0 X1 Z1 (h.rk1 (E64 hx)) q w) (by omega)).mono (fun r hr => by
        rw [h.j1 (E64 hx)] at hr
        rw [if_neg c1] at hr
        exact MP_er (h.rk1 (E64 hx)) (h.j1 (E64 hx)) hr)) (fun _ => rfl)
theorem p_lookAt {X Z : Nat → Nat → Int32} (h : Rel X) : PAIR X Z 104 194 [] true := by
  by_cases c1 : (lkF (jx X 9) (jn (jx X 9)) 0 (-1) (nI 0)) < 0
  · exact mk_pair h (J := (jx X 9)) (v := (sErr 2)) (v2 := (sErr 2)) ((EC.up (l_lookAt 0 X Z h.ij (by omega)) (by omega)).mono (fun r hr => by
        unfold LkP at hr
        rw [if_pos c1] at hr
        obtain ⟨X9, Z9, rfl, X8, ho, rfl⟩ := hr
        exact ⟨_, Z9, rfl, (XS.ot ho rfl).err⟩)) (fun X1 Z1 hx => (EC.up (l_rLookAt 0 X1 Z1 (h.rk1 (E64 hx)) (by omega)) (by omega)).mono (fun r hr => by
        rw [h.j1 (E64 hx)] at hr
        unfold LkM at hr
        rw [if_pos c1] at hr
        obtain ⟨X9, Z9, rfl, ho⟩ := hr
        have e9 : X9 64 = X1 64 := ho 64 (by omega) (by omega)
        exact ⟨_, Z9, rfl, by rw [e9]; exact h.j1 (E64 hx), by rw [e9]; exact h.rk1 (E64 hx), fun c _ _ a3 a4 _ _ _ => ho c a3 a4, by rw [ho 63 (by omega) (by omega)], by rw [ho 63 (by omega) (by omega)]⟩)) (fun _ => rfl)
  · exact mk_pair h (J := (jx X 9)) (v := (lkF (jx X 9) (jn (jx X 9)) 0 (-1) (nI 0))) (v2 := (lkF (jx X 9) (jn (jx X 9)) 0 (-1) (nI 0))) ((EC.up (l_lookAt 0 X Z h.ij (by omega)) (by omega)).mono (fun r hr => by
        unfold LkP at hr
        rw [if_neg c1] at hr
        exact XP_ro rfl hr)) (fun X1 Z1 hx => (EC.up (l_rLookAt 0 X1 Z1 (h.rk1 (E64 hx)) (by omega)) (by omega)).mono (fun r hr => by
        rw [h.j1 (E64 hx)] at hr
        unfold LkM at hr
        rw [if_neg c1] at hr
        exact MP_r6 (h.rk1 (E64 hx)) (h.j1 (E64 hx)) hr)) (fun _ => rfl)
theorem p_odds {X Z : Nat → Nat → Int32} (h : Rel X) (s w : Int32) : PAIR X Z 108 198 [.int s, .int w] true := by
  by_cases cs : jHas (jx X 9) s = true
  · obtain ⟨k, hk, rfl⟩ := xHas_k h.ij (show xHas X s = true from cs)
    have hk1 : ∀ X1 : Nat → Nat → Int32, X1 64 = X 64 → k < jn (jm (X1 64)) := fun X1 e => by rw [h.j1 e]; exact hk
    by_cases c1 : sIn w (nI 0) (nI 1) = true
    · exact mk_pair h (J := (jx X 9)) (v := (if w = 0 then (sOdds (jx X 9) k).1 else (sOdds (jx X 9) k).2)) (v2 := (if w = 0 then (sOdds (jx X 9) k).1 else (sOdds (jx X 9) k).2)) ((EC.up (l_odds 0 X Z h.ij hk w) (by omega)).mono (fun r hr => by
          rw [if_pos c1] at hr
          exact XP_ri rfl hr)) (fun X1 Z1 hx => (EC.up (l_rOdds 0 X1 Z1 (h.rk1 (E64 hx)) (hk1 X1 (E64 hx)) w) (by omega)).mono (fun r hr => by
          rw [h.j1 (E64 hx)] at hr
          rw [if_pos c1] at hr
          exact MP_ri (h.rk1 (E64 hx)) (h.j1 (E64 hx)) hr)) (fun _ => rfl)
    · exact mk_pair h (J := (jx X 9)) (v := (sErr 1)) (v2 := (sErr 1)) ((EC.up (l_odds 0 X Z h.ij hk w) (by omega)).mono (fun r hr => by
          rw [if_neg c1] at hr
          exact XP_er rfl hr)) (fun X1 Z1 hx => (EC.up (l_rOdds 0 X1 Z1 (h.rk1 (E64 hx)) (hk1 X1 (E64 hx)) w) (by omega)).mono (fun r hr => by
          rw [h.j1 (E64 hx)] at hr
          rw [if_neg c1] at hr
          exact MP_er (h.rk1 (E64 hx)) (h.j1 (E64 hx)) hr)) (fun _ => rfl)
  · have cs2 : jHas (jx X 9) s = false := by simpa using cs
    exact mk_pair h (J := (jx X 9)) (v := sErr 1) (v2 := sErr 1) ((EC.up (l_odds_no 0 X Z s w (show xHas X s = false from cs2)) (by omega)).mono (fun r hr => by
        exact XP_er rfl hr)) (fun X1 Z1 hx => (EC.up (l_rOdds_no 0 X1 Z1 (h.rk1 (E64 hx)) s w (by rw [h.j1 (E64 hx)]; exact cs2)) (by omega)).mono (fun r hr => by
        exact MP_er (h.rk1 (E64 hx)) (h.j1 (E64 hx)) hr)) (fun _ => rfl)
theorem p_seed {X Z : Nat → Nat → Int32} (h : Rel X) (v : Int32) : PAIR X Z 109 199 [.int v] true := by
  exact mk_pair h (J := (ud (jx X 9) 0 17 v)) (v := (jx X 9 0 17)) (v2 := (jx X 9 0 17)) ((EC.up (l_seed 0 X Z v) (by omega)).mono (fun r hr => by
      exact XP_r9 (fun c hc => ud_ne (by omega)) (jx_ud0 (b := 9) rfl) hr)) (fun X1 Z1 hx => (EC.up (l_rSeed 0 X1 Z1 (h.rk1 (E64 hx)) v) (by omega)).mono (fun r hr => by
      rw [show X1 64 1 = jm (X1 64) 0 17 from rfl, h.j1 (E64 hx)] at hr
      exact MP_nj hr)) (fun _ => rfl)
theorem p_tell {X Z : Nat → Nat → Int32} (h : Rel X) (v : Int32) : PAIR X Z 121 222 [.int v] true := by
  obtain ⟨w, h20, hw⟩ : ∃ w, w ≤ 20 ∧ X 9 16 = nI w := ⟨_, h.ij.waits.2, h.ij.waits.1⟩
  have hw1 : ∀ X1 : Nat → Nat → Int32, (∀ c, 63 ≤ c → X1 c = X c) → X1 64 6 = nI w := fun X1 hx => by rw [show X1 64 6 = jm (X1 64) 0 16 from rfl, h.j1 (E64 hx)]; exact hw
  by_cases c1 : w < 20
  · exact mk_pair h (J := (ud (ud (jx X 9) 10 w v) 0 16 (nI (w + 1)))) (v := (nI (w + 1))) (v2 := (nI (w + 1))) ((EC.up (l_tell 0 X Z v w hw h20) (by omega)).mono (fun r hr => by
        rw [if_pos c1] at hr
        exact XP_r9 (fun c hc => by rw [ud_ne (by omega), ud_ne (by omega)]) (by rw [jx_ud0 (b := 9) rfl, jx_ud10 c1]) hr)) (fun X1 Z1 hx => (EC.up (l_rTell 0 X1 Z1 (h.rk1 (E64 hx)) v w (hw1 X1 hx) h20) (by omega)).mono (fun r hr => by
        rw [h.j1 (E64 hx)] at hr
        rw [if_pos c1] at hr
        exact MP_nj hr)) (fun _ => rfl)
  · exact mk_pair h (J := (jx X 9)) (v := (sErr 4)) (v2 := (sErr 4)) ((EC.up (l_tell 0 X Z v w hw h20) (by omega)).mono (fun r hr => by
        rw [if_neg c1] at hr
        exact XP_er rfl hr)) (fun X1 Z1 hx => (EC.up (l_rTell 0 X1 Z1 (h.rk1 (E64 hx)) v w (hw1 X1 hx) h20) (by omega)).mono (fun r hr => by
        rw [h.j1 (E64 hx)] at hr
        rw [if_neg c1] at hr
        exact MP_er (h.rk1 (E64 hx)) (h.j1 (E64 hx)) hr)) (fun _ => rfl)
theorem p_check {X Z : Nat → Nat → Int32} (h : Rel X) : PAIR X Z 122 223 [] true := by
  exact mk_pair h (J := (ud (jx X 9) 0 16 (nI 0))) (v := (sCheck (jx X 9))) (v2 := (sCheck (jx X 9))) ((EC.up (l_check 0 X Z h.ij (by omega)) (by omega)).mono (fun r hr => by
      obtain ⟨X8, Z9, rfl, ho⟩ := hr
      refine ⟨_, Z9, rfl, ?_, fun c c1 c2 => by rw [ud_ne (by omega)]; exact ho c (by omega), by rw [ud_ne (by omega)]; rw [ho 0 (by omega)], fun c c1 _ _ _ => by rw [ud_ne (by omega)]; exact ho c (by omega)⟩
      rw [jx_ud0 (b := 9) rfl, ho.j9])) (fun X1 Z1 hx => (EC.up (l_rCheck 0 X1 Z1 (h.rk1 (E64 hx)) (by omega)) (by omega)).mono (fun r hr => by
      rw [h.j1 (E64 hx)] at hr
      obtain ⟨X8, Z9, rfl, e8, ho⟩ := hr
      have w8 := wWaits (X := X1) (p := 6) (h.rk1 (E64 hx)) (h.j1 (E64 hx)) (isN.of (show 0 ≤ 20 by omega) (by omega)) rfl
      have e9 : X8 64 = ud X1 64 6 (nI 0) 64 := by rw [e8, ud_same]
      exact ⟨_, Z9, rfl, by rw [e9]; exact w8.j, by rw [e9]; exact w8.rk, fun c _ a2 a3 _ _ _ _ => ho c a2 a3, by rw [ho 63 (by omega) (by omega)], by rw [ho 63 (by omega) (by omega)]⟩)) (fun _ => rfl)
theorem p_count {X Z : Nat → Nat → Int32} (h : Rel X) (w : Int32) : PAIR X Z 123 224 [.int w] true := by
  have hg : ∀ X1 : Nat → Nat → Int32, (∀ c, 63 ≤ c → X1 c = X c) → X1 63 21 = X 51 1 := fun X1 hx => by obtain ⟨g, _, g2, g3, _⟩ := h.2.2.2.2.2.1; rw [hx 63 (by omega), g3, g2]
  by_cases c1 : sIn w (nI 0) (nI 10) = true
  · exact mk_pair h (J := (jx X 9)) (v := (sCnt (jx X 9) (X 51 1) w)) (v2 := (sCnt (jx X 9) (X 51 1) w)) ((EC.up (l_count 0 X Z w) (by omega)).mono (fun r hr => by
        rw [if_pos c1] at hr
        exact XP_ri rfl hr)) (fun X1 Z1 hx => (EC.up (l_rCount 0 X1 Z1 (h.rk1 (E64 hx)) (by omega) w) (by omega)).mono (fun r hr => by
        rw [h.j1 (E64 hx), hg X1 hx] at hr
        rw [if_pos c1] at hr
        exact MP_ri (h.rk1 (E64 hx)) (h.j1 (E64 hx)) hr)) (fun _ => rfl)
  · exact mk_pair h (J := (jx X 9)) (v := (sErr 1)) (v2 := (sErr 1)) ((EC.up (l_count 0 X Z w) (by omega)).mono (fun r hr => by
        rw [if_neg c1] at hr
        exact XP_er rfl hr)) (fun X1 Z1 hx => (EC.up (l_rCount 0 X1 Z1 (h.rk1 (E64 hx)) (by omega) w) (by omega)).mono (fun r hr => by
        rw [h.j1 (E64 hx)] at hr
        rw [if_neg c1] at hr
        exact MP_er (h.rk1 (E64 hx)) (h.j1 (E64 hx)) hr)) (fun _ => rfl)
theorem p_told {X Z : Nat → Nat → Int32} (h : Rel X) (k : Int32) : PAIR X Z 124 225 [.int k] false := by
  by_cases c1 : sIn k (nI 1) (nI 5) = true
  · obtain ⟨v0, hv0⟩ : ∃ v, X 67 (nN k) = v := ⟨_, rfl⟩
    exact mk_pair h (J := (jx X 9)) (v := (X 53 (nN k))) (v2 := (X 67 (nN k))) ((EC.up (l_told 0 X Z k) (by omega)).mono (fun r hr => by
        rw [if_pos c1] at hr
        exact XP_ri rfl hr)) (fun X1 Z1 hx => (EC.up (l_rTold 0 X1 Z1 k) (by omega)).mono (fun r hr => by
        rw [if_pos c1, hx 67 (by omega)] at hr
        exact MP_ri (h.rk1 (E64 hx)) (h.j1 (E64 hx)) hr)) (fun hh => by cases hh)
  · exact mk_pair h (J := (jx X 9)) (v := (sErr 1)) (v2 := (sErr 1)) ((EC.up (l_told 0 X Z k) (by omega)).mono (fun r hr => by
        rw [if_neg c1] at hr
        exact XP_er rfl hr)) (fun X1 Z1 hx => (EC.up (l_rTold 0 X1 Z1 k) (by omega)).mono (fun r hr => by
        rw [if_neg c1] at hr
        exact MP_er (h.rk1 (E64 hx)) (h.j1 (E64 hx)) hr)) (fun hh => by cases hh)
theorem p_trace {X Z : Nat → Nat → Int32} (h : Rel X) (i : Int32) : PAIR X Z 111 212 [.int i] true := by
  obtain ⟨g, g1, g2, g3, g4⟩ := h.2.2.2.2.2.1
  by_cases c1 : sIn i (nI 0) (nI g - nI 1) = true
  · obtain ⟨q, hq, hqi⟩ := sIn_lt (by omega) c1
    have hqn : nN i = q := by rw [hqi]; exact nN_nI (by omega)
    exact mk_pair h (J := (jx X 9)) (v := (X 52 (nN i))) (v2 := (X 52 (nN i))) ((EC.up (l_trace 0 X Z i g g2 g1) (by omega)).mono (fun r hr => by
        rw [if_pos c1] at hr
        exact XP_ri rfl hr)) (fun X1 Z1 hx => (EC.up (l_rTrace 0 X1 Z1 i g (by rw [hx 63 (by omega)]; exact g3) g1) (by omega)).mono (fun r hr => by
        rw [if_pos c1, hx 75 (by omega), ← g4 (nN i) (by omega)] at hr
        exact MP_ri (h.rk1 (E64 hx)) (h.j1 (E64 hx)) hr)) (fun _ => rfl)
  · exact mk_pair h (J := (jx X 9)) (v := (sErr 2)) (v2 := (sErr 2)) ((EC.up (l_trace 0 X Z i g g2 g1) (by omega)).mono (fun r hr => by
        rw [if_neg c1] at hr
        exact XP_er rfl hr)) (fun X1 Z1 hx => (EC.up (l_rTrace 0 X1 Z1 i g (by rw [hx 63 (by omega)]; exact g3) g1) (by omega)).mono (fun r hr => by
        rw [if_neg c1] at hr
        exact MP_er (h.rk1 (E64 hx)) (h.j1 (E64 hx)) hr)) (fun _ => rfl)
end
section
/-! BOTH SIDES, call by call: laws in texts, draws, the best order, sheets -/
theorem RK.own {R : Nat → Int32} {T : Nat} (h : RK T R) : RK (nN (R 0)) R := ⟨⟨h.1.n, h.1.kind, h.1.m, h.1.sc, h.1.needs, h.1.done, h.1.wrong, h.1.hands, h.1.bag, ⟨h.1.minute.1, Nat.le_refl _⟩, h.1.tl, h.1.te, h.1.fed, h.1.waits, h.1.tape⟩, h.2.1, h.2.2.1, h.2.2.2⟩
theorem IJ.own {J : Nat → Nat → Int32} {T : Nat} (h : IJ T J) : IJ (nN (J 0 10)) J := ⟨h.n, h.kind, h.m, h.sc, h.needs, h.done, h.wrong, h.hands, h.bag, ⟨h.minute.1, Nat.le_refl _⟩, h.tl, h.te, h.fed, h.waits, h.tape⟩
theorem MP_le {v : Int32} {J X : Nat → Nat → Int32} {T : Nat} {r : ab_R} (hT : T ≤ 99999) (h : RNJ v J T X r) : MP v J X r := by
  obtain ⟨X', Z', rfl, h1⟩ := h
  exact ⟨_, Z', rfl, h1.1, h1.2.1.mono hT, OM.o64 h1.2.2.1⟩
theorem loose_T {J : Nat → Nat → Int32} (h : IJ 99999 J) {n : Int32} (h1 : sIn n (nI 1) (nI 40) = true) (h2 : sLooseOk J n = true) : nN (J 0 10) + 300 * nN n ≤ 99999 := by
  obtain ⟨q, q1, q2, rfl⟩ := sIn_ex (by omega) (by omega) h1
  obtain ⟨m1, m2⟩ := h.minute
  unfold sLooseOk at h2
  simp only [Bool.not_eq_true', decide_eq_false_iff_not] at h2
  rw [m1, nI_mul, nI_add] at h2
  rw [nN_nI (by omega)]
  rcases Nat.lt_or_ge 99999 (nN (J 0 10) + q * 300) with h9 | h9
  · exact absurd (nI_lt h9 (by omega)) h2
  · omega
theorem p_loose {X Z : Nat → Nat → Int32} (h : Rel X) (n : Int32) : PAIR X Z 93 170 [.int n] true := by
  by_cases c1 : sIn n (nI 1) (nI 40) = true
  · by_cases c2 : sLooseOk (jx X 9) n = true
    · have hT := loose_T h.ij c1 c2
      exact mk_pair h (J := (itN loT (nN n) (jx X 9, nI 0)).1) (v := (itN loT (nN n) (jx X 9, nI 0)).2) (v2 := (itN loT (nN n) (jx X 9, nI 0)).2) ((EC.up (l_loose 0 X Z h.ij.own (by have := h.ij.minute.2; omega) n) (by omega)).mono (fun r hr => by
          rw [if_pos c1, if_pos c2] at hr
          exact XP_rj hr)) (fun X1 Z1 hx => (EC.up (l_rLoose 0 X1 Z1 (h.rk1 (E64 hx)).own (by have := (h.rk1 (E64 hx)).ij.minute.2; exact Nat.lt_succ_of_le this) n) (by omega)).mono (fun r hr => by
          rw [h.j1 (E64 hx), show X1 64 0 = jm (X1 64) 0 10 from rfl, h.j1 (E64 hx)] at hr
          rw [if_pos c1, if_pos c2] at hr
          exact MP_le hT hr)) (fun _ => rfl)
    · exact mk_pair h (J := (jx X 9)) (v := (sErr 3)) (v2 := (sErr 3)) ((EC.up (l_loose 0 X Z h.ij.own (by have := h.ij.minute.2; omega) n) (by omega)).mono (fun r hr => by
          rw [if_pos c1, if_neg c2] at hr
          exact XP_er rfl hr)) (fun X1 Z1 hx => (EC.up (l_rLoose 0 X1 Z1 (h.rk1 (E64 hx)).own (by have := (h.rk1 (E64 hx)).ij.minute.2; exact Nat.lt_succ_of_le this) n) (by omega)).mono (fun r hr => by
          rw [h.j1 (E64 hx)] at hr
          rw [if_pos c1, if_neg c2] at hr
          exact MP_er (h.rk1 (E64 hx)) (h.j1 (E64 hx)) hr)) (fun _ => rfl)
  · exact mk_pair h (J := (jx X 9)) (v := (sErr 1)) (v2 := (sErr 1)) ((EC.up (l_loose 0 X Z h.ij.own (by have := h.ij.minute.2; omega) n) (by omega)).mono (fun r hr => by
        rw [if_neg c1] at hr
        exact XP_er rfl hr)) (fun X1 Z1 hx => (EC.up (l_rLoose 0 X1 Z1 (h.rk1 (E64 hx)).own (by have := (h.rk1 (E64 hx)).ij.minute.2; exact Nat.lt_succ_of_le this) n) (by omega)).mono (fun r hr => by
        rw [h.j1 (E64 hx)] at hr
        rw [if_neg c1] at hr
        exact MP_er (h.rk1 (E64 hx)) (h.j1 (E64 hx)) hr)) (fun _ => rfl)
theorem Wd_tape {X Z : Nat → Nat → Int32} : Wd X Z = Wd (uc X 20 (jx X 9 9)) Z := by
  have e := Wd_row (X := X) (Z := Z) (c := 20) (n := 50) (f := X 20) (g := jx X 9 9) (fun _ _ => rfl) (fun k hk => (jx9 (X := X) (b := 9) hk).symm)
  rw [uc_id] at e
  exact e
theorem jx_tape {X : Nat → Nat → Int32} : jx (uc X 20 (jx X 9 9)) 9 = jx X 9 := by
  refine jx_take ?_ ?_ ?_ ?_ ?_ ?_ ?_ ?_ ?_ ?_ ?_
  · intro k _; rw [uc_ne (by omega)]
  · intro k _; rw [uc_ne (by omega)]
  · intro k _; rw [uc_ne (by omega)]
  · intro k _; rw [uc_ne (by omega)]
  · intro k _; rw [uc_ne (by omega)]
  · rw [uc_ne (by omega)]
  · intro k _; rw [uc_ne (by omega)]
  · rw [uc_ne (by omega)]
  · intro k _; rw [uc_ne (by omega)]
  · intro k hk
    rw [show (9 + 11 : Nat) = 20 from rfl, uc_same]
    exact jx9 (X := X) (b := 9) hk
  · intro k _; rw [uc_ne (by omega)]
theorem O9.tape (X : Nat → Nat → Int32) {f : Nat → Int32} : O9 X (uc X 20 f) := fun c hc => uc_ne (by omega)
theorem O9.hold {X X1 : Nat → Nat → Int32} (h : O9 X X1) {t : Nat} {f : Nat → Int32} {l : Nat} (ht : 9 ≤ t ∧ t + 1 ≤ 21) : O9 X (xHold X1 t f l) := fun c hc => by
  unfold xHold
  rw [ud_ne (by omega), uc_ne (by omega)]
  exact h c hc
theorem p_text0 {X Z : Nat → Nat → Int32} (h : Rel X) : PAIR X Z 88 152 [.int (nI 0)] true := by
  obtain ⟨f, h50, hf⟩ : ∃ f, f ≤ 50 ∧ X 9 14 = nI f := ⟨_, h.ij.fed.2, h.ij.fed.1⟩
  have hf1 : ∀ X1 : Nat → Nat → Int32, (∀ c, 63 ≤ c → X1 c = X c) → X1 64 5 = nI f := fun X1 hx => by rw [show X1 64 5 = jm (X1 64) 0 14 from rfl, h.j1 (E64 hx)]; exact hf
  have hc0 : EC 200 88 [.ref 0, .int (nI 0)] (Wd X Z) (fun r => match sTx (uc X 20 (jx X 9 9)) 0 f with | .inl y => RI (-10 - nI y) (ud (uc X 20 (jx X 9 9)) 9 14 (nI 0)) r | .inr s2 => if s2.1 < f then RI (-10 - nI s2.1) (ud (uc X 20 (jx X 9 9)) 9 14 (nI 0)) r else RI (nI 1) (xHold (ud (uc X 20 (jx X 9 9)) 9 14 (nI 0)) 14 s2.2.2 s2.2.1) r) := by
    rw [Wd_tape]
    exact EC.up (l_text0 0 (uc X 20 (jx X 9 9)) Z (f := f) (by rw [uc_ne (by omega)]; exact hf) h50 (fun k => by rw [uc_same]; exact h.ij.tape k)) (by omega)
  have hj : jx (ud (uc X 20 (jx X 9 9)) 9 14 (nI 0)) 9 = ud (jx X 9) 0 14 (nI 0) := by rw [jx_ud0 (b := 9) rfl, jx_tape]
  have ho : O9 X (ud (uc X 20 (jx X 9 9)) 9 14 (nI 0)) := (O9.tape X).ud (by omega)
  have hs : sTx (uc X 20 (jx X 9 9)) 0 f = sTx (fun _ => jx X 9 9) 0 f := by
    show qq _ f 0 36 0 0 _ = qq _ f 0 36 0 0 _
    rw [uc_same]
  have hwf := sTx_wf (X := fun _ => jx X 9 9) (u := 0) (f := f) h.ij.tape h50
  have hm0 : ∀ X1 Z1 : Nat → Nat → Int32, (∀ c, 63 ≤ c → X1 c = X c) → EC 200 152 [.ref 63, .int (nI 0)] (Wd X1 Z1) (fun r => match sTx (fun _ => jx X 9 9) 0 f with | .inl x => RNT (-10 - nI x) (ud (jx X 9) 0 14 (nI 0)) 99999 X1 r | .inr s => (if s.1 < f then RNT (-10 - nI s.1) (ud (jx X 9) 0 14 (nI 0)) 99999 X1 else RNT (nI 1) (jTx0 (ud (jx X 9) 0 14 (nI 0)) s.2) 99999 X1) r) := by
    intro X1 Z1 hx
    have e := EC.up (l_rText0 0 X1 Z1 (h.rk1 (E64 hx)) (f := f) (hf1 X1 hx) h50) (show 0 + 120 ≤ 200 by omega)
    unfold rTx at e
    rw [h.j1 (E64 hx)] at e
    exact e
  rw [hs] at hc0
  cases hT : sTx (fun _ => jx X 9 9) 0 f with
  | inl y =>
    rw [hT] at hc0
    exact mk_pair h (J := ud (jx X 9) 0 14 (nI 0)) (v := -10 - nI y) (v2 := -10 - nI y) (hc0.mono (fun r hr => XP_r9 ho hj hr)) (fun X1 Z1 hx => (hm0 X1 Z1 hx).mono (fun r hr => by
      rw [hT] at hr
      exact MP_nt hr)) (fun _ => rfl)
  | inr s =>
    rw [hT] at hc0 hwf
    obtain ⟨_, w50, _⟩ := hwf
    by_cases c1 : s.1 < f
    · exact mk_pair h (J := ud (jx X 9) 0 14 (nI 0)) (v := -10 - nI s.1) (v2 := -10 - nI s.1) (hc0.mono (fun r hr => XP_r9 ho hj ((if_pos c1 : (if s.1 < f then RI (-10 - nI s.1) (ud (uc X 20 (jx X 9 9)) 9 14 (nI 0)) r else RI (nI 1) (xHold (ud (uc X 20 (jx X 9 9)) 9 14 (nI 0)) 14 s.2.2 s.2.1) r) = _).mp hr))) (fun X1 Z1 hx => (hm0 X1 Z1 hx).mono (fun r hr => by
        rw [hT] at hr
        replace hr : (if s.1 < f then RNT (-10 - nI s.1) (ud (jx X 9) 0 14 (nI 0)) 99999 X1 else RNT (nI 1) (jTx0 (ud (jx X 9) 0 14 (nI 0)) s.2) 99999 X1) r := hr
        rw [if_pos c1] at hr
        exact MP_nt hr)) (fun _ => rfl)
    · exact mk_pair h (J := jTx0 (ud (jx X 9) 0 14 (nI 0)) s.2) (v := nI 1) (v2 := nI 1) (hc0.mono (fun r hr => XP_r9 (ho.hold (by omega)) (by rw [jx_text0 w50, hj]) ((if_neg c1 : (if s.1 < f then RI (-10 - nI s.1) (ud (uc X 20 (jx X 9 9)) 9 14 (nI 0)) r else RI (nI 1) (xHold (ud (uc X 20 (jx X 9 9)) 9 14 (nI 0)) 14 s.2.2 s.2.1) r) = _).mp hr))) (fun X1 Z1 hx => (hm0 X1 Z1 hx).mono (fun r hr => by
        rw [hT] at hr
        replace hr : (if s.1 < f then RNT (-10 - nI s.1) (ud (jx X 9) 0 14 (nI 0)) 99999 X1 else RNT (nI 1) (jTx0 (ud (jx X 9) 0 14 (nI 0)) s.2) 99999 X1) r := hr
        rw [if_neg c1] at hr
        exact MP_nt hr)) (fun _ => rfl)
theorem p_text1 {X Z : Nat → Nat → Int32} (h : Rel X) : PAIR X Z 88 152 [.int (nI 1)] true := by
  obtain ⟨f, h50, hf⟩ : ∃ f, f ≤ 50 ∧ X 9 14 = nI f := ⟨_, h.ij.fed.2, h.ij.fed.1⟩
  have hf1 : ∀ X1 : Nat → Nat → Int32, (∀ c, 63 ≤ c → X1 c = X c) → X1 64 5 = nI f := fun X1 hx => by rw [show X1 64 5 = jm (X1 64) 0 14 from rfl, h.j1 (E64 hx)]; exact hf
  have hc0 : EC 200 88 [.ref 0, .int (nI 1)] (Wd X Z) (fun r => match sTx (uc X 20 (jx X 9 9)) 1 f with | .inl y => RI (-10 - nI y) (ud (uc X 20 (jx X 9 9)) 9 14 (nI 0)) r | .inr s2 => if s2.1 < f then RI (-10 - nI s2.1) (ud (uc X 20 (jx X 9 9)) 9 14 (nI 0)) r else RI (nI 1) (xHold (ud (uc X 20 (jx X 9 9)) 9 14 (nI 0)) 17 s2.2.2 s2.2.1) r) := by
    rw [Wd_tape]
    exact EC.up (l_text1 0 (uc X 20 (jx X 9 9)) Z (f := f) (by rw [uc_ne (by omega)]; exact hf) h50 (fun k => by rw [uc_same]; exact h.ij.tape k)) (by omega)
  have hj : jx (ud (uc X 20 (jx X 9 9)) 9 14 (nI 0)) 9 = ud (jx X 9) 0 14 (nI 0) := by rw [jx_ud0 (b := 9) rfl, jx_tape]
  have ho : O9 X (ud (uc X 20 (jx X 9 9)) 9 14 (nI 0)) := (O9.tape X).ud (by omega)
  have hs : sTx (uc X 20 (jx X 9 9)) 1 f = sTx (fun _ => jx X 9 9) 1 f := by
    show qq _ f 1 36 0 0 _ = qq _ f 1 36 0 0 _
    rw [uc_same]
  have hwf := sTx_wf (X := fun _ => jx X 9 9) (u := 1) (f := f) h.ij.tape h50
  have hm0 : ∀ X1 Z1 : Nat → Nat → Int32, (∀ c, 63 ≤ c → X1 c = X c) → EC 200 152 [.ref 63, .int (nI 1)] (Wd X1 Z1) (fun r => match sTx (fun _ => jx X 9 9) 1 f with | .inl x => RNT (-10 - nI x) (ud (jx X 9) 0 14 (nI 0)) 99999 X1 r | .inr s => (if s.1 < f then RNT (-10 - nI s.1) (ud (jx X 9) 0 14 (nI 0)) 99999 X1 else RNT (nI 1) (jTx1 (ud (jx X 9) 0 14 (nI 0)) s.2) 99999 X1) r) := by
    intro X1 Z1 hx
    have e := EC.up (l_rText1 0 X1 Z1 (h.rk1 (E64 hx)) (f := f) (hf1 X1 hx) h50) (show 0 + 120 ≤ 200 by omega)
    unfold rTx at e
    rw [h.j1 (E64 hx)] at e
    exact e
  rw [hs] at hc0
  cases hT : sTx (fun _ => jx X 9 9) 1 f with
  | inl y =>
    rw [hT] at hc0
    exact mk_pair h (J := ud (jx X 9) 0 14 (nI 0)) (v := -10 - nI y) (v2 := -10 - nI y) (hc0.mono (fun r hr => XP_r9 ho hj hr)) (fun X1 Z1 hx => (hm0 X1 Z1 hx).mono (fun r hr => by
      rw [hT] at hr
      exact MP_nt hr)) (fun _ => rfl)
  | inr s =>
    rw [hT] at hc0 hwf
    obtain ⟨_, w50, _⟩ := hwf
    by_cases c1 : s.1 < f
    · exact mk_pair h (J := ud (jx X 9) 0 14 (nI 0)) (v := -10 - nI s.1) (v2 := -10 - nI s.1) (hc0.mono (fun r hr => XP_r9 ho hj ((if_pos c1 : (if s.1 < f then RI (-10 - nI s.1) (ud (uc X 20 (jx X 9 9)) 9 14 (nI 0)) r else RI (nI 1) (xHold (ud (uc X 20 (jx X 9 9)) 9 14 (nI 0)) 17 s.2.2 s.2.1) r) = _).mp hr))) (fun X1 Z1 hx => (hm0 X1 Z1 hx).mono (fun r hr => by
        rw [hT] at hr
        replace hr : (if s.1 < f then RNT (-10 - nI s.1) (ud (jx X 9) 0 14 (nI 0)) 99999 X1 else RNT (nI 1) (jTx1 (ud (jx X 9) 0 14 (nI 0)) s.2) 99999 X1) r := hr
        rw [if_pos c1] at hr
        exact MP_nt hr)) (fun _ => rfl)
    · exact mk_pair h (J := jTx1 (ud (jx X 9) 0 14 (nI 0)) s.2) (v := nI 1) (v2 := nI 1) (hc0.mono (fun r hr => XP_r9 (ho.hold (by omega)) (by rw [jx_text1 w50, hj]) ((if_neg c1 : (if s.1 < f then RI (-10 - nI s.1) (ud (uc X 20 (jx X 9 9)) 9 14 (nI 0)) r else RI (nI 1) (xHold (ud (uc X 20 (jx X 9 9)) 9 14 (nI 0)) 17 s.2.2 s.2.1) r) = _).mp hr))) (fun X1 Z1 hx => (hm0 X1 Z1 hx).mono (fun r hr => by
        rw [hT] at hr
        replace hr : (if s.1 < f then RNT (-10 - nI s.1) (ud (jx X 9) 0 14 (nI 0)) 99999 X1 else RNT (nI 1) (jTx1 (ud (jx X 9) 0 14 (nI 0)) s.2) 99999 X1) r := hr
        rw [if_neg c1] at hr
        exact MP_nt hr)) (fun _ => rfl)
theorem p_text {X Z : Nat → Nat → Int32} (h : Rel X) (u : Int32) : PAIR X Z 88 152 [.int u] true := by
  by_cases cu : sUse u = true
  · have c2 := cu
    unfold sUse at c2
    simp only [Bool.or_eq_true, decide_eq_true_eq] at c2
    rcases c2 with e | e
    · subst e; exact p_text0 h
    · subst e; exact p_text1 h
  · have cu2 : sUse u = false := by simpa using cu
    exact mk_pair h (J := (jx X 9)) (v := (sErr 1)) (v2 := (sErr 1)) ((EC.up (l_text_no 0 X Z u cu2) (by omega)).mono (fun r hr => by
        exact XP_er rfl hr)) (fun X1 Z1 hx => (EC.up (l_rText_no 0 X1 Z1 u cu2) (by omega)).mono (fun r hr => by
        exact MP_er (h.rk1 (E64 hx)) (h.j1 (E64 hx)) hr)) (fun _ => rfl)
theorem ord_TR {X X1 : Nat → Nat → Int32} (h : Rel X) (hx : ∀ c, 63 ≤ c → X1 c = X c) (h5 : unN (jx X 9) (jn (jx X 9)) ≤ 5) : TR (unN (jx X 9) (jn (jx X 9))) 0 (nN (jx X 9 0 10)) (sOrd X) (rO X1) := by
  unfold rO
  rw [h.j1 (E64 hx), show X1 64 0 = jm (X1 64) 0 10 from rfl, h.j1 (E64 hx)]
  have hb : jx X 9 0 10 = nI (nN (jx X 9 0 10)) := h.ij.minute.1
  have e := TR_sk (unN (jx X 9) (jn (jx X 9))) (nN (jx X 9 0 10)) h5 (unN (jx X 9) (jn (jx X 9))) 0 5 (jx X 9) (jx X 9) 99999 (-1, X 62, X 61) (-1, X1 73, X1 72) (by omega) (by omega) h.ij (by omega) (Nat.le_refl _) (Sim.rf _) rfl ⟨Or.inl ⟨show (-1 : Int32) < 0 by decide +kernel, show (-1 : Int32) < 0 by decide +kernel⟩, fun k hk => absurd hk (Nat.not_lt_zero k)⟩
  rw [← hb] at e
  exact e
theorem ord_n {X : Nat → Nat → Int32} (h : Rel X) (c : ¬ nI 5 < sOpen (jx X 9)) : unN (jx X 9) (jn (jx X 9)) ≤ 5 := by
  rw [sOpen_un h.ij] at c
  have := Nat.le_trans (unN_le (jx X 9) (jn (jx X 9))) (jn8 h.ij)
  rcases Nat.lt_or_ge 5 (unN (jx X 9) (jn (jx X 9))) with h9 | h9
  · exact absurd (nI_lt h9 (by omega)) c
  · exact h9
theorem TR.neg {many p b : Nat} {s t : skT} (h : TR many p b s t) : s.1 < 0 ↔ t.1 < 0 := by
  rcases h.1 with ⟨h1, h2⟩ | ⟨a, c, h1, h2, h3, h4, _⟩
  · exact ⟨fun _ => h2, fun _ => h1⟩
  · rw [h3, h4]
    exact ⟨fun hh => absurd hh (nI_pos (by omega)), fun hh => absurd hh (nI_pos (by omega))⟩
theorem TR.val {many p b : Nat} {s t : skT} (h : TR many p b s t) (hs : ¬ s.1 < 0) : s.1 - nI b = t.1 ∧ ∀ k, k < many → s.2.1 k = t.2.1 k := by
  rcases h.1 with ⟨h1, h2⟩ | ⟨a, c, h1, h2, h3, h4, h5⟩
  · exact absurd h1 hs
  · refine ⟨?_, h5⟩
    rw [h3, h4, h1, nI_sub (by omega)]
    congr 1
    omega
theorem p_order {X Z : Nat → Nat → Int32} (h : Rel X) (w : Int32) : PAIR X Z 96 182 [.int w] true := by
  by_cases c1 : sIn w (-1) (nI 4) = true
  · by_cases c2 : nI 5 < sOpen (jx X 9)
    · exact mk_pair h (J := (jx X 9)) (v := (sErr 3)) (v2 := (sErr 3)) ((EC.up (l_order 0 X Z h.ij (by omega) w) (by omega)).mono (fun r hr => by
          rw [if_pos c1] at hr
          unfold OrP at hr
          rw [if_pos c2] at hr
          exact XP_er rfl hr)) (fun X1 Z1 hx => (EC.up (l_rOrder 0 X1 Z1 (h.rk1 (E64 hx)) (by omega) w) (by omega)).mono (fun r hr => by
          rw [if_pos c1] at hr
          unfold OrM at hr
          rw [h.j1 (E64 hx)] at hr
          rw [if_pos c2] at hr
          exact MP_er (h.rk1 (E64 hx)) (h.j1 (E64 hx)) hr)) (fun _ => rfl)
    · have h5 := ord_n h c2
      by_cases c3 : (sOrd X).1 < 0 ∨ ¬ w < sOpen (jx X 9)
      · exact mk_pair h (J := (jx X 9)) (v := (sErr 2)) (v2 := (sErr 2)) ((EC.up (l_order 0 X Z h.ij (by omega) w) (by omega)).mono (fun r hr => by
            rw [if_pos c1] at hr
            unfold OrP at hr
            rw [if_neg c2, if_pos c3] at hr
            obtain ⟨X9, ho, Z9, rfl⟩ := hr
            exact ⟨_, Z9, rfl, (XS.op ho rfl).err⟩)) (fun X1 Z1 hx => (EC.up (l_rOrder 0 X1 Z1 (h.rk1 (E64 hx)) (by omega) w) (by omega)).mono (fun r hr => by
            rw [if_pos c1] at hr
            unfold OrM at hr
            rw [h.j1 (E64 hx)] at hr
            have c4 : (rO X1).1 < 0 ∨ ¬ w < sOpen (jx X 9) := by rw [← (ord_TR h hx h5).neg]; exact c3
            rw [if_neg c2, if_pos c4] at hr
            exact MP_oq (h.rk1 (E64 hx)) (h.j1 (E64 hx)) hr)) (fun _ => rfl)
      · have c5 : ¬ (sOrd X).1 < 0 := fun hh => c3 (Or.inl hh)
        exact mk_pair h (J := (jx X 9)) (v := (if w < 0 then (sOrd X).1 - jx X 9 0 10 else (sOrd X).2.1 (nN w))) (v2 := (if w < 0 then (sOrd X).1 - jx X 9 0 10 else (sOrd X).2.1 (nN w))) ((EC.up (l_order 0 X Z h.ij (by omega) w) (by omega)).mono (fun r hr => by
            rw [if_pos c1] at hr
            unfold OrP at hr
            rw [if_neg c2, if_neg c3] at hr
            obtain ⟨X9, ho, Z9, rfl⟩ := hr
            exact ⟨_, Z9, rfl, XS.op ho rfl⟩)) (fun X1 Z1 hx => (EC.up (l_rOrder 0 X1 Z1 (h.rk1 (E64 hx)) (by omega) w) (by omega)).mono (fun r hr => by
            rw [if_pos c1] at hr
            unfold OrM at hr
            rw [h.j1 (E64 hx)] at hr
            have ht := ord_TR h hx h5
            have c4 : ¬ ((rO X1).1 < 0 ∨ ¬ w < sOpen (jx X 9)) := by rw [← ht.neg]; exact c3
            rw [if_neg c2, if_neg c4] at hr
            obtain ⟨v1, v2⟩ := ht.val c5
            have ev : (if w < 0 then (rO X1).1 else (rO X1).2.1 (nN w)) = (if w < 0 then (sOrd X).1 - jx X 9 0 10 else (sOrd X).2.1 (nN w)) := by
              by_cases cw : w < 0
              · rw [if_pos cw, if_pos cw, ← v1, show jx X 9 0 10 = nI (nN (jx X 9 0 10)) from h.ij.minute.1, nN_nI (by have := h.ij.minute.2; omega)]
              · rw [if_neg cw, if_neg cw]
                obtain ⟨q, _, q4, hq⟩ := wIn c1 cw
                refine (v2 (nN w) ?_).symm
                have hw : w < sOpen (jx X 9) := Classical.byContradiction (fun hh => c3 (Or.inr hh))
                rw [sOpen_un h.ij, hq, nI_ltI (by omega) (by omega)] at hw
                rw [hq, nN_nI (by omega)]
                exact hw
            rw [ev] at hr
            exact MP_oq (h.rk1 (E64 hx)) (h.j1 (E64 hx)) hr)) (fun _ => rfl)
  · exact mk_pair h (J := (jx X 9)) (v := (sErr 1)) (v2 := (sErr 1)) ((EC.up (l_order 0 X Z h.ij (by omega) w) (by omega)).mono (fun r hr => by
        rw [if_neg c1] at hr
        exact XP_er rfl hr)) (fun X1 Z1 hx => (EC.up (l_rOrder 0 X1 Z1 (h.rk1 (E64 hx)) (by omega) w) (by omega)).mono (fun r hr => by
        rw [if_neg c1] at hr
        exact MP_er (h.rk1 (E64 hx)) (h.j1 (E64 hx)) hr)) (fun _ => rfl)
theorem mk_pairF {X Z J : Nat → Nat → Int32} {j1 j2 : Nat} {as : List Value} (h : Rel X) (h1 : EC 200 j1 (.ref 0 :: as) (Wd X Z) (fun r => ∃ v, XP v J X r)) (h2 : ∀ X1 Z1, (∀ c, 63 ≤ c → X1 c = X c) → EC 200 j2 (.ref 63 :: as) (Wd X1 Z1) (fun r => ∃ v, MP v J X1 r)) : PAIR X Z j1 j2 as false := by
  refine h1.mono (fun r hr => ?_)
  obtain ⟨v, X1, Z1, rfl, hx⟩ := hr
  refine ⟨v, X1, Z1, rfl, (h2 X1 Z1 (fun c hc => hx.2.2.2 c (by omega) (by omega) (by omega) (by omega))).mono (fun r2 hr2 => ?_)⟩
  obtain ⟨v2, X2, Z2, rfl, hm⟩ := hr2
  exact ⟨v2, X2, Z2, rfl, rel_keep h hx hm, fun hh => by cases hh⟩
theorem sh_ex {X : Nat → Nat → Int32} (h : Rel X) {a : Nat} (ha : a < 4) : ∃ g, g ≤ 40 ∧ X 59 a = nI g ∧ X 77 a = nI g := (h.2.2.2.2.2.2 a ha).2.2.1
theorem sh_b {X : Nat → Nat → Int32} (h : Rel X) {a : Nat} (ha : a < 4) : X 76 a = X 60 a := (h.2.2.2.2.2.2 a ha).2.1
theorem p_orders {X Z : Nat → Nat → Int32} (h : Rel X) (s w : Int32) : PAIR X Z 105 195 [.int s, .int w] false := by
  by_cases c1 : (sIn s (nI 0) (nI 3) && sIn w (nI 0) (nI 1)) = true
  · have c2 := c1
    rw [Bool.and_eq_true] at c2
    obtain ⟨a, _, ha3, rfl⟩ := sIn_ex (by omega) (by omega) c2.1
    have ha : a < 4 := by omega
    obtain ⟨g, g40, hg, hg2⟩ := sh_ex h ha
    exact mk_pairF h (J := (jx X 9)) ((EC.up (l_orders 0 X Z h.ij (by omega) ha w c2.2 hg g40) (by omega)).mono (fun r hr => by
        obtain ⟨v, X8, Z8, rfl, ho | ⟨X7, ho, rfl⟩⟩ := hr
        · exact ⟨v, _, Z8, rfl, XS.ot ho rfl⟩
        · exact ⟨v, _, Z8, rfl, (XS.ot ho rfl).err⟩)) (fun X1 Z1 hx => (EC.up (l_rOrders 0 X1 Z1 (h.rk1 (E64 hx)) (by omega) ha w c2.2 (by rw [hx 77 (by omega)]; exact hg2) g40) (by omega)).mono (fun r hr => by
        obtain ⟨v, X8, Z8, rfl, e8, om⟩ := hr
        exact ⟨v, X8, Z8, rfl, by rw [e8]; exact h.j1 (E64 hx), by rw [e8]; exact (h.rk1 (E64 hx)), om⟩))
  · have cs2 : (sIn s (nI 0) (nI 3) && sIn w (nI 0) (nI 1)) = false := by simpa using c1
    exact mk_pair h (J := (jx X 9)) (v := (sErr 1)) (v2 := (sErr 1)) ((EC.up (l_orders_no 0 X Z s w cs2) (by omega)).mono (fun r hr => by
        exact XP_er rfl hr)) (fun X1 Z1 hx => (EC.up (l_rOrders_no 0 X1 Z1 s w cs2) (by omega)).mono (fun r hr => by
        exact MP_er (h.rk1 (E64 hx)) (h.j1 (E64 hx)) hr)) (fun hh => by cases hh)
theorem p_judge {X Z : Nat → Nat → Int32} (h : Rel X) (s : Int32) : PAIR X Z 118 219 [.int s] false := by
  by_cases cs : sIn s (nI 0) (nI 3) = true
  · obtain ⟨a, _, ha3, rfl⟩ := sIn_ex (by omega) (by omega) cs
    have ha : a < 4 := by omega
    obtain ⟨g, g40, hg, hg2⟩ := sh_ex h ha
    by_cases c1 : X 60 a = 0
    · exact mk_pair h (J := (jx X 9)) (v := (sErr 2)) (v2 := (sErr 2)) ((EC.up (l_judge 0 X Z h.ij ha hg g40) (by omega)).mono (fun r hr => by
          rw [if_pos c1] at hr
          exact XP_er rfl hr)) (fun X1 Z1 hx => (EC.up (l_rJudge_0 0 X1 Z1 ha (by rw [hx 76 (by omega), sh_b h ha]; exact c1)) (by omega)).mono (fun r hr => by
          exact MP_er (h.rk1 (E64 hx)) (h.j1 (E64 hx)) hr)) (fun hh => by cases hh)
    · exact mk_pairF h (J := (jx X 9)) ((EC.up (l_judge 0 X Z h.ij ha hg g40) (by omega)).mono (fun r hr => by
          rw [if_neg c1] at hr
          exact ⟨_, XP_ri rfl hr⟩)) (fun X1 Z1 hx => (EC.up (l_rJudge 0 X1 Z1 (h.rk1 (E64 hx)) (by omega) ha (by rw [hx 76 (by omega), sh_b h ha]; exact c1) (by rw [hx 77 (by omega)]; exact hg2) g40) (by omega)).mono (fun r hr => by
          obtain ⟨v, Z8, rfl⟩ := hr
          exact ⟨v, X1, Z8, rfl, MS.rf (h.rk1 (E64 hx)) (h.j1 (E64 hx))⟩))
  · have cs2 : sIn s (nI 0) (nI 3) = false := by simpa using cs
    exact mk_pair h (J := (jx X 9)) (v := (sErr 1)) (v2 := (sErr 1)) ((EC.up (l_judge_no 0 X Z s cs2) (by omega)).mono (fun r hr => by
        exact XP_er rfl hr)) (fun X1 Z1 hx => (EC.up (l_rJudge_no 0 X1 Z1 s cs2) (by omega)).mono (fun r hr => by
        exact MP_er (h.rk1 (E64 hx)) (h.j1 (E64 hx)) hr)) (fun hh => by cases hh)
theorem p_restore {X Z : Nat → Nat → Int32} (h : Rel X) : PAIR X Z 120 221 [] true := by
  have h04 : ∀ X1 : Nat → Nat → Int32, (∀ c, 63 ≤ c → X1 c = X c) → X1 63 3 = X 0 4 := fun X1 hx => by rw [hx 63 (by omega)]; exact h.2.2.2.2.1.symm
  by_cases c1 : X 0 4 = 0
  · exact mk_pair h (J := (jx X 9)) (v := (sErr 2)) (v2 := (sErr 2)) ((EC.up (l_restore 0 X Z h.im) (by omega)).mono (fun r hr => by
        rw [if_pos c1] at hr
        exact XP_er rfl hr)) (fun X1 Z1 hx => (EC.up (l_rRestore 0 X1 Z1) (by omega)).mono (fun r hr => by
        rw [if_pos (by rw [h04 X1 hx]; exact c1)] at hr
        exact MP_er (h.rk1 (E64 hx)) (h.j1 (E64 hx)) hr)) (fun _ => rfl)
  · obtain ⟨k1, k2⟩ : RK 99999 (X 65) ∧ jx X 22 = jm (X 65) := h.2.2.2.1.resolve_left c1
    exact mk_pair h (J := (jx X 22)) (v := (jx X 22 0 10)) (v2 := (jx X 22 0 10)) ((EC.up (l_restore 0 X Z h.im) (by omega)).mono (fun r hr => by
        rw [if_neg c1] at hr
        exact XP_rt hr rfl)) (fun X1 Z1 hx => (EC.up (l_rRestore 0 X1 Z1) (by omega)).mono (fun r hr => by
        rw [if_neg (by rw [h04 X1 hx]; exact c1), hx 65 (by omega)] at hr
        rw [show X 65 0 = jx X 22 0 10 from by rw [k2]; rfl] at hr
        obtain ⟨Z9, rfl⟩ := hr
        exact ⟨_, Z9, rfl, by rw [uc_same, k2], by rw [uc_same]; exact k1, OM.o64 (fun c hc => uc_ne hc)⟩)) (fun _ => rfl)
end
section
/-! BOTH SIDES, call by call: voices, sheets, the image -/
theorem sx8 (v : Int32) (i : Nat) (h : i < 32) : bt v.toInt8.toInt32 i = if i < 8 then bt v i else bt v 7 := by
  unfold bt
  rw [show v.toInt8.toInt32.toBitVec = (v.toBitVec.signExtend 8).signExtend 32 from rfl, BitVec.getLsbD_signExtend, BitVec.getLsbD_signExtend]
  rw [show (BitVec.signExtend 8 v.toBitVec).msb = (BitVec.signExtend 8 v.toBitVec).getLsbD 7 from BitVec.msb_eq_getLsbD_last _, BitVec.getLsbD_signExtend]
  by_cases h8 : i < 8
  · simp [h, h8, show i < 32 by omega]
  · simp [h, h8]
theorem sx16 (v : Int32) (i : Nat) (h : i < 32) : bt v.toInt16.toInt32 i = if i < 16 then bt v i else bt v 15 := by
  unfold bt
  rw [show v.toInt16.toInt32.toBitVec = (v.toBitVec.signExtend 16).signExtend 32 from rfl, BitVec.getLsbD_signExtend, BitVec.getLsbD_signExtend]
  rw [show (BitVec.signExtend 16 v.toBitVec).msb = (BitVec.signExtend 16 v.toBitVec).getLsbD 15 from BitVec.msb_eq_getLsbD_last _, BitVec.getLsbD_signExtend]
  by_cases h8 : i < 16
  · simp [h, h8, show i < 32 by omega]
  · simp [h, h8]
theorem bt255 (i : Nat) (h : i < 32) : bt (nI 255) i = decide (i < 8) := fin32 (p := fun i => bt (nI 255) i = decide (i < 8)) h (by decide +kernel)
theorem bt65535 (i : Nat) (h : i < 32) : bt 65535 i = decide (i < 16) := fin32 (p := fun i => bt 65535 i = decide (i < 16)) h (by decide +kernel)
theorem low8 (v : Int32) : v.toInt8.toInt32 &&& nI 255 = v &&& nI 255 := by
  apply bt_ext
  intro i hi
  rw [bt_and, bt_and, bt255 i hi, sx8 v i hi]
  by_cases h : i < 8
  · rw [if_pos h]
  · rw [decide_eq_false h, Bool.and_false, Bool.and_false]
theorem low16 (v : Int32) : v.toInt16.toInt32 &&& 65535 = v &&& 65535 := by
  apply bt_ext
  intro i hi
  rw [bt_and, bt_and, bt65535 i hi, sx16 v i hi]
  by_cases h : i < 16
  · rw [if_pos h]
  · rw [decide_eq_false h, Bool.and_false, Bool.and_false]
theorem two8 (v : Int32) : v.toInt8.toInt32.toInt8.toInt32 = v.toInt8.toInt32 := by
  apply bt_ext
  intro i hi
  rw [sx8 _ i hi, sx8 v i hi, sx8 v 7 (by omega)]
  by_cases h : i < 8
  · rw [if_pos h, if_pos h]
  · rw [if_neg h, if_neg h, if_pos (by omega)]
theorem two16 (v : Int32) : v.toInt16.toInt32.toInt16.toInt32 = v.toInt16.toInt32 := by
  apply bt_ext
  intro i hi
  rw [sx16 _ i hi, sx16 v i hi, sx16 v 15 (by omega)]
  by_cases h : i < 16
  · rw [if_pos h, if_pos h]
  · rw [if_neg h, if_neg h, if_pos (by omega)]
theorem un8 (v : Int32) : (v &&& nI 255).toInt8.toInt32 = v.toInt8.toInt32 := by
  apply bt_ext
  intro i hi
  rw [sx8 _ i hi, sx8 v i hi, bt_and, bt_and, bt255 i hi, bt255 7 (by omega)]
  by_cases h : i < 8
  · rw [if_pos h, if_pos h, decide_eq_true h, Bool.and_true]
  · rw [if_neg h, if_neg h]
    simp
theorem un16 (v : Int32) : (v &&& 65535).toInt16.toInt32 = v.toInt16.toInt32 := by
  apply bt_ext
  intro i hi
  rw [sx16 _ i hi, sx16 v i hi, bt_and, bt_and, bt65535 i hi, bt65535 15 (by omega)]
  by_cases h : i < 16
  · rw [if_pos h, if_pos h, decide_eq_true h, Bool.and_true]
  · rw [if_neg h, if_neg h]
    simp
theorem CR_put (b v : Int32) : CRl b (sLow v b) (yLow v b) := by
  unfold CRl sLow yLow
  by_cases h8 : b = nI 8
  · rw [if_pos h8, if_pos h8, if_pos h8, if_pos h8]
    exact ⟨(low8 v).symm, (two8 v).symm⟩
  · rw [if_neg h8, if_neg h8, if_neg h8, if_neg h8]
    by_cases h16 : b = nI 16
    · rw [if_pos h16, if_pos h16, if_pos h16, if_pos h16]
      exact ⟨(low16 v).symm, (two16 v).symm⟩
    · rw [if_neg h16, if_neg h16, if_neg h16, if_neg h16]
      exact ⟨rfl, rfl⟩
theorem CR_0 (b : Int32) : CRl b (nI 0) (nI 0) := by
  unfold CRl sLow yLow
  by_cases h8 : b = nI 8
  · rw [if_pos h8, if_pos h8]; decide +kernel
  · rw [if_neg h8, if_neg h8]
    by_cases h16 : b = nI 16
    · rw [if_pos h16, if_pos h16]; decide +kernel
    · rw [if_neg h16, if_neg h16]; exact ⟨rfl, rfl⟩
theorem CR_in {b c r : Int32} (h : CRl b c r) : sIn c (nI 0) (nI 9) = sIn r (nI 0) (nI 9) ∧ (sIn r (nI 0) (nI 9) = true → c = r) := by
  have key : (sIn c (nI 0) (nI 9) = true → c = r) → (sIn r (nI 0) (nI 9) = true → c = r) → sIn c (nI 0) (nI 9) = sIn r (nI 0) (nI 9) ∧ (sIn r (nI 0) (nI 9) = true → c = r) := by
    intro k1 k2
    refine ⟨?_, k2⟩
    cases h1 : sIn c (nI 0) (nI 9) with
    | true => rw [← k1 h1, h1]
    | false =>
      cases h2 : sIn r (nI 0) (nI 9) with
      | false => rfl
      | true => rw [k2 h2, h2] at h1; cases h1
  obtain ⟨h1, h2⟩ := h
  unfold sLow at h1
  unfold yLow at h2
  by_cases h8 : b = nI 8
  · rw [if_pos h8] at h1 h2
    refine key (fun hc => ?_) (fun hr => ?_)
    · obtain ⟨j, _, hj, e⟩ := sIn_ex (by omega) (by omega) hc
      rw [h2, ← un8, ← h1, e]
      exact (fin_le (m := 9) (p := fun j => (nI j).toInt8.toInt32 = nI j) hj (by decide +kernel)).symm
    · obtain ⟨j, _, hj, e⟩ := sIn_ex (by omega) (by omega) hr
      rw [h1, e]
      exact fin_le (m := 9) (p := fun j => nI j &&& nI 255 = nI j) hj (by decide +kernel)
  · rw [if_neg h8] at h1 h2
    by_cases h16 : b = nI 16
    · rw [if_pos h16] at h1 h2
      refine key (fun hc => ?_) (fun hr => ?_)
      · obtain ⟨j, _, hj, e⟩ := sIn_ex (by omega) (by omega) hc
        rw [h2, ← un16, ← h1, e]
        exact (fin_le (m := 9) (p := fun j => (nI j).toInt16.toInt32 = nI j) hj (by decide +kernel)).symm
      · obtain ⟨j, _, hj, e⟩ := sIn_ex (by omega) (by omega) hr
        rw [h1, e]
        exact fin_le (m := 9) (p := fun j => nI j &&& 65535 = nI j) hj (by decide +kernel)
    · rw [if_neg h16] at h1
      exact key (fun _ => h1) (fun _ => h1)
theorem jSc_al {f f' : Nat → Int32} (h : ∀ k, k < 40 → sIn (f k) (nI 0) (nI 9) = sIn (f' k) (nI 0) (nI 9) ∧ (sIn (f' k) (nI 0) (nI 9) = true → f k = f' k)) : ∀ (m i : Nat) (J : Nat → Nat → Int32), i + m ≤ 40 → jSc f m i J = jSc f' m i J
  | 0, _, _, _ => rfl
  | m + 1, i, J, hi => by
    obtain ⟨h1, h2⟩ := h i (by omega)
    cases hb : sIn (f' i) (nI 0) (nI 9) with
    | true => rw [jSc_y (by rw [h1]; exact hb), jSc_y hb, h2 hb]; exact jSc_al h m (i + 1) _ (by omega)
    | false => rw [jSc_n (by rw [h1]; exact hb), jSc_n hb]
theorem sc_J {f : Nat → Int32} : ∀ (m i : Nat) (J : Nat → Nat → Int32), jSc f m i J = jSc f m i J := fun _ _ _ => rfl
theorem p_screws {X Z : Nat → Nat → Int32} (h : Rel X) (s : Int32) : PAIR X Z 117 218 [.int s] true := by
  by_cases cs : sIn s (nI 0) (nI 3) = true
  · obtain ⟨a, _, ha3, rfl⟩ := sIn_ex (by omega) (by omega) cs
    have ha : a < 4 := by omega
    obtain ⟨g, g40, hg, hg2⟩ := sh_ex h ha
    by_cases c1 : X 60 a = 0
    · exact mk_pair h (J := (jx X 9)) (v := (sErr 2)) (v2 := (sErr 2)) ((EC.up (l_screws 0 X Z h.ij ha hg g40) (by omega)).mono (fun r hr => by
          rw [if_pos c1] at hr
          exact XP_er rfl hr)) (fun X1 Z1 hx => (EC.up (l_rScrews_0 0 X1 Z1 ha (by rw [hx 76 (by omega), sh_b h ha]; exact c1)) (by omega)).mono (fun r hr => by
          exact MP_er (h.rk1 (E64 hx)) (h.j1 (E64 hx)) hr)) (fun _ => rfl)
    · have h8 := jn8 h.ij
      have hal : jSc (X (55 + a)) (min g (jn (jx X 9))) 0 (jx X 9) = jSc (fun k => X 78 (40 * a + k)) (min g (jn (jx X 9))) 0 (jx X 9) := jSc_al (fun k hk => CR_in ((h.2.2.2.2.2.2 a ha).2.2.2 k hk)) _ _ _ (by omega)
      exact mk_pair h (J := (jSc (X (55 + a)) (min g (jn (jx X 9))) 0 (jx X 9)).1) (v := (nI (jSc (X (55 + a)) (min g (jn (jx X 9))) 0 (jx X 9)).2)) (v2 := (nI (jSc (X (55 + a)) (min g (jn (jx X 9))) 0 (jx X 9)).2)) ((EC.up (l_screws 0 X Z h.ij ha hg g40) (by omega)).mono (fun r hr => by
          rw [if_neg c1] at hr
          exact XP_rj hr)) (fun X1 Z1 hx => (EC.up (l_rScrews 0 X1 Z1 (h.rk1 (E64 hx)) ha (by rw [hx 76 (by omega), sh_b h ha]; exact c1) (by rw [hx 77 (by omega)]; exact hg2) g40) (by omega)).mono (fun r hr => by
          rw [h.j1 (E64 hx), hx 78 (by omega), ← hal] at hr
          exact MP_nj hr)) (fun _ => rfl)
  · have cs2 : sIn s (nI 0) (nI 3) = false := by simpa using cs
    exact mk_pair h (J := (jx X 9)) (v := (sErr 1)) (v2 := (sErr 1)) ((EC.up (l_screws_no 0 X Z s cs2) (by omega)).mono (fun r hr => by
        exact XP_er rfl hr)) (fun X1 Z1 hx => (EC.up (l_rScrews_no 0 X1 Z1 s cs2) (by omega)).mono (fun r hr => by
        exact MP_er (h.rk1 (E64 hx)) (h.j1 (E64 hx)) hr)) (fun _ => rfl)
theorem mk_pairC {X Z : Nat → Nat → Int32} {j1 j2 : Nat} {as : List Value} {v : Int32} {X1 : Nat → Nat → Int32} {X2 : Nat → Nat → Int32} (h1 : EC 200 j1 (.ref 0 :: as) (Wd X Z) (RI v X1)) (h2 : ∀ Z1, EC 200 j2 (.ref 63 :: as) (Wd X1 Z1) (RI v X2)) (hR : Rel X2) : PAIR X Z j1 j2 as true := by
  refine h1.mono (fun r hr => ?_)
  obtain ⟨Z1, rfl⟩ := hr
  refine ⟨v, X1, Z1, rfl, (h2 Z1).mono (fun r2 hr2 => ?_)⟩
  obtain ⟨Z2, rfl⟩ := hr2
  exact ⟨v, X2, Z2, rfl, hR, fun _ => rfl⟩
theorem rel_sheets {X X2 : Nat → Nat → Int32} (h : Rel X) (h1 : ∀ c, (c < 55 ∨ 60 < c) → (c < 76 ∨ 78 < c) → X2 c = X c) (hs : ∀ a, a < 4 → SR X2 a) : Rel X2 := by
  have h9 : jx X2 9 = jx X 9 := jx_off (fun c c1 c2 => h1 c (by omega) (by omega))
  have h22 : jx X2 22 = jx X 22 := jx_off (fun c c1 c2 => h1 c (by omega) (by omega))
  refine ⟨by rw [h1 64 (by omega) (by omega)]; exact h.rk, by rw [h9, h1 64 (by omega) (by omega)]; exact h.j, by rw [h22]; exact h.im, by rw [h1 0 (by omega) (by omega), h1 65 (by omega) (by omega), h22]; exact h.2.2.2.1, by rw [h1 0 (by omega) (by omega), h1 63 (by omega) (by omega)]; exact h.2.2.2.2.1, ?_, hs⟩
  unfold TRc
  rw [h1 51 (by omega) (by omega), h1 63 (by omega) (by omega), h1 52 (by omega) (by omega), h1 75 (by omega) (by omega)]
  exact h.2.2.2.2.2.1
theorem SR_put {X : Nat → Nat → Int32} (h : Rel X) {a j : Nat} (ha : a < 4) (hj : j < 40) (v : Int32) : Rel (ud (ud X (55 + a) j (sLow v (X 60 a))) 78 (40 * a + j) (yLow v (X 60 a))) := by
  refine rel_sheets h (fun c c1 c2 => by rw [ud_ne (by omega), ud_ne (by omega)]) (fun b hb => ?_)
  obtain ⟨s1, s2, s3, s4⟩ := h.2.2.2.2.2.2 b hb
  refine ⟨by rw [ud_ne (by omega), ud_ne (by omega)]; exact s1, by rw [ud_ne (by omega), ud_ne (by omega), ud_ne (by omega), ud_ne (by omega)]; exact s2, by rw [ud_ne (by omega), ud_ne (by omega), ud_ne (by omega), ud_ne (by omega)]; exact s3, fun k hk => ?_⟩
  rw [show ud (ud X (55 + a) j (sLow v (X 60 a))) 78 (40 * a + j) (yLow v (X 60 a)) 60 = X 60 from by rw [ud_ne (by omega), ud_ne (by omega)], show ud (ud X (55 + a) j (sLow v (X 60 a))) 78 (40 * a + j) (yLow v (X 60 a)) (55 + b) = ud X (55 + a) j (sLow v (X 60 a)) (55 + b) from by rw [ud_ne (by omega)], ud_same, show ud X (55 + a) j (sLow v (X 60 a)) 78 = X 78 from ud_ne (by omega)]
  by_cases hba : b = a
  · subst hba
    rw [ud_same, u1_at, u1_at]
    by_cases hkj : k = j
    · subst hkj
      rw [if_pos rfl, if_pos rfl]
      exact CR_put _ _
    · rw [if_neg hkj, if_neg (by omega)]
      exact s4 k hk
  · rw [ud_ne (by omega), u1_ne (by omega)]
    exact s4 k hk
theorem p_put {X Z : Nat → Nat → Int32} (h : Rel X) (s i v : Int32) : PAIR X Z 113 214 [.int s, .int i, .int v] true := by
  by_cases cs : sIn s (nI 0) (nI 3) = true
  · obtain ⟨a, _, ha3, rfl⟩ := sIn_ex (by omega) (by omega) cs
    have ha : a < 4 := by omega
    obtain ⟨g, g40, hg, hg2⟩ := sh_ex h ha
    by_cases c1 : X 60 a = 0
    · exact mk_pair h (J := (jx X 9)) (v := (sErr 2)) (v2 := (sErr 2)) ((EC.up (l_put 0 X Z ha i v hg g40) (by omega)).mono (fun r hr => by
          rw [if_pos c1] at hr
          exact XP_er rfl hr)) (fun X1 Z1 hx => (EC.up (l_rPut_0 0 X1 Z1 ha (by rw [hx 76 (by omega), sh_b h ha]; exact c1) i v) (by omega)).mono (fun r hr => by
          exact MP_er (h.rk1 (E64 hx)) (h.j1 (E64 hx)) hr)) (fun _ => rfl)
    · by_cases c2 : sIn i (nI 0) (nI g - nI 1) = true
      · obtain ⟨j, hj, rfl⟩ := sIn_lt (by omega) c2
        have hj2 : nN (nI j) = j := nN_nI (by omega)
        refine mk_pairC (v := nI 1) ((EC.up (l_put 0 X Z ha (nI j) v hg g40) (by omega)).mono (fun r hr => by
            rw [if_neg c1, if_pos c2, hj2] at hr
            exact hr)) (fun Z1 => (EC.up (l_rPut 0 (ud X (55 + a) j (sLow v (X 60 a))) Z1 ha (by rw [ud_ne (by omega), sh_b h ha]; exact c1) (nI j) v (g := g) (by rw [ud_ne (by omega)]; exact hg2) g40) (by omega)).mono (fun r hr => by
            rw [if_pos c2, hj2, show ud X (55 + a) j (sLow v (X 60 a)) 76 a = X 60 a from by rw [ud_ne (by omega)]; exact sh_b h ha] at hr
            exact hr)) (SR_put h ha (by omega) v)
      · exact mk_pair h (J := (jx X 9)) (v := (sErr 1)) (v2 := (sErr 1)) ((EC.up (l_put 0 X Z ha i v hg g40) (by omega)).mono (fun r hr => by
            rw [if_neg c1, if_neg c2] at hr
            exact XP_er rfl hr)) (fun X1 Z1 hx => (EC.up (l_rPut 0 X1 Z1 ha (by rw [hx 76 (by omega), sh_b h ha]; exact c1) i v (g := g) (by rw [hx 77 (by omega)]; exact hg2) g40) (by omega)).mono (fun r hr => by
            rw [if_neg c2] at hr
            exact MP_er (h.rk1 (E64 hx)) (h.j1 (E64 hx)) hr)) (fun _ => rfl)
  · have cs2 : sIn s (nI 0) (nI 3) = false := by simpa using cs
    exact mk_pair h (J := (jx X 9)) (v := (sErr 1)) (v2 := (sErr 1)) ((EC.up (l_put_no 0 X Z s i v cs2) (by omega)).mono (fun r hr => by
        exact XP_er rfl hr)) (fun X1 Z1 hx => (EC.up (l_rPut_no 0 X1 Z1 s i v cs2) (by omega)).mono (fun r hr => by
        exact MP_er (h.rk1 (E64 hx)) (h.j1 (E64 hx)) hr)) (fun _ => rfl)
end
section
/-! BOTH SIDES, call by call: sheets, voices, the image -/
theorem SR_sheet {X : Nat → Nat → Int32} (h : Rel X) {a g : Nat} (ha : a < 4) (g40 : g ≤ 40) {b : Int32} (hb : sBits b = true) : Rel (ySheet (xSheet X a b (nI g) 40) a b (nI g)) := by
  have e78 : xSheet X a b (nI g) 40 78 = X 78 := by unfold xSheet; rw [uc_ne (by omega), ud_ne (by omega), ud_ne (by omega)]
  refine rel_sheets h (fun c c1 c2 => by unfold ySheet xSheet; rw [uc_ne (by omega), ud_ne (by omega), ud_ne (by omega), uc_ne (by omega), ud_ne (by omega), ud_ne (by omega)]) (fun q hq => ?_)
  obtain ⟨s1, s2, s3, s4⟩ := h.2.2.2.2.2.2 q hq
  have e60 : ySheet (xSheet X a b (nI g) 40) a b (nI g) 60 q = if q = a then b else X 60 q := by unfold ySheet xSheet; rw [uc_ne (by omega), ud_ne (by omega), ud_ne (by omega), uc_ne (by omega), ud_ne (by omega), ud_same, u1_at]
  have e59 : ySheet (xSheet X a b (nI g) 40) a b (nI g) 59 q = if q = a then nI g else X 59 q := by unfold ySheet xSheet; rw [uc_ne (by omega), ud_ne (by omega), ud_ne (by omega), uc_ne (by omega), ud_same, u1_at, ud_ne (by omega)]
  have e76 : ySheet (xSheet X a b (nI g) 40) a b (nI g) 76 q = if q = a then b else X 76 q := by unfold ySheet xSheet; rw [uc_ne (by omega), ud_ne (by omega), ud_same, u1_at, uc_ne (by omega), ud_ne (by omega), ud_ne (by omega)]
  have e77 : ySheet (xSheet X a b (nI g) 40) a b (nI g) 77 q = if q = a then nI g else X 77 q := by unfold ySheet xSheet; rw [uc_ne (by omega), ud_same, u1_at, ud_ne (by omega), uc_ne (by omega), ud_ne (by omega), ud_ne (by omega)]
  have ec : ∀ k, k < 40 → ySheet (xSheet X a b (nI g) 40) a b (nI g) 78 (40 * q + k) = if q = a then nI 0 else X 78 (40 * q + k) := by
    intro k hk
    unfold ySheet
    rw [uc_same, e78]
    show (if 40 * a ≤ 40 * q + k ∧ 40 * q + k < 40 * a + 40 then nI 0 else X 78 (40 * q + k)) = _
    by_cases hqa : q = a
    · rw [if_pos hqa, if_pos ⟨by omega, by omega⟩]
    · rw [if_neg hqa, if_neg (by omega)]
  have er : ∀ k, k < 40 → ySheet (xSheet X a b (nI g) 40) a b (nI g) (55 + q) k = if q = a then nI 0 else X (55 + q) k := by
    intro k hk
    unfold ySheet xSheet
    rw [uc_ne (by omega), ud_ne (by omega), ud_ne (by omega)]
    by_cases hqa : q = a
    · subst hqa
      rw [uc_same, if_pos rfl]
      exact if_pos hk
    · rw [if_neg hqa, uc_ne (by omega), ud_ne (by omega), ud_ne (by omega)]
  refine ⟨?_, ?_, ?_, fun k hk => ?_⟩
  · rw [e60]
    split
    · exact hb
    · exact s1
  · rw [e76, e60]
    split
    · rfl
    · exact s2
  · rw [e59, e77]
    by_cases hqa : q = a
    · rw [if_pos hqa, if_pos hqa]
      exact ⟨g, g40, rfl, rfl⟩
    · rw [if_neg hqa, if_neg hqa]
      exact s3
  · rw [e60, er k hk, ec k hk]
    by_cases hqa : q = a
    · rw [if_pos hqa, if_pos hqa, if_pos hqa]
      exact CR_0 b
    · rw [if_neg hqa, if_neg hqa, if_neg hqa]
      exact s4 k hk
theorem p_sheet {X Z : Nat → Nat → Int32} (h : Rel X) (s b n : Int32) : PAIR X Z 112 213 [.int s, .int b, .int n] true := by
  by_cases cs : sIn s (nI 0) (nI 3) = true
  · obtain ⟨a, _, ha3, rfl⟩ := sIn_ex (by omega) (by omega) cs
    have ha : a < 4 := by omega
    by_cases cb : sBits b = true
    · have cb2 := cb
      unfold sBits at cb2
      simp only [Bool.or_eq_true, decide_eq_true_eq] at cb2
      rcases cb2 with e | e | e | e
      · rw [show b = nI 0 from e]
        exact mk_pairC (v := nI 1) ((EC.up (l_sheet 0 X Z ha (nI 0) n (by decide +kernel)) (by omega)).mono (fun r hr => by
            rw [if_pos (show nI 0 = 0 by decide +kernel)] at hr
            exact hr)) (fun Z1 => EC.up (l_rSheet0 0 (xSheet X a (nI 0) (nI 0) 40) Z1 ha n) (by omega)) (SR_sheet h ha (by omega) (by decide +kernel))
      · subst e
        by_cases c1 : n < 0
        · exact mk_pair h (J := (jx X 9)) (v := (sErr 3)) (v2 := (sErr 3)) ((EC.up (l_sheet 0 X Z ha (nI 8) n (by decide +kernel)) (by omega)).mono (fun r hr => by
              rw [if_neg (show ¬ nI 8 = 0 by decide +kernel), if_pos c1] at hr
              exact XP_er rfl hr)) (fun X1 Z1 hx => (EC.up (l_rSheet8 0 X1 Z1 ha n) (by omega)).mono (fun r hr => by
              rw [if_pos c1] at hr
              exact MP_er (h.rk1 (E64 hx)) (h.j1 (E64 hx)) hr)) (fun _ => rfl)
        · by_cases c2 : nI 40 < n
          · exact mk_pair h (J := (jx X 9)) (v := (sErr 1)) (v2 := (sErr 1)) ((EC.up (l_sheet 0 X Z ha (nI 8) n (by decide +kernel)) (by omega)).mono (fun r hr => by
                rw [if_neg (show ¬ nI 8 = 0 by decide +kernel), if_neg c1, if_pos c2] at hr
                exact XP_er rfl hr)) (fun X1 Z1 hx => (EC.up (l_rSheet8 0 X1 Z1 ha n) (by omega)).mono (fun r hr => by
                rw [if_neg c1, if_pos c2] at hr
                exact MP_er (h.rk1 (E64 hx)) (h.j1 (E64 hx)) hr)) (fun _ => rfl)
          · obtain ⟨g, hg, rfl⟩ := nI_of c1
            have g40 : g ≤ 40 := by
              rcases Nat.lt_or_ge 40 g with h9 | h9
              · exact absurd (nI_lt h9 hg) c2
              · exact h9
            exact mk_pairC (v := nI 1) ((EC.up (l_sheet 0 X Z ha (nI 8) (nI g) (by decide +kernel)) (by omega)).mono (fun r hr => by
                rw [if_neg (show ¬ nI 8 = 0 by decide +kernel), if_neg c1, if_neg c2] at hr
                exact hr)) (fun Z1 => (EC.up (l_rSheet8 0 (xSheet X a (nI 8) (nI g) 40) Z1 ha (nI g)) (by omega)).mono (fun r hr => by
                rw [if_neg c1, if_neg c2] at hr
                exact hr)) (SR_sheet h ha g40 (by decide +kernel))
      · subst e
        by_cases c1 : n < 0
        · exact mk_pair h (J := (jx X 9)) (v := (sErr 3)) (v2 := (sErr 3)) ((EC.up (l_sheet 0 X Z ha (nI 16) n (by decide +kernel)) (by omega)).mono (fun r hr => by
              rw [if_neg (show ¬ nI 16 = 0 by decide +kernel), if_pos c1] at hr
              exact XP_er rfl hr)) (fun X1 Z1 hx => (EC.up (l_rSheet16 0 X1 Z1 ha n) (by omega)).mono (fun r hr => by
              rw [if_pos c1] at hr
              exact MP_er (h.rk1 (E64 hx)) (h.j1 (E64 hx)) hr)) (fun _ => rfl)
        · by_cases c2 : nI 40 < n
          · exact mk_pair h (J := (jx X 9)) (v := (sErr 1)) (v2 := (sErr 1)) ((EC.up (l_sheet 0 X Z ha (nI 16) n (by decide +kernel)) (by omega)).mono (fun r hr => by
                rw [if_neg (show ¬ nI 16 = 0 by decide +kernel), if_neg c1, if_pos c2] at hr
                exact XP_er rfl hr)) (fun X1 Z1 hx => (EC.up (l_rSheet16 0 X1 Z1 ha n) (by omega)).mono (fun r hr => by
                rw [if_neg c1, if_pos c2] at hr
                exact MP_er (h.rk1 (E64 hx)) (h.j1 (E64 hx)) hr)) (fun _ => rfl)
          · obtain ⟨g, hg, rfl⟩ := nI_of c1
            have g40 : g ≤ 40 := by
              rcases Nat.lt_or_ge 40 g with h9 | h9
              · exact absurd (nI_lt h9 hg) c2
              · exact h9
            exact mk_pairC (v := nI 1) ((EC.up (l_sheet 0 X Z ha (nI 16) (nI g) (by decide +kernel)) (by omega)).mono (fun r hr => by
                rw [if_neg (show ¬ nI 16 = 0 by decide +kernel), if_neg c1, if_neg c2] at hr
                exact hr)) (fun Z1 => (EC.up (l_rSheet16 0 (xSheet X a (nI 16) (nI g) 40) Z1 ha (nI g)) (by omega)).mono (fun r hr => by
                rw [if_neg c1, if_neg c2] at hr
                exact hr)) (SR_sheet h ha g40 (by decide +kernel))
      · subst e
        by_cases c1 : n < 0
        · exact mk_pair h (J := (jx X 9)) (v := (sErr 3)) (v2 := (sErr 3)) ((EC.up (l_sheet 0 X Z ha (nI 32) n (by decide +kernel)) (by omega)).mono (fun r hr => by
              rw [if_neg (show ¬ nI 32 = 0 by decide +kernel), if_pos c1] at hr
              exact XP_er rfl hr)) (fun X1 Z1 hx => (EC.up (l_rSheet32 0 X1 Z1 ha n) (by omega)).mono (fun r hr => by
              rw [if_pos c1] at hr
              exact MP_er (h.rk1 (E64 hx)) (h.j1 (E64 hx)) hr)) (fun _ => rfl)
        · by_cases c2 : nI 40 < n
          · exact mk_pair h (J := (jx X 9)) (v := (sErr 1)) (v2 := (sErr 1)) ((EC.up (l_sheet 0 X Z ha (nI 32) n (by decide +kernel)) (by omega)).mono (fun r hr => by
                rw [if_neg (show ¬ nI 32 = 0 by decide +kernel), if_neg c1, if_pos c2] at hr
                exact XP_er rfl hr)) (fun X1 Z1 hx => (EC.up (l_rSheet32 0 X1 Z1 ha n) (by omega)).mono (fun r hr => by
                rw [if_neg c1, if_pos c2] at hr
                exact MP_er (h.rk1 (E64 hx)) (h.j1 (E64 hx)) hr)) (fun _ => rfl)
          · obtain ⟨g, hg, rfl⟩ := nI_of c1
            have g40 : g ≤ 40 := by
              rcases Nat.lt_or_ge 40 g with h9 | h9
              · exact absurd (nI_lt h9 hg) c2
              · exact h9
            exact mk_pairC (v := nI 1) ((EC.up (l_sheet 0 X Z ha (nI 32) (nI g) (by decide +kernel)) (by omega)).mono (fun r hr => by
                rw [if_neg (show ¬ nI 32 = 0 by decide +kernel), if_neg c1, if_neg c2] at hr
                exact hr)) (fun Z1 => (EC.up (l_rSheet32 0 (xSheet X a (nI 32) (nI g) 40) Z1 ha (nI g)) (by omega)).mono (fun r hr => by
                rw [if_neg c1, if_neg c2] at hr
                exact hr)) (SR_sheet h ha g40 (by decide +kernel))
    · have cb2 : sBits b = false := by simpa using cb
      exact mk_pair h (J := (jx X 9)) (v := (sErr 1)) (v2 := (sErr 1)) ((EC.up (l_sheet_no 0 X Z (nI a) b n (by rw [cb2, Bool.and_false])) (by omega)).mono (fun r hr => by
          exact XP_er rfl hr)) (fun X1 Z1 hx => (EC.up (l_rSheet_nb 0 X1 Z1 ha b n cb2) (by omega)).mono (fun r hr => by
          exact MP_er (h.rk1 (E64 hx)) (h.j1 (E64 hx)) hr)) (fun _ => rfl)
  · have cs2 : sIn s (nI 0) (nI 3) = false := by simpa using cs
    exact mk_pair h (J := (jx X 9)) (v := (sErr 1)) (v2 := (sErr 1)) ((EC.up (l_sheet_no 0 X Z s b n (by rw [cs2]; rfl)) (by omega)).mono (fun r hr => by
        exact XP_er rfl hr)) (fun X1 Z1 hx => (EC.up (l_rSheet_ns 0 X1 Z1 s b n cs2) (by omega)).mono (fun r hr => by
        exact MP_er (h.rk1 (E64 hx)) (h.j1 (E64 hx)) hr)) (fun _ => rfl)
theorem SR_move {X : Nat → Nat → Int32} (h : Rel X) {a p i j n : Nat} (ha : a < 4) (hp : p < 4) (heq : X 60 a = X 60 p) (hi : i + n ≤ 40) (hj : j + n ≤ 40) : Rel (uc (uc X (55 + p) (cpf (X (55 + a)) (X (55 + p)) i j n)) 78 (cpf (X 78) (X 78) (40 * a + i) (40 * p + j) n)) := by
  refine rel_sheets h (fun c c1 c2 => by rw [uc_ne (by omega), uc_ne (by omega)]) (fun q hq => ?_)
  obtain ⟨s1, s2, s3, s4⟩ := h.2.2.2.2.2.2 q hq
  refine ⟨by rw [uc_ne (by omega), uc_ne (by omega)]; exact s1, by rw [uc_ne (by omega), uc_ne (by omega), uc_ne (by omega), uc_ne (by omega)]; exact s2, by rw [uc_ne (by omega), uc_ne (by omega), uc_ne (by omega), uc_ne (by omega)]; exact s3, fun k hk => ?_⟩
  rw [uc_same, show uc (uc X (55 + p) (cpf (X (55 + a)) (X (55 + p)) i j n)) 78 (cpf (X 78) (X 78) (40 * a + i) (40 * p + j) n) 60 = X 60 from by rw [uc_ne (by omega), uc_ne (by omega)], uc_ne (show 55 + q ≠ 78 by omega)]
  by_cases hqp : q = p
  · subst hqp
    rw [uc_same, cpf_at, cpf_at]
    by_cases hk2 : j ≤ k ∧ k < j + n
    · rw [if_pos hk2, if_pos ⟨by omega, by omega⟩, show 40 * q + k - (40 * q + j) + (40 * a + i) = 40 * a + (k - j + i) by omega, ← heq]
      exact (h.2.2.2.2.2.2 a ha).2.2.2 _ (by omega)
    · rw [if_neg hk2, if_neg (by omega)]
      exact s4 k hk
  · rw [uc_ne (by omega), cpf_at, if_neg (by omega)]
    exact s4 k hk
theorem p_move {X Z : Nat → Nat → Int32} (h : Rel X) (s i p0 j n : Int32) : PAIR X Z 115 216 [.int s, .int i, .int p0, .int j, .int n] true := by
  by_cases c1 : (sIn s (nI 0) (nI 3) && sIn p0 (nI 0) (nI 3)) = true
  · have cs := c1
    rw [Bool.and_eq_true] at cs
    obtain ⟨a, _, ha3, rfl⟩ := sIn_ex (by omega) (by omega) cs.1
    have ha : a < 4 := by omega
    obtain ⟨p, _, hp3, rfl⟩ := sIn_ex (by omega) (by omega) cs.2
    have hp : p < 4 := by omega
    obtain ⟨g, g40, hg, hg2⟩ := sh_ex h ha
    obtain ⟨e, e40, he, he2⟩ := sh_ex h hp
    by_cases c2 : X 60 a = 0 ∨ X 60 p = 0
    · exact mk_pair h (J := (jx X 9)) (v := (sErr 2)) (v2 := (sErr 2)) ((EC.up (l_move 0 X Z ha hp i j n hg g40 he e40) (by omega)).mono (fun r hr => by
          rw [if_pos c2] at hr
          exact XP_er rfl hr)) (fun X1 Z1 hx => (EC.up (l_rMove_0 0 X1 Z1 ha hp i j n (by rw [hx 76 (by omega), sh_b h ha, sh_b h hp]; exact c2)) (by omega)).mono (fun r hr => by
          exact MP_er (h.rk1 (E64 hx)) (h.j1 (E64 hx)) hr)) (fun _ => rfl)
    · have ca : ¬ X 60 a = 0 := fun hh => c2 (Or.inl hh)
      have cp : ¬ X 60 p = 0 := fun hh => c2 (Or.inr hh)
      by_cases c3 : X 60 a = X 60 p
      · by_cases c4 : (sStand g i n && sStand e j n) = true
        · have c5 := c4
          rw [Bool.and_eq_true] at c5
          obtain ⟨i0, n0, q1, hi0, hn0⟩ := stand_ex g40 c5.1
          obtain ⟨j0, n1, q2, hj0, hn1⟩ := stand_ex e40 c5.2
          have hn01 : n0 = n1 := nIj (by omega) (by omega) (hn0.symm.trans hn1)
          have ei : nN i = i0 := by rw [hi0]; exact nN_nI (by omega)
          have ej : nN j = j0 := by rw [hj0]; exact nN_nI (by omega)
          have en : nN n = n0 := by rw [hn0]; exact nN_nI (by omega)
          exact mk_pairC (v := n) ((EC.up (l_move 0 X Z ha hp i j n hg g40 he e40) (by omega)).mono (fun r hr => by
              rw [if_neg c2, if_pos c3, if_pos c4] at hr
              exact hr)) (fun Z1 => (EC.up (l_rMove 0 (uc X (55 + p) (cpf (X (55 + a)) (X (55 + p)) (nN i) (nN j) (nN n))) Z1 ha hp i j n (by rw [uc_ne (by omega), sh_b h ha]; exact ca) (by rw [uc_ne (by omega), sh_b h hp]; exact cp) (by rw [uc_ne (by omega), sh_b h ha, sh_b h hp]; exact c3) (g := g) (e := e) (by rw [uc_ne (by omega)]; exact hg2) g40 (by rw [uc_ne (by omega)]; exact he2) e40 c4) (by omega)).mono (fun r hr => by
              rw [show uc X (55 + p) (cpf (X (55 + a)) (X (55 + p)) (nN i) (nN j) (nN n)) 78 = X 78 from uc_ne (by omega)] at hr
              exact hr)) (SR_move h ha hp c3 (by omega) (by omega))
        · have c5 : yMay g e i j n = false := by rw [may_eq g40 e40]; simpa using c4
          exact mk_pair h (J := (jx X 9)) (v := (sErr 1)) (v2 := (sErr 1)) ((EC.up (l_move 0 X Z ha hp i j n hg g40 he e40) (by omega)).mono (fun r hr => by
              rw [if_neg c2, if_pos c3, if_neg c4] at hr
              exact XP_er rfl hr)) (fun X1 Z1 hx => (EC.up (l_rMove_b 0 X1 Z1 ha hp i j n (by rw [hx 76 (by omega), sh_b h ha]; exact ca) (by rw [hx 76 (by omega), sh_b h hp]; exact cp) (by rw [hx 76 (by omega), sh_b h ha, sh_b h hp]; exact c3) (g := g) (e := e) (by rw [hx 77 (by omega)]; exact hg2) (by rw [hx 77 (by omega)]; exact he2) c5) (by omega)).mono (fun r hr => by
              exact MP_er (h.rk1 (E64 hx)) (h.j1 (E64 hx)) hr)) (fun _ => rfl)
      · exact mk_pair h (J := (jx X 9)) (v := (sErr 5)) (v2 := (sErr 5)) ((EC.up (l_move 0 X Z ha hp i j n hg g40 he e40) (by omega)).mono (fun r hr => by
            rw [if_neg c2, if_neg c3] at hr
            exact XP_er rfl hr)) (fun X1 Z1 hx => (EC.up (l_rMove_k 0 X1 Z1 ha hp i j n (by rw [hx 76 (by omega), sh_b h ha]; exact ca) (by rw [hx 76 (by omega), sh_b h hp]; exact cp) (by rw [hx 76 (by omega), sh_b h ha, sh_b h hp]; exact c3)) (by omega)).mono (fun r hr => by
            exact MP_er (h.rk1 (E64 hx)) (h.j1 (E64 hx)) hr)) (fun _ => rfl)
  · have cs2 : (sIn s (nI 0) (nI 3) && sIn p0 (nI 0) (nI 3)) = false := by simpa using c1
    exact mk_pair h (J := (jx X 9)) (v := (sErr 1)) (v2 := (sErr 1)) ((EC.up (l_move_no 0 X Z s i p0 j n cs2) (by omega)).mono (fun r hr => by
        exact XP_er rfl hr)) (fun X1 Z1 hx => (EC.up (l_rMove_no 0 X1 Z1 s i p0 j n cs2) (by omega)).mono (fun r hr => by
        exact MP_er (h.rk1 (E64 hx)) (h.j1 (E64 hx)) hr)) (fun _ => rfl)
theorem rel_voice {X : Nat → Nat → Int32} (h : Rel X) {n m : Int32} {t t' : VT} (ht : VA t t') (h40 : t.1 ≤ 40) : Rel (YT (XT (xStart X n m) t) t') := by
  have hc : ∀ c, c ≠ 51 → c ≠ 52 → c ≠ 63 → c ≠ 75 → YT (XT (xStart X n m) t) t' c = X c := by
    intro c a1 a2 a3 a4
    unfold YT XT xStart
    rw [ud_ne a3, uc_ne a4, ud_ne a1, uc_ne a2, ud_ne a1, ud_ne a1, ud_ne a1]
  have h63 : ∀ j, j ≠ 21 → YT (XT (xStart X n m) t) t' 63 j = X 63 j := by
    intro j hj
    unfold YT XT xStart
    rw [ud_same, u1_ne hj, uc_ne (by omega), ud_ne (by omega), uc_ne (by omega), ud_ne (by omega), ud_ne (by omega), ud_ne (by omega)]
  have h9 : jx (YT (XT (xStart X n m) t) t') 9 = jx X 9 := jx_off (fun c c1 c2 => hc c (by omega) (by omega) (by omega) (by omega))
  have h22 : jx (YT (XT (xStart X n m) t) t') 22 = jx X 22 := jx_off (fun c c1 c2 => hc c (by omega) (by omega) (by omega) (by omega))
  refine ⟨by rw [hc 64 (by omega) (by omega) (by omega) (by omega)]; exact h.rk, by rw [h9, hc 64 (by omega) (by omega) (by omega) (by omega)]; exact h.j, by rw [h22]; exact h.im, by rw [hc 0 (by omega) (by omega) (by omega) (by omega), hc 65 (by omega) (by omega) (by omega) (by omega), h22]; exact h.2.2.2.1, by rw [hc 0 (by omega) (by omega) (by omega) (by omega), h63 3 (by omega)]; exact h.2.2.2.2.1, ⟨t.1, h40, ?_, ?_, fun k hk => ?_⟩, fun a ha => (h.2.2.2.2.2.2 a ha).keep ha (fun c c1 c2 => hc c (by omega) (by omega) (by omega) (by omega)) (fun c c1 c2 => hc c (by omega) (by omega) (by omega) (by omega))⟩
  · unfold YT XT
    rw [ud_ne (by omega), uc_ne (by omega), ud_same, u1_same]
  · unfold YT
    rw [ud_same, u1_same, ht.1]
  · unfold YT XT
    rw [ud_ne (by omega), uc_ne (by omega), ud_ne (by omega), uc_same, ud_ne (by omega), uc_same]
    exact ht.2 k hk
theorem VA_0 {f g : Nat → Int32} : VA (0, f) (0, g) := ⟨rfl, fun k hk => absurd hk (Nat.not_lt_zero k)⟩
theorem xs64 {X : Nat → Nat → Int32} {n m : Int32} {t : VT} {c : Nat} (h1 : c ≠ 51) (h2 : c ≠ 52) : XT (xStart X n m) t c = X c := by
  unfold XT xStart
  rw [ud_ne h1, uc_ne h2, ud_ne h1, ud_ne h1, ud_ne h1]
theorem p_voice {X Z : Nat → Nat → Int32} (h : Rel X) (s w x : Int32) : PAIR X Z 110 200 [.int s, .int w, .int x] true := by
  by_cases cs : jHas (jx X 9) s = true
  · obtain ⟨k, hk, rfl⟩ := xHas_k h.ij (show xHas X s = true from cs)
    have hk1 : ∀ X1 : Nat → Nat → Int32, X1 64 = X 64 → k < jn (jm (X1 64)) := fun X1 e => by rw [h.j1 e]; exact hk
    by_cases c1 : sIn w (nI 0) (nI 3) = true
    · have hv : VQ (sVoice (sKind (jx X 9) k) k (jx X 9 2 k) w x (0, X 52)) (sVoice (sKind (jx X 9) k) k (jx X 9 2 k) w x (0, X 75)) := VA.voice (t := (0, X 52)) (t' := (0, X 75)) VA_0
      have e64 : (XT (xStart X (nI k) (jx X 9 2 k)) (sVoice (sKind (jx X 9) k) k (jx X 9 2 k) w x (0, X 52)).2) 64 = X 64 := xs64 (by omega) (by omega)
      refine mk_pairC (v := (sVoice (sKind (jx X 9) k) k (jx X 9 2 k) w x (0, X 52)).1) ((EC.up (l_voice 0 X Z h.ij hk w x) (by omega)).mono (fun r hr => by
          rw [if_pos c1] at hr
          exact hr)) (fun Z1 => (EC.up (l_rVoice 0 (XT (xStart X (nI k) (jx X 9 2 k)) (sVoice (sKind (jx X 9) k) k (jx X 9 2 k) w x (0, X 52)).2) Z1 (h.rk1 e64) (by rw [h.j1 e64]; exact hk) w x) (by omega)).mono (fun r hr => by
          rw [if_pos c1, h.j1 e64, show (XT (xStart X (nI k) (jx X 9 2 k)) (sVoice (sKind (jx X 9) k) k (jx X 9 2 k) w x (0, X 52)).2) 75 = X 75 from xs64 (by omega) (by omega), ← hv.1] at hr
          exact hr)) (rel_voice h hv.2 (sVoice_le (t := (0, X 52)) (Nat.zero_le 40)))
    · exact mk_pair h (J := (jx X 9)) (v := (sErr 1)) (v2 := (sErr 1)) ((EC.up (l_voice 0 X Z h.ij hk w x) (by omega)).mono (fun r hr => by
          rw [if_neg c1] at hr
          exact XP_er rfl hr)) (fun X1 Z1 hx => (EC.up (l_rVoice 0 X1 Z1 (h.rk1 (E64 hx)) (hk1 X1 (E64 hx)) w x) (by omega)).mono (fun r hr => by
          rw [if_neg c1] at hr
          exact MP_er (h.rk1 (E64 hx)) (h.j1 (E64 hx)) hr)) (fun _ => rfl)
  · have cs2 : jHas (jx X 9) s = false := by simpa using cs
    exact mk_pair h (J := (jx X 9)) (v := sErr 1) (v2 := sErr 1) ((EC.up (l_voice_no 0 X Z s w x (show xHas X s = false from cs2)) (by omega)).mono (fun r hr => by
        exact XP_er rfl hr)) (fun X1 Z1 hx => (EC.up (l_rVoice_no 0 X1 Z1 (h.rk1 (E64 hx)) s w x (by rw [h.j1 (E64 hx)]; exact cs2)) (by omega)).mono (fun r hr => by
        exact MP_er (h.rk1 (E64 hx)) (h.j1 (E64 hx)) hr)) (fun _ => rfl)
theorem p_image {X Z : Nat → Nat → Int32} (h : Rel X) : PAIR X Z 119 220 [] true := by
  refine (EC.up (l_image 0 X Z h.ij) (show 0 + 3 ≤ 200 by omega)).mono (fun r hr => ?_)
  obtain ⟨X1, Z1, rfl, h22, ho⟩ := hr
  refine ⟨X 0 4 + nI 1, X1, Z1, rfl, (EC.up (l_rImage 0 X1 Z1) (show 0 + 3 ≤ 200 by omega)).mono (fun r2 hr2 => ?_)⟩
  obtain ⟨Z2, rfl⟩ := hr2
  have hc : ∀ c, (c < 22 ∨ 34 < c) → c ≠ 0 → X1 c = X c := fun c c1 c2 => by rw [ho c (by omega), ud_ne c2]
  have h04 : X1 0 4 = X 0 4 + nI 1 := by rw [ho 0 (by omega), ud_same, u1_same]
  have h633 : X1 63 3 = X 0 4 := by rw [hc 63 (by omega) (by omega)]; exact h.2.2.2.2.1.symm
  have hb : ∀ c, c ≠ 63 → c ≠ 65 → ud (uc X1 65 (X1 64)) 63 3 (X1 63 3 + nI 1) c = X1 c := fun c a1 a2 => by rw [ud_ne a1, uc_ne a2]
  have e64 : X1 64 = X 64 := hc 64 (by omega) (by omega)
  have k22 : jx (ud (uc X1 65 (X1 64)) 63 3 (X1 63 3 + nI 1)) 22 = jx X 9 := by rw [← h22]; exact jx_off (fun c c1 c2 => hb c (by omega) (by omega))
  have k9 : jx (ud (uc X1 65 (X1 64)) 63 3 (X1 63 3 + nI 1)) 9 = jx X 9 := jx_off (fun c c1 c2 => by rw [hb c (by omega) (by omega)]; exact hc c (by omega) (by omega))
  have k65 : ud (uc X1 65 (X1 64)) 63 3 (X1 63 3 + nI 1) 65 = X 64 := by rw [ud_ne (by omega), uc_same, e64]
  refine ⟨_, _, Z2, rfl, ⟨by rw [hb 64 (by omega) (by omega), e64]; exact h.rk, by rw [k9, hb 64 (by omega) (by omega), e64]; exact h.j, by rw [k22]; exact h.ij, Or.inr ⟨by rw [k65]; exact h.rk, by rw [k22, k65]; exact h.j⟩, ?_, ?_, fun a ha => (h.2.2.2.2.2.2 a ha).keep ha (fun c c1 c2 => by rw [hb c (by omega) (by omega)]; exact hc c (by omega) (by omega)) (fun c c1 c2 => by rw [hb c (by omega) (by omega)]; exact hc c (by omega) (by omega))⟩, fun _ => by rw [h633]⟩
  · rw [hb 0 (by omega) (by omega), h04, ud_same, u1_same, h633]
  · obtain ⟨g, g1, g2, g3, g4⟩ := h.2.2.2.2.2.1
    refine ⟨g, g1, by rw [hb 51 (by omega) (by omega), hc 51 (by omega) (by omega)]; exact g2, by rw [ud_same, u1_ne (by omega), uc_ne (by omega), hc 63 (by omega) (by omega)]; exact g3, fun k hk => by rw [hb 52 (by omega) (by omega), hc 52 (by omega) (by omega), hb 75 (by omega) (by omega), hc 75 (by omega) (by omega)]; exact g4 k hk⟩
end
section
/-! THE LAW'S OWN FRAME: rules, the counts of what is made standing at 79 and 3295 -/
def LSP (xs : List Int32) : List (List Int32) := [[0, 0, 0, 0, 1, 2, 3], xs]
def LG (xs : List Int32) (pc : Nat) (L : ab_Lo) (st : List Value) (w : ab_W) (P : ab_R → Prop) : Prop := ∃ r, ev_Run tb SP (LSP xs) 200 tb_mL (pc, L, st, w, 79, 3295) r ∧ P r
section LGS
variable {xs : List Int32} {pc pc' lk n : Nat} {L L' : ab_Lo} {st st' : List Value} {w w' : ab_W} {P : ab_R → Prop} {ins : Instr} {X Z : Nat → Nat → Int32}
theorem lg_p (hf : ab_fetch tb_tL pc = some (ins, lk)) (h : ab_pure ins st = some st') (hp : pc + ab_len ins = pc') (k : LG xs pc' L st' w P) : LG xs pc L st w P := by
  obtain ⟨r, h1, h2⟩ := k
  subst hp
  exact ⟨r, ev_pure hf h h1, h2⟩
theorem lg_l (hf : ab_fetch tb_tL pc = some (ins, lk)) (h : ab_loc 4 ins L st = some (L', st')) (hp : pc + ab_len ins = pc') (k : LG xs pc' L' st' w P) : LG xs pc L st w P := by
  obtain ⟨r, h1, h2⟩ := k
  subst hp
  exact ⟨r, ev_loc hf h h1, h2⟩
theorem lg_h (hf : ab_fetch tb_tL pc = some (ins, lk)) (h : ab_heap tb (LSP xs) ins lk st w = some (st', w')) (hp : pc + ab_len ins = pc') (k : LG xs pc' L st' w' P) : LG xs pc L st w P := by
  obtain ⟨r, h1, h2⟩ := k
  subst hp
  exact ⟨r, ev_heap hf h h1, h2⟩
theorem lg_bi (v : Int32) {m : Int} (hf : ab_fetch tb_tL pc = some (.bipush m, lk)) (hv : (Int8.ofInt m).toInt32 = v) (hp : pc + 2 = pc') (k : LG xs pc' L (.int v :: st) w P) : LG xs pc L st w P := lg_p hf (by rw [← hv]; rfl) hp k
theorem lg_b (hf : ab_fetch tb_tL pc = some (ins, lk)) (h : ab_br ins pc lk st = some (pc', st')) (k : LG xs pc' L st' w P) : LG xs pc L st w P := by
  obtain ⟨r, h1, h2⟩ := k
  exact ⟨r, ev_br hf h h1, h2⟩
theorem lg_g {off : Int} (hf : ab_fetch tb_tL pc = some (.goto off, lk)) (hp : lk = pc') (k : LG xs pc' L st w P) : LG xs pc L st w P := lg_b hf (by rw [← hp]; rfl) k
theorem lg_ret {v : Value} (hf : ab_fetch tb_tL pc = some (ins, lk)) (h : ab_ret (some .boolean) ins st = some (some v)) (k : P (some v, w)) : LG xs pc L st w P := ⟨_, ev_ret hf h, k⟩
theorem ab_ix_at (h : n < xs.length) (hl : xs.length ≤ 4000) : ab_ix xs (nI n) = some (xs.getD n 0) := by
  unfold ab_ix
  rw [decide_eq_false (nI_pos (by omega)), nI_clamp (by omega), ab_nth_eq, List.getElem?_eq_getElem h]
  simp [List.getD_eq_getElem?_getD, List.getElem?_eq_getElem h]
theorem lg_ia {iv : Int32} (k : Nat) (hf : ab_fetch tb_tL pc = some (.iaload, lk)) (hi : iv = nI n + nI k) (hn : n + k < xs.length) (hl : xs.length ≤ 4000) (hp : pc + 1 = pc') (kk : LG xs pc' L (.int (xs.getD (n + k) 0) :: st) w P) : LG xs pc L (.int iv :: .ref 1000001 :: st) w P := by
  refine lg_h hf ?_ hp kk
  have e : ab_ix xs iv = some (xs.getD (n + k) 0) := by rw [hi, nI_add]; exact ab_ix_at hn hl
  show (match ab_ix xs iv with
    | some v => some (Value.int v :: st, w)
    | none => none) = _
  rw [e]
theorem lg_al (hf : ab_fetch tb_tL pc = some (.arraylength, lk)) (hp : pc + 1 = pc') (kk : LG xs pc' L (.int (nI xs.length) :: st) w P) : LG xs pc L (.ref 1000001 :: st) w P := lg_h hf rfl hp kk
theorem ask_inv_n {j cn sn : Nat} {M : ab_M} {As rest : List Value} (h1 : ab_room rest = true) (h2 : qOK j = true) (h3 : Nat.ble cn M.2.2.2.2.1 = true) (h4 : Nat.ble sn M.2.2.2.2.2.1 = true) : ask_inv tb M j As L rest w cn sn = some (j, As, rest, cn, sn) := by
  unfold qOK at h2
  unfold ask_inv
  split at h2
  · rename_i Mj hj
    rw [hj]
    dsimp only
    rw [Bool.and_eq_true] at h2
    have e1 := Nat.eq_of_beq_eq_true h2.1
    have e2 := Nat.eq_of_beq_eq_true h2.2
    rw [e1, e2, h1, Nat.add_zero, Nat.add_zero, h3, h4]
    rfl
  · cases h2
theorem ask_qI_n {c cls j cn sn : Nat} {M : ab_M} {fs As rest : List Value} (hi : isCI ins = true) (h : qI lk cls st = some (c, j, As, rest)) (hcell : ab_cell w c = some (.inl (cls, fs))) (h3 : Nat.ble cn M.2.2.2.2.1 = true) (h4 : Nat.ble sn M.2.2.2.2.2.1 = true) : ask tb M ins lk L st w cn sn = some (j, As, rest, cn, sn) := by
  have hgo : ask tb M ins lk L st w cn sn = ask_go tb M lk L st w cn sn := by cases ins <;> first | rfl | (cases hi; done)
  rw [hgo]
  unfold qI at h
  unfold ask_go
  split at h
  · cases h
  · rename_i g hg
    rw [hg]
    dsimp only
    cases hk : (Nat.beq g.2.2.1 0 || (Nat.beq g.2.2.1 1 || (Nat.beq g.2.2.1 10 || (Nat.beq g.2.2.1 11 || Nat.beq g.2.2.1 13)))) with
    | false => rw [hk] at h; cases h
    | true =>
      rw [hk] at h
      simp only [cond_true] at h
      have key : ask_inst tb M g L st w cn sn = some (j, As, rest, cn, sn) := by
        unfold ask_inst
        split at h
        · rename_i r rest0 hst
          rw [hst]
          dsimp only
          split at h
          · rename_i q hq
            cases hb : (Nat.beq (st.take g.2.2.2.2.1).length g.2.2.2.2.1 && (ab_room rest0 && qOK q.2.1)) with
            | false => rw [hb] at h; cases h
            | true =>
              rw [hb] at h
              cases h
              rw [hcell]
              dsimp only
              rw [hq]
              dsimp only
              simp only [Bool.and_eq_true] at hb
              rw [hb.1]
              exact ask_inv_n hb.2.1 hb.2.2 h3 h4
          · cases h
        · cases h
      simp only [Bool.or_eq_true] at hk
      rcases hk with hk | hk | hk | hk | hk <;> (rw [Nat.eq_of_beq_eq_true hk]; exact key)
theorem lg_cI (cls : Nat) {c j : Nat} {fs As rest : List Value} {Q : ab_R → Prop} (hf : ab_fetch tb_tL pc = some (ins, lk)) (hi : isCI ins = true) (hq : qI lk cls st = some (c, j, As, rest)) (hc : Nat.blt c 79 = true) (ho : cO c (X c) (Z c) = .inl (cls, fs)) (hp : pc + 3 = pc') (h : EC 200 j As (Wd X Z) Q) (k : ∀ r, Q r → LG xs pc' L (r.1.toList ++ rest) r.2 P) : LG xs pc L st (Wd X Z) P := by
  obtain ⟨r1, h1, h2⟩ := h
  obtain ⟨r, h3, h4⟩ := k r1 h2
  subst hp
  exact ⟨r, ev_ask hf (ask_qI_n hi hq ((Wd_cell hc).trans (congrArg some ho)) rfl rfl) h1 h3, h4⟩
/-- the second call of a pair -/
def P2 (X Z : Nat → Nat → Int32) (j2 : Nat) (as : List Value) (c : Bool) (v : Int32) : Prop := EC 200 j2 (.ref 63 :: as) (Wd X Z) (fun r2 => ∃ v2 X2 Z2, r2 = (some (.int v2), Wd X2 Z2) ∧ Rel X2 ∧ (c = true → v = v2))
theorem lg_A {j1 j2 i : Nat} {as rest : List Value} {c : Bool} (h : PAIR X Z j1 j2 as c) (hf : ab_fetch tb_tL pc = some (.invokevirtual i, lk)) (hq : qI lk 11 st = some (0, j1, .ref 0 :: as, rest)) (hp : pc + 3 = pc') (k : ∀ v X1 Z1, P2 X1 Z1 j2 as c v → LG xs pc' L (.int v :: rest) (Wd X1 Z1) P) : LG xs pc L st (Wd X Z) P :=
  lg_cI 11 hf rfl hq rfl rfl hp h (fun r hr => by
    obtain ⟨v, X1, Z1, rfl, h2⟩ := hr
    exact k v X1 Z1 h2)
theorem lg_B {j2 i : Nat} {v : Int32} {as rest : List Value} {c : Bool} (h : P2 X Z j2 as c v) (hf : ab_fetch tb_tL pc = some (.invokevirtual i, lk)) (hq : qI lk 12 st = some (63, j2, .ref 63 :: as, rest)) (hp : pc + 3 = pc') (k : ∀ v2 X2 Z2, Rel X2 → (c = true → v = v2) → LG xs pc' L (.int v2 :: rest) (Wd X2 Z2) P) : LG xs pc L st (Wd X Z) P :=
  lg_cI 12 hf rfl hq rfl rfl hp h (fun r hr => by
    obtain ⟨v2, X2, Z2, rfl, h2, h3⟩ := hr
    exact k v2 X2 Z2 h2 h3)
theorem lg_eqT {x y : Int32} {off : Int} (hf : ab_fetch tb_tL pc = some (.if_icmp .eq off, lk)) (h : x = y) (hp : lk = pc') (k : LG xs pc' L st w P) : LG xs pc L (.int y :: .int x :: st) w P := by
  refine lg_b hf ?_ k
  show some (cond (decide (x = y)) lk (pc + 3), st) = _
  rw [decide_eq_true h, hp]
  rfl
theorem nI_subI {a : Nat} (ha : a ≤ 4000) : (nI a - nI 6).toInt = (a : Int) - 6 := by
  by_cases h : 6 ≤ a
  · rw [nI_sub h, nI_toInt (by omega)]; omega
  · rcases (show a = 0 ∨ a = 1 ∨ a = 2 ∨ a = 3 ∨ a = 4 ∨ a = 5 by omega) with rfl | rfl | rfl | rfl | rfl | rfl <;> decide +kernel
theorem lg_gt {off : Int} {a : Nat} (hf : ab_fetch tb_tL pc = some (.if_icmp .gt off, lk)) (ha : a ≤ 4000) (hn : n ≤ 4000) (hp : pc + 3 = pc') {pd : Nat} (hd : lk = pd) (k1 : ¬ n + 6 ≤ a → LG xs pd L st w P) (k2 : n + 6 ≤ a → LG xs pc' L st w P) : LG xs pc L (.int (nI a - nI 6) :: .int (nI n) :: st) w P := by
  have e : ab_c2 .gt (nI n) (nI a - nI 6) = decide (¬ n + 6 ≤ a) := by
    show decide (nI a - nI 6 < nI n) = _
    rw [decide_eq_decide, Int32.lt_iff_toInt_lt, nI_subI ha, nI_toInt (by omega)]
    omega
  by_cases h : n + 6 ≤ a
  · refine lg_b hf ?_ (k2 h)
    show some (cond (ab_c2 .gt (nI n) (nI a - nI 6)) lk (pc + 3), st) = _
    rw [e, decide_eq_false (fun q => q h), hp]
    rfl
  · refine lg_b hf ?_ (k1 h)
    show some (cond (ab_c2 .gt (nI n) (nI a - nI 6)) lk (pc + 3), st) = _
    rw [e, decide_eq_true h, hd]
    rfl
theorem lg_ts (ts : List Nat) {x : Int32} {dd hi : Int} {offs : Array Int} {pd : Nat} (hf : ab_fetch tb_tL pc = some (.tableswitch dd 0 hi offs, lk)) (hd : (pc : Int) + dd = (pd : Int)) (hs : offs.toList.map (fun o => (pc : Int) + o) = ts.map Int.ofNat) (hl : hi + 1 = (offs.size : Int)) (kd : LG xs pd L st w P) (k : ∀ t ∈ ts, LG xs t L st w P) : LG xs pc L (.int x :: st) w P := by
  by_cases ho : x.toInt < 0 ∨ hi < x.toInt
  · refine lg_b hf ?_ kd
    unfold ab_br
    dsimp only
    have e : (decide (x.toInt < 0) || decide (hi < x.toInt)) = true := by simpa using ho
    rw [e]
    exact ab_tgt_eq hd
  · have e : (decide (x.toInt < 0) || decide (hi < x.toInt)) = false := by
      cases hb : (decide (x.toInt < 0) || decide (hi < x.toInt)) with
      | false => rfl
      | true => exact absurd (by simpa using hb) ho
    have hlt : (x.toInt - 0).toNat < offs.size := by omega
    have e2 : offs[(x.toInt - 0).toNat]? = some offs[(x.toInt - 0).toNat] := Array.getElem?_eq_getElem hlt
    have e3 : (offs.toList.map (fun o => (pc : Int) + o))[(x.toInt - 0).toNat]? = some ((pc : Int) + offs[(x.toInt - 0).toNat]) := by
      rw [List.getElem?_map, Array.getElem?_toList, e2]
      rfl
    rw [hs, List.getElem?_map] at e3
    cases hq : ts[(x.toInt - 0).toNat]? with
    | none => rw [hq] at e3; cases e3
    | some t =>
      rw [hq] at e3
      have e4 : (t : Int) = (pc : Int) + offs[(x.toInt - 0).toNat] := Option.some.inj e3
      refine lg_b hf ?_ (k t (List.mem_of_getElem? hq))
      unfold ab_br
      dsimp only
      rw [e, e2]
      exact ab_tgt_eq e4.symm
theorem lg_L (h : L = L') (k : LG xs pc L' st w P) : LG xs pc L st w P := by rw [h]; exact k
end LGS
end
