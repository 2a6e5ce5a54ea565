/-! THE REFERENCE, its face: voices -/
def YT (X : Nat → Nat → Int32) (t : VT) : Nat → Nat → Int32 := ud (uc X 75 t.2) 63 21 (nI t.1)
theorem YT_64 {X : Nat → Nat → Int32} {t : VT} : YT X t 64 = X 64 := by
  unfold YT
  rw [ud_ne (by omega), uc_ne (by omega)]
theorem YT_bg {X : Nat → Nat → Int32} {t : VT} {b : Int32} (h : t.1 < 40) : ud (ud (YT X t) 75 t.1 b) 63 21 (nI t.1 + nI 1) = YT X (bg t b) := by
  have e : bg t b = (t.1 + 1, u1 t.2 t.1 b) := if_pos h
  rw [e, nI_add]
  unfold YT
  funext i j
  simp only [ud_at, uc]
  by_cases h1 : i = 63
  · subst h1
    by_cases h2 : j = 21
    · subst h2; simp
    · simp [h2]
  · by_cases h3 : i = 75
    · subst h3
      simp [u1]
    · simp [h1, h3]
theorem YT_id {X : Nat → Nat → Int32} {g : Nat} (h : X 63 21 = nI g) : YT X (g, X 75) = X := by
  unfold YT
  rw [uc_id, ← h, ud_id]
set_option maxRecDepth 100000 in
set_option maxHeartbeats 4000000 in
theorem l_yBegins (d : Nat) (X Z : Nat → Nat → Int32) (t : VT) (ht : t.1 ≤ 40) (b : Int32) : EC (d + 1) 202 [.ref 63, .int b] (Wd (YT X t) Z) (RV (YT X (bg t b))) := by
  refine er_enter (L := [(0, _), (1, _)]) rfl rfl rfl ?_
  refine er_loc (pc' := 1) rfl rfl rfl ?_
  refine er_gf (pc' := 4) (.int (nI t.1)) rfl rfl rfl rfl rfl ?_
  refine er_k (pc' := 6) (nI 40) rfl rfl rfl ?_
  refine er_cm_ge (pc' := 9) rfl rfl (fun h6 => ?_) (fun h6 => ?_)
  · have hlt : ¬ t.1 < 40 := fun c => h6 (nI_lt c (by omega))
    refine er_vret rfl rfl ?_
    exact RV_of (by rw [show bg t b = t from if_neg hlt])
  · have hlt : t.1 < 40 := by
      rcases Nat.lt_or_ge t.1 40 with c | c
      · exact c
      · exact absurd h6 (nI_nlt c (by omega))
    refine er_loc (pc' := 10) rfl rfl rfl ?_
    refine er_gf (pc' := 13) (_) rfl rfl rfl rfl rfl ?_
    refine er_loc (pc' := 14) rfl rfl rfl ?_
    refine er_gf (pc' := 17) (.int (nI t.1)) rfl rfl rfl rfl rfl ?_
    refine er_loc (pc' := 18) rfl rfl rfl ?_
    refine er_isX (pc' := 19) (t.1) rfl rfl (fun _ => rfl) rfl (by omega) rfl rfl ?_
    refine er_loc (pc' := 20) rfl rfl rfl ?_
    refine er_pure (pc' := 21) rfl rfl rfl ?_
    refine er_gf (pc' := 24) (.int (nI t.1)) rfl rfl rfl rfl rfl ?_
    refine er_k (pc' := 25) (nI 1) rfl rfl rfl ?_
    refine er_iadd (pc' := 26) rfl rfl ?_
    refine er_pfIX (pc' := 29) 21 rfl rfl rfl rfl rfl rfl ?_
    refine er_vret rfl rfl ?_
    exact RV_of (YT_bg hlt)
theorem l_yo0 (d : Nat) (X Z : Nat → Nat → Int32) {T : Nat} (hI : RK T (X 64)) {k q : Nat} (hk8 : k < 8) (hq0 : sKind (jm (X 64)) k = q) (t : VT) : EC (d + 1) 133 [.ref 63, .int (nI k), .int (nI 0)] (Wd (YT X t) Z) (PI (nI q) (Wd (YT X t) Z)) := by
  have h := l_of0 d (YT X t) Z (T := T) (by rw [YT_64]; exact hI) hk8
  rw [YT_64, hq0] at h
  exact h
theorem l_yo1 (d : Nat) (X Z : Nat → Nat → Int32) {k : Nat} (hk8 : k < 8) (m : Int32) (hm : jm (X 64) 2 k = m) (t : VT) : EC (d + 1) 133 [.ref 63, .int (nI k), .int (nI 1)] (Wd (YT X t) Z) (PI m (Wd (YT X t) Z)) := by
  have h := l_of1 d (YT X t) Z hk8
  rw [YT_64, hm] at h
  exact h
set_option maxRecDepth 100000 in
set_option maxHeartbeats 4000000 in
theorem l_yPF (d : Nat) (X Z : Nat → Nat → Int32) {T : Nat} (hI : RK T (X 64)) {k q : Nat} (hk8 : k < 8) (hq : q < 7) (hq0 : sKind (jm (X 64)) k = q) (m : Int32) (hm : jm (X 64) 2 k = m) (t : VT) (ht : t.1 ≤ 40) (x : Int32) : EC (d + 2) 203 [.ref 63, .int (nI k), .int x] (Wd (YT X t) Z) (RI (vPF (nI k) x t).1 (YT X (vPF (nI k) x t).2)) := by
  refine er_enter (L := [(0, _), (1, _), (2, _)]) rfl rfl rfl ?_
  unfold vPF
  refine er_loc (pc' := 1) rfl rfl rfl ?_
  refine er_k (pc' := 3) (nI 10) rfl rfl rfl ?_
  refine er_cIv (pc' := 6) (rest := []) 12 rfl rfl rfl rfl rfl rfl (l_yBegins _ X _ _ (ht) _) ?_
  intro Z7
  refine er_loc (pc' := 7) rfl rfl rfl ?_
  refine er_loc (pc' := 8) rfl rfl rfl ?_
  refine er_iadd (pc' := 9) rfl rfl ?_
  refine er_iret rfl rfl ?_
  exact RI_of (by dsimp only) (by dsimp only)
set_option maxRecDepth 100000 in
set_option maxHeartbeats 4000000 in
theorem l_yFits (d : Nat) (X Z : Nat → Nat → Int32) {T : Nat} (hI : RK T (X 64)) {k q : Nat} (hk8 : k < 8) (hq : q < 7) (hq0 : sKind (jm (X 64)) k = q) (m : Int32) (hm : jm (X 64) 2 k = m) (t : VT) (ht : t.1 ≤ 40) (x : Int32) : EC (d + 3) 201 [.ref 63, .int (nI k), .int x] (Wd (YT X t) Z) (RI (vFits q (nI k) x t).1 (YT X (vFits q (nI k) x t).2)) := by
  rcases lt7 hq with e | e | e | e | e | e | e
  · subst e
    rw [show vFits 0 (nI k) x t = vPF (nI k) x t from if_neg (by omega)]
    refine er_enter (L := [(0, _), (1, _), (2, _)]) rfl rfl rfl ?_
    refine er_loc (pc' := 1) rfl rfl rfl ?_
    refine er_loc (pc' := 2) rfl rfl rfl ?_
    refine er_k (pc' := 3) (nI 0) rfl rfl rfl ?_
    refine er_cIi (pc' := 6) (rest := []) 12 rfl rfl rfl rfl rfl rfl (l_yo0 _ X _ hI hk8 hq0 _) ?_
    refine er_k (pc' := 7) (nI 1) rfl rfl rfl ?_
    refine er_cm_eqF (pc' := 10) rfl (by decide +kernel) rfl ?_
    refine er_loc (pc' := 11) rfl rfl rfl ?_
    refine er_loc (pc' := 12) rfl rfl rfl ?_
    refine er_k (pc' := 13) (nI 0) rfl rfl rfl ?_
    refine er_cIi (pc' := 16) (rest := []) 12 rfl rfl rfl rfl rfl rfl (l_yo0 _ X _ hI hk8 hq0 _) ?_
    refine er_k (pc' := 17) (nI 4) rfl rfl rfl ?_
    refine er_cm_neT rfl (by decide +kernel) ?_
    refine er_loc (pc' := 36) rfl rfl rfl ?_
    refine er_loc (pc' := 37) rfl rfl rfl ?_
    refine er_loc (pc' := 38) rfl rfl rfl ?_
    refine er_cIz (pc' := 41) (rest := []) 12 rfl rfl rfl rfl rfl rfl (l_yPF _ X _ hI hk8 hq hq0 m hm _ (ht) _) ?_
    intro Z2
    refine er_iret rfl rfl ?_
    exact RI_of (by dsimp only) (by dsimp only)
  · subst e
    rw [show vFits 1 (nI k) x t = ((vPF (nI k) x (bg t (nI 20))).1 * nI 3, (vPF (nI k) x (bg t (nI 20))).2) from if_pos (by omega)]
    refine er_enter (L := [(0, _), (1, _), (2, _)]) rfl rfl rfl ?_
    refine er_loc (pc' := 1) rfl rfl rfl ?_
    refine er_loc (pc' := 2) rfl rfl rfl ?_
    refine er_k (pc' := 3) (nI 0) rfl rfl rfl ?_
    refine er_cIi (pc' := 6) (rest := []) 12 rfl rfl rfl rfl rfl rfl (l_yo0 _ X _ hI hk8 hq0 _) ?_
    refine er_k (pc' := 7) (nI 1) rfl rfl rfl ?_
    refine er_cm_eqT rfl (rfl) ?_
    refine er_loc (pc' := 21) rfl rfl rfl ?_
    refine er_k (pc' := 23) (nI 20) rfl rfl rfl ?_
    refine er_cIv (pc' := 26) (rest := []) 12 rfl rfl rfl rfl rfl rfl (l_yBegins _ X _ _ (ht) _) ?_
    intro Z7
    refine er_loc (pc' := 27) rfl rfl rfl ?_
    refine er_loc (pc' := 28) rfl rfl rfl ?_
    refine er_loc (pc' := 29) rfl rfl rfl ?_
    refine er_cIz (pc' := 32) (rest := []) 12 rfl rfl rfl rfl rfl rfl (l_yPF _ X _ hI hk8 hq hq0 m hm _ (bg_le ht) _) ?_
    intro Z2
    refine er_k (pc' := 33) (nI 3) rfl rfl rfl ?_
    refine er_imul (pc' := 34) rfl rfl ?_
    refine er_iret rfl rfl ?_
    exact RI_of (by dsimp only) (by dsimp only)
  · subst e
    rw [show vFits 2 (nI k) x t = vPF (nI k) x t from if_neg (by omega)]
    refine er_enter (L := [(0, _), (1, _), (2, _)]) rfl rfl rfl ?_
    refine er_loc (pc' := 1) rfl rfl rfl ?_
    refine er_loc (pc' := 2) rfl rfl rfl ?_
    refine er_k (pc' := 3) (nI 0) rfl rfl rfl ?_
    refine er_cIi (pc' := 6) (rest := []) 12 rfl rfl rfl rfl rfl rfl (l_yo0 _ X _ hI hk8 hq0 _) ?_
    refine er_k (pc' := 7) (nI 1) rfl rfl rfl ?_
    refine er_cm_eqF (pc' := 10) rfl (by decide +kernel) rfl ?_
    refine er_loc (pc' := 11) rfl rfl rfl ?_
    refine er_loc (pc' := 12) rfl rfl rfl ?_
    refine er_k (pc' := 13) (nI 0) rfl rfl rfl ?_
    refine er_cIi (pc' := 16) (rest := []) 12 rfl rfl rfl rfl rfl rfl (l_yo0 _ X _ hI hk8 hq0 _) ?_
    refine er_k (pc' := 17) (nI 4) rfl rfl rfl ?_
    refine er_cm_neT rfl (by decide +kernel) ?_
    refine er_loc (pc' := 36) rfl rfl rfl ?_
    refine er_loc (pc' := 37) rfl rfl rfl ?_
    refine er_loc (pc' := 38) rfl rfl rfl ?_
    refine er_cIz (pc' := 41) (rest := []) 12 rfl rfl rfl rfl rfl rfl (l_yPF _ X _ hI hk8 hq hq0 m hm _ (ht) _) ?_
    intro Z2
    refine er_iret rfl rfl ?_
    exact RI_of (by dsimp only) (by dsimp only)
  · subst e
    rw [show vFits 3 (nI k) x t = vPF (nI k) x t from if_neg (by omega)]
    refine er_enter (L := [(0, _), (1, _), (2, _)]) rfl rfl rfl ?_
    refine er_loc (pc' := 1) rfl rfl rfl ?_
    refine er_loc (pc' := 2) rfl rfl rfl ?_
    refine er_k (pc' := 3) (nI 0) rfl rfl rfl ?_
    refine er_cIi (pc' := 6) (rest := []) 12 rfl rfl rfl rfl rfl rfl (l_yo0 _ X _ hI hk8 hq0 _) ?_
    refine er_k (pc' := 7) (nI 1) rfl rfl rfl ?_
    refine er_cm_eqF (pc' := 10) rfl (by decide +kernel) rfl ?_
    refine er_loc (pc' := 11) rfl rfl rfl ?_
    refine er_loc (pc' := 12) rfl rfl rfl ?_
    refine er_k (pc' := 13) (nI 0) rfl rfl rfl ?_
    refine er_cIi (pc' := 16) (rest := []) 12 rfl rfl rfl rfl rfl rfl (l_yo0 _ X _ hI hk8 hq0 _) ?_
    refine er_k (pc' := 17) (nI 4) rfl rfl rfl ?_
    refine er_cm_neT rfl (by decide +kernel) ?_
    refine er_loc (pc' := 36) rfl rfl rfl ?_
    refine er_loc (pc' := 37) rfl rfl rfl ?_
    refine er_loc (pc' := 38) rfl rfl rfl ?_
    refine er_cIz (pc' := 41) (rest := []) 12 rfl rfl rfl rfl rfl rfl (l_yPF _ X _ hI hk8 hq hq0 m hm _ (ht) _) ?_
    intro Z2
    refine er_iret rfl rfl ?_
    exact RI_of (by dsimp only) (by dsimp only)
  · subst e
    rw [show vFits 4 (nI k) x t = ((vPF (nI k) x (bg t (nI 20))).1 * nI 3, (vPF (nI k) x (bg t (nI 20))).2) from if_pos (by omega)]
    refine er_enter (L := [(0, _), (1, _), (2, _)]) rfl rfl rfl ?_
    refine er_loc (pc' := 1) rfl rfl rfl ?_
    refine er_loc (pc' := 2) rfl rfl rfl ?_
    refine er_k (pc' := 3) (nI 0) rfl rfl rfl ?_
    refine er_cIi (pc' := 6) (rest := []) 12 rfl rfl rfl rfl rfl rfl (l_yo0 _ X _ hI hk8 hq0 _) ?_
    refine er_k (pc' := 7) (nI 1) rfl rfl rfl ?_
    refine er_cm_eqF (pc' := 10) rfl (by decide +kernel) rfl ?_
    refine er_loc (pc' := 11) rfl rfl rfl ?_
    refine er_loc (pc' := 12) rfl rfl rfl ?_
    refine er_k (pc' := 13) (nI 0) rfl rfl rfl ?_
    refine er_cIi (pc' := 16) (rest := []) 12 rfl rfl rfl rfl rfl rfl (l_yo0 _ X _ hI hk8 hq0 _) ?_
    refine er_k (pc' := 17) (nI 4) rfl rfl rfl ?_
    refine er_cm_neF (pc' := 20) rfl (rfl) rfl ?_
    refine er_loc (pc' := 21) rfl rfl rfl ?_
    refine er_k (pc' := 23) (nI 20) rfl rfl rfl ?_
    refine er_cIv (pc' := 26) (rest := []) 12 rfl rfl rfl rfl rfl rfl (l_yBegins _ X _ _ (ht) _) ?_
    intro Z7
    refine er_loc (pc' := 27) rfl rfl rfl ?_
    refine er_loc (pc' := 28) rfl rfl rfl ?_
    refine er_loc (pc' := 29) rfl rfl rfl ?_
    refine er_cIz (pc' := 32) (rest := []) 12 rfl rfl rfl rfl rfl rfl (l_yPF _ X _ hI hk8 hq hq0 m hm _ (bg_le ht) _) ?_
    intro Z2
    refine er_k (pc' := 33) (nI 3) rfl rfl rfl ?_
    refine er_imul (pc' := 34) rfl rfl ?_
    refine er_iret rfl rfl ?_
    exact RI_of (by dsimp only) (by dsimp only)
  · subst e
    rw [show vFits 5 (nI k) x t = vPF (nI k) x t from if_neg (by omega)]
    refine er_enter (L := [(0, _), (1, _), (2, _)]) rfl rfl rfl ?_
    refine er_loc (pc' := 1) rfl rfl rfl ?_
    refine er_loc (pc' := 2) rfl rfl rfl ?_
    refine er_k (pc' := 3) (nI 0) rfl rfl rfl ?_
    refine er_cIi (pc' := 6) (rest := []) 12 rfl rfl rfl rfl rfl rfl (l_yo0 _ X _ hI hk8 hq0 _) ?_
    refine er_k (pc' := 7) (nI 1) rfl rfl rfl ?_
    refine er_cm_eqF (pc' := 10) rfl (by decide +kernel) rfl ?_
    refine er_loc (pc' := 11) rfl rfl rfl ?_
    refine er_loc (pc' := 12) rfl rfl rfl ?_
    refine er_k (pc' := 13) (nI 0) rfl rfl rfl ?_
    refine er_cIi (pc' := 16) (rest := []) 12 rfl rfl rfl rfl rfl rfl (l_yo0 _ X _ hI hk8 hq0 _) ?_
    refine er_k (pc' := 17) (nI 4) rfl rfl rfl ?_
    refine er_cm_neT rfl (by decide +kernel) ?_
    refine er_loc (pc' := 36) rfl rfl rfl ?_
    refine er_loc (pc' := 37) rfl rfl rfl ?_
    refine er_loc (pc' := 38) rfl rfl rfl ?_
    refine er_cIz (pc' := 41) (rest := []) 12 rfl rfl rfl rfl rfl rfl (l_yPF _ X _ hI hk8 hq hq0 m hm _ (ht) _) ?_
    intro Z2
    refine er_iret rfl rfl ?_
    exact RI_of (by dsimp only) (by dsimp only)
  · subst e
    rw [show vFits 6 (nI k) x t = vPF (nI k) x t from if_neg (by omega)]
    refine er_enter (L := [(0, _), (1, _), (2, _)]) rfl rfl rfl ?_
    refine er_loc (pc' := 1) rfl rfl rfl ?_
    refine er_loc (pc' := 2) rfl rfl rfl ?_
    refine er_k (pc' := 3) (nI 0) rfl rfl rfl ?_
    refine er_cIi (pc' := 6) (rest := []) 12 rfl rfl rfl rfl rfl rfl (l_yo0 _ X _ hI hk8 hq0 _) ?_
    refine er_k (pc' := 7) (nI 1) rfl rfl rfl ?_
    refine er_cm_eqF (pc' := 10) rfl (by decide +kernel) rfl ?_
    refine er_loc (pc' := 11) rfl rfl rfl ?_
    refine er_loc (pc' := 12) rfl rfl rfl ?_
    refine er_k (pc' := 13) (nI 0) rfl rfl rfl ?_
    refine er_cIi (pc' := 16) (rest := []) 12 rfl rfl rfl rfl rfl rfl (l_yo0 _ X _ hI hk8 hq0 _) ?_
    refine er_k (pc' := 17) (nI 4) rfl rfl rfl ?_
    refine er_cm_neT rfl (by decide +kernel) ?_
    refine er_loc (pc' := 36) rfl rfl rfl ?_
    refine er_loc (pc' := 37) rfl rfl rfl ?_
    refine er_loc (pc' := 38) rfl rfl rfl ?_
    refine er_cIz (pc' := 41) (rest := []) 12 rfl rfl rfl rfl rfl rfl (l_yPF _ X _ hI hk8 hq hq0 m hm _ (ht) _) ?_
    intro Z2
    refine er_iret rfl rfl ?_
    exact RI_of (by dsimp only) (by dsimp only)
set_option maxRecDepth 100000 in
set_option maxHeartbeats 4000000 in
theorem l_yPE (d : Nat) (X Z : Nat → Nat → Int32) {T : Nat} (hI : RK T (X 64)) {k q : Nat} (hk8 : k < 8) (hq : q < 7) (hq0 : sKind (jm (X 64)) k = q) (m : Int32) (hm : jm (X 64) 2 k = m) (t : VT) (ht : t.1 ≤ 40) (x : Int32) : EC (d + 4) 206 [.ref 63, .int (nI k), .int x] (Wd (YT X t) Z) (RI (vPE q (nI k) x t).1 (YT X (vPE q (nI k) x t).2)) := by
  refine er_enter (L := [(0, _), (1, _), (2, _)]) rfl rfl rfl ?_
  unfold vPE
  refine er_loc (pc' := 1) rfl rfl rfl ?_
  refine er_k (pc' := 3) (nI 11) rfl rfl rfl ?_
  refine er_cIv (pc' := 6) (rest := []) 12 rfl rfl rfl rfl rfl rfl (l_yBegins _ X _ _ (ht) _) ?_
  intro Z7
  refine er_loc (pc' := 7) rfl rfl rfl ?_
  refine er_loc (pc' := 8) rfl rfl rfl ?_
  refine er_loc (pc' := 9) rfl rfl rfl ?_
  refine er_cIz (pc' := 12) (rest := []) 12 rfl rfl rfl rfl rfl rfl (l_yFits _ X _ hI hk8 hq hq0 m hm _ (bg_le ht) _) ?_
  intro Z2
  refine er_k (pc' := 13) (nI 2) rfl rfl rfl ?_
  refine er_imul (pc' := 14) rfl rfl ?_
  refine er_iret rfl rfl ?_
  exact RI_of (by dsimp only) (by dsimp only)
set_option maxRecDepth 100000 in
set_option maxHeartbeats 4000000 in
theorem l_yPL (d : Nat) (X Z : Nat → Nat → Int32) {T : Nat} (hI : RK T (X 64)) {k q : Nat} (hk8 : k < 8) (hq : q < 7) (hq0 : sKind (jm (X 64)) k = q) (m : Int32) (hm : jm (X 64) 2 k = m) (t : VT) (ht : t.1 ≤ 40) (x : Int32) : EC (d + 2) 209 [.ref 63, .int (nI k), .int x] (Wd (YT X t) Z) (RI (vPL m x t).1 (YT X (vPL m x t).2)) := by
  refine er_enter (L := [(0, _), (1, _), (2, _)]) rfl rfl rfl ?_
  unfold vPL
  refine er_loc (pc' := 1) rfl rfl rfl ?_
  refine er_k (pc' := 3) (nI 12) rfl rfl rfl ?_
  refine er_cIv (pc' := 6) (rest := []) 12 rfl rfl rfl rfl rfl rfl (l_yBegins _ X _ _ (ht) _) ?_
  intro Z7
  refine er_loc (pc' := 7) rfl rfl rfl ?_
  refine er_loc (pc' := 8) rfl rfl rfl ?_
  refine er_loc (pc' := 9) rfl rfl rfl ?_
  refine er_k (pc' := 10) (nI 1) rfl rfl rfl ?_
  refine er_cIi (pc' := 13) (rest := [_]) 12 rfl rfl rfl rfl rfl rfl (l_yo1 _ X _ hk8 m hm _) ?_
  refine er_isub (pc' := 14) rfl rfl ?_
  refine er_iret rfl rfl ?_
  exact RI_of (by dsimp only) (by dsimp only)
set_option maxRecDepth 100000 in
set_option maxHeartbeats 4000000 in
theorem l_yHL (d : Nat) (X Z : Nat → Nat → Int32) {T : Nat} (hI : RK T (X 64)) {k q : Nat} (hk8 : k < 8) (hq : q < 7) (hq0 : sKind (jm (X 64)) k = q) (m : Int32) (hm : jm (X 64) 2 k = m) (t : VT) (ht : t.1 ≤ 40) (x : Int32) : EC (d + 3) 208 [.ref 63, .int (nI k), .int x] (Wd (YT X t) Z) (RI (vHL m x t).1 (YT X (vHL m x t).2)) := by
  refine er_enter (L := [(0, _), (1, _), (2, _)]) rfl rfl rfl ?_
  unfold vHL
  refine er_loc (pc' := 1) rfl rfl rfl ?_
  refine er_k (pc' := 3) (nI 40) rfl rfl rfl ?_
  refine er_cIv (pc' := 6) (rest := []) 12 rfl rfl rfl rfl rfl rfl (l_yBegins _ X _ _ (ht) _) ?_
  intro Z7
  refine er_loc (pc' := 7) rfl rfl rfl ?_
  refine er_loc (pc' := 8) rfl rfl rfl ?_
  refine er_loc (pc' := 9) rfl rfl rfl ?_
  refine er_cIz (pc' := 12) (rest := []) 12 rfl rfl rfl rfl rfl rfl (l_yPL _ X _ hI hk8 hq hq0 m hm _ (bg_le ht) _) ?_
  intro Z2
  refine er_ineg (pc' := 13) rfl rfl ?_
  refine er_iret rfl rfl ?_
  exact RI_of (by dsimp only) (by dsimp only)
set_option maxRecDepth 100000 in
set_option maxHeartbeats 4000000 in
theorem l_yLooks (d : Nat) (X Z : Nat → Nat → Int32) {T : Nat} (hI : RK T (X 64)) {k q : Nat} (hk8 : k < 8) (hq : q < 7) (hq0 : sKind (jm (X 64)) k = q) (m : Int32) (hm : jm (X 64) 2 k = m) (t : VT) (ht : t.1 ≤ 40) (x : Int32) : EC (d + 4) 207 [.ref 63, .int (nI k), .int x] (Wd (YT X t) Z) (RI (vLooks q (nI k) m x t).1 (YT X (vLooks q (nI k) m x t).2)) := by
  rcases lt7 hq with e | e | e | e | e | e | e
  · subst e
    rw [show vLooks 0 (nI k) m x t = vPL m x t from (if_neg (by omega)).trans (if_neg (by omega))]
    refine er_enter (L := [(0, _), (1, _), (2, _)]) rfl rfl rfl ?_
    refine er_loc (pc' := 1) rfl rfl rfl ?_
    refine er_loc (pc' := 2) rfl rfl rfl ?_
    refine er_k (pc' := 3) (nI 0) rfl rfl rfl ?_
    refine er_cIi (pc' := 6) (rest := []) 12 rfl rfl rfl rfl rfl rfl (l_yo0 _ X _ hI hk8 hq0 _) ?_
    refine er_sw (3) rfl rfl (fun s6_3 => ?_) (fun s6_3 => ?_)
    · exact absurd s6_3 (by decide +kernel)
    refine er_sw (6) rfl rfl (fun s6_6 => ?_) (fun s6_6 => ?_)
    · exact absurd s6_6 (by decide +kernel)
    refine er_lsD rfl rfl rfl (List.forall_mem_cons.mpr ⟨ne_toInt s6_3 rfl, List.forall_mem_cons.mpr ⟨ne_toInt s6_6 rfl, fun _ h => absurd h List.not_mem_nil⟩⟩) ?_
    refine er_loc (pc' := 55) rfl rfl rfl ?_
    refine er_loc (pc' := 56) rfl rfl rfl ?_
    refine er_loc (pc' := 57) rfl rfl rfl ?_
    refine er_cIz (pc' := 60) (rest := []) 12 rfl rfl rfl rfl rfl rfl (l_yPL _ X _ hI hk8 hq hq0 m hm _ (ht) _) ?_
    intro Z2
    refine er_iret rfl rfl ?_
    exact RI_of (by dsimp only) (by dsimp only)
  · subst e
    rw [show vLooks 1 (nI k) m x t = vPL m x t from (if_neg (by omega)).trans (if_neg (by omega))]
    refine er_enter (L := [(0, _), (1, _), (2, _)]) rfl rfl rfl ?_
    refine er_loc (pc' := 1) rfl rfl rfl ?_
    refine er_loc (pc' := 2) rfl rfl rfl ?_
    refine er_k (pc' := 3) (nI 0) rfl rfl rfl ?_
    refine er_cIi (pc' := 6) (rest := []) 12 rfl rfl rfl rfl rfl rfl (l_yo0 _ X _ hI hk8 hq0 _) ?_
    refine er_sw (3) rfl rfl (fun s6_3 => ?_) (fun s6_3 => ?_)
    · exact absurd s6_3 (by decide +kernel)
    refine er_sw (6) rfl rfl (fun s6_6 => ?_) (fun s6_6 => ?_)
    · exact absurd s6_6 (by decide +kernel)
    refine er_lsD rfl rfl rfl (List.forall_mem_cons.mpr ⟨ne_toInt s6_3 rfl, List.forall_mem_cons.mpr ⟨ne_toInt s6_6 rfl, fun _ h => absurd h List.not_mem_nil⟩⟩) ?_
    refine er_loc (pc' := 55) rfl rfl rfl ?_
    refine er_loc (pc' := 56) rfl rfl rfl ?_
    refine er_loc (pc' := 57) rfl rfl rfl ?_
    refine er_cIz (pc' := 60) (rest := []) 12 rfl rfl rfl rfl rfl rfl (l_yPL _ X _ hI hk8 hq hq0 m hm _ (ht) _) ?_
    intro Z2
    refine er_iret rfl rfl ?_
    exact RI_of (by dsimp only) (by dsimp only)
  · subst e
    rw [show vLooks 2 (nI k) m x t = vPL m x t from (if_neg (by omega)).trans (if_neg (by omega))]
    refine er_enter (L := [(0, _), (1, _), (2, _)]) rfl rfl rfl ?_
    refine er_loc (pc' := 1) rfl rfl rfl ?_
    refine er_loc (pc' := 2) rfl rfl rfl ?_
    refine er_k (pc' := 3) (nI 0) rfl rfl rfl ?_
    refine er_cIi (pc' := 6) (rest := []) 12 rfl rfl rfl rfl rfl rfl (l_yo0 _ X _ hI hk8 hq0 _) ?_
    refine er_sw (3) rfl rfl (fun s6_3 => ?_) (fun s6_3 => ?_)
    · exact absurd s6_3 (by decide +kernel)
    refine er_sw (6) rfl rfl (fun s6_6 => ?_) (fun s6_6 => ?_)
    · exact absurd s6_6 (by decide +kernel)
    refine er_lsD rfl rfl rfl (List.forall_mem_cons.mpr ⟨ne_toInt s6_3 rfl, List.forall_mem_cons.mpr ⟨ne_toInt s6_6 rfl, fun _ h => absurd h List.not_mem_nil⟩⟩) ?_
    refine er_loc (pc' := 55) rfl rfl rfl ?_
    refine er_loc (pc' := 56) rfl rfl rfl ?_
    refine er_loc (pc' := 57) rfl rfl rfl ?_
    refine er_cIz (pc' := 60) (rest := []) 12 rfl rfl rfl rfl rfl rfl (l_yPL _ X _ hI hk8 hq hq0 m hm _ (ht) _) ?_
    intro Z2
    refine er_iret rfl rfl ?_
    exact RI_of (by dsimp only) (by dsimp only)
  · subst e
    rw [show vLooks 3 (nI k) m x t = vHL m x t from if_pos rfl]
    refine er_enter (L := [(0, _), (1, _), (2, _)]) rfl rfl rfl ?_
    refine er_loc (pc' := 1) rfl rfl rfl ?_
    refine er_loc (pc' := 2) rfl rfl rfl ?_
    refine er_k (pc' := 3) (nI 0) rfl rfl rfl ?_
    refine er_cIi (pc' := 6) (rest := []) 12 rfl rfl rfl rfl rfl rfl (l_yo0 _ X _ hI hk8 hq0 _) ?_
    refine er_swT (3) rfl (by decide +kernel) rfl ?_
    refine er_loc (pc' := 33) rfl rfl rfl ?_
    refine er_loc (pc' := 34) rfl rfl rfl ?_
    refine er_loc (pc' := 35) rfl rfl rfl ?_
    refine er_cIz (pc' := 38) (rest := []) 12 rfl rfl rfl rfl rfl rfl (l_yHL _ X _ hI hk8 hq hq0 m hm _ (ht) _) ?_
    intro Z2
    refine er_iret rfl rfl ?_
    exact RI_of (by dsimp only) (by dsimp only)
  · subst e
    rw [show vLooks 4 (nI k) m x t = vPL m x t from (if_neg (by omega)).trans (if_neg (by omega))]
    refine er_enter (L := [(0, _), (1, _), (2, _)]) rfl rfl rfl ?_
    refine er_loc (pc' := 1) rfl rfl rfl ?_
    refine er_loc (pc' := 2) rfl rfl rfl ?_
    refine er_k (pc' := 3) (nI 0) rfl rfl rfl ?_
    refine er_cIi (pc' := 6) (rest := []) 12 rfl rfl rfl rfl rfl rfl (l_yo0 _ X _ hI hk8 hq0 _) ?_
    refine er_sw (3) rfl rfl (fun s6_3 => ?_) (fun s6_3 => ?_)
    · exact absurd s6_3 (by decide +kernel)
    refine er_sw (6) rfl rfl (fun s6_6 => ?_) (fun s6_6 => ?_)
    · exact absurd s6_6 (by decide +kernel)
    refine er_lsD rfl rfl rfl (List.forall_mem_cons.mpr ⟨ne_toInt s6_3 rfl, List.forall_mem_cons.mpr ⟨ne_toInt s6_6 rfl, fun _ h => absurd h List.not_mem_nil⟩⟩) ?_
    refine er_loc (pc' := 55) rfl rfl rfl ?_
    refine er_loc (pc' := 56) rfl rfl rfl ?_
    refine er_loc (pc' := 57) rfl rfl rfl ?_
    refine er_cIz (pc' := 60) (rest := []) 12 rfl rfl rfl rfl rfl rfl (l_yPL _ X _ hI hk8 hq hq0 m hm _ (ht) _) ?_
    intro Z2
    refine er_iret rfl rfl ?_
    exact RI_of (by dsimp only) (by dsimp only)
  · subst e
    rw [show vLooks 5 (nI k) m x t = vPL m x t from (if_neg (by omega)).trans (if_neg (by omega))]
    refine er_enter (L := [(0, _), (1, _), (2, _)]) rfl rfl rfl ?_
    refine er_loc (pc' := 1) rfl rfl rfl ?_
    refine er_loc (pc' := 2) rfl rfl rfl ?_
    refine er_k (pc' := 3) (nI 0) rfl rfl rfl ?_
    refine er_cIi (pc' := 6) (rest := []) 12 rfl rfl rfl rfl rfl rfl (l_yo0 _ X _ hI hk8 hq0 _) ?_
    refine er_sw (3) rfl rfl (fun s6_3 => ?_) (fun s6_3 => ?_)
    · exact absurd s6_3 (by decide +kernel)
    refine er_sw (6) rfl rfl (fun s6_6 => ?_) (fun s6_6 => ?_)
    · exact absurd s6_6 (by decide +kernel)
    refine er_lsD rfl rfl rfl (List.forall_mem_cons.mpr ⟨ne_toInt s6_3 rfl, List.forall_mem_cons.mpr ⟨ne_toInt s6_6 rfl, fun _ h => absurd h List.not_mem_nil⟩⟩) ?_
    refine er_loc (pc' := 55) rfl rfl rfl ?_
    refine er_loc (pc' := 56) rfl rfl rfl ?_
    refine er_loc (pc' := 57) rfl rfl rfl ?_
    refine er_cIz (pc' := 60) (rest := []) 12 rfl rfl rfl rfl rfl rfl (l_yPL _ X _ hI hk8 hq hq0 m hm _ (ht) _) ?_
    intro Z2
    refine er_iret rfl rfl ?_
    exact RI_of (by dsimp only) (by dsimp only)
  · subst e
    rw [show vLooks 6 (nI k) m x t = ((vHL m x (bg t (nI 70))).1 ^^^ (nI k), (vHL m x (bg t (nI 70))).2) from (if_neg (by omega)).trans (if_pos rfl)]
    refine er_enter (L := [(0, _), (1, _), (2, _)]) rfl rfl rfl ?_
    refine er_loc (pc' := 1) rfl rfl rfl ?_
    refine er_loc (pc' := 2) rfl rfl rfl ?_
    refine er_k (pc' := 3) (nI 0) rfl rfl rfl ?_
    refine er_cIi (pc' := 6) (rest := []) 12 rfl rfl rfl rfl rfl rfl (l_yo0 _ X _ hI hk8 hq0 _) ?_
    refine er_swT (6) rfl (by decide +kernel) rfl ?_
    refine er_loc (pc' := 40) rfl rfl rfl ?_
    refine er_k (pc' := 42) (nI 70) rfl rfl rfl ?_
    refine er_cIv (pc' := 45) (rest := []) 12 rfl rfl rfl rfl rfl rfl (l_yBegins _ X _ _ (ht) _) ?_
    intro Z7
    refine er_loc (pc' := 46) rfl rfl rfl ?_
    refine er_loc (pc' := 47) rfl rfl rfl ?_
    refine er_loc (pc' := 48) rfl rfl rfl ?_
    refine er_cIz (pc' := 51) (rest := []) 12 rfl rfl rfl rfl rfl rfl (l_yHL _ X _ hI hk8 hq hq0 m hm _ (bg_le ht) _) ?_
    intro Z2
    refine er_loc (pc' := 52) rfl rfl rfl ?_
    refine er_ixor (pc' := 53) rfl rfl ?_
    refine er_iret rfl rfl ?_
    exact RI_of (by dsimp only) (by dsimp only)
set_option maxRecDepth 100000 in
set_option maxHeartbeats 4000000 in
theorem l_yGE (d : Nat) (X Z : Nat → Nat → Int32) {T : Nat} (hI : RK T (X 64)) {k q : Nat} (hk8 : k < 8) (hq : q < 7) (hq0 : sKind (jm (X 64)) k = q) (m : Int32) (hm : jm (X 64) 2 k = m) (t : VT) (ht : t.1 ≤ 40) (x : Int32) : EC (d + 5) 205 [.ref 63, .int (nI k), .int x] (Wd (YT X t) Z) (RI (vGE q (nI k) m x t).1 (YT X (vGE q (nI k) m x t).2)) := by
  refine er_enter (L := [(0, _), (1, _), (2, _)]) rfl rfl rfl ?_
  unfold vGE
  refine er_loc (pc' := 1) rfl rfl rfl ?_
  refine er_k (pc' := 3) (nI 30) rfl rfl rfl ?_
  refine er_cIv (pc' := 6) (rest := []) 12 rfl rfl rfl rfl rfl rfl (l_yBegins _ X _ _ (ht) _) ?_
  intro Z7
  refine er_loc (pc' := 7) rfl rfl rfl ?_
  refine er_loc (pc' := 8) rfl rfl rfl ?_
  refine er_loc (pc' := 9) rfl rfl rfl ?_
  refine er_cIz (pc' := 12) (rest := []) 12 rfl rfl rfl rfl rfl rfl (l_yPE _ X _ hI hk8 hq hq0 m hm _ (bg_le ht) _) ?_
  intro Z2
  refine er_loc (pc' := 13) (L' := [(3, _), (0, _), (1, _), (2, _)]) rfl rfl rfl ?_
  refine er_loc (pc' := 14) rfl rfl rfl ?_
  refine er_loc (pc' := 15) rfl rfl rfl ?_
  refine er_loc (pc' := 16) rfl rfl rfl ?_
  refine er_k (pc' := 17) (nI 1) rfl rfl rfl ?_
  refine er_cIz (pc' := 20) (rest := [_]) 12 rfl rfl rfl rfl rfl rfl (l_yLooks _ X _ hI hk8 hq hq0 m hm _ (vPE_le (q := q) (n := nI k) (x := x) (bg_le ht)) _) ?_
  intro Z2
  refine er_isub (pc' := 21) rfl rfl ?_
  refine er_iret rfl rfl ?_
  exact RI_of (by dsimp only) (by dsimp only)
set_option maxRecDepth 100000 in
set_option maxHeartbeats 4000000 in
theorem l_yErrs (d : Nat) (X Z : Nat → Nat → Int32) {T : Nat} (hI : RK T (X 64)) {k q : Nat} (hk8 : k < 8) (hq : q < 7) (hq0 : sKind (jm (X 64)) k = q) (m : Int32) (hm : jm (X 64) 2 k = m) (t : VT) (ht : t.1 ≤ 40) (x : Int32) : EC (d + 6) 204 [.ref 63, .int (nI k), .int x] (Wd (YT X t) Z) (RI (vErrs q (nI k) m x t).1 (YT X (vErrs q (nI k) m x t).2)) := by
  rcases lt7 hq with e | e | e | e | e | e | e
  · subst e
    rw [show vErrs 0 (nI k) m x t = vPE 0 (nI k) x t from (if_neg (by omega)).trans (if_neg (by omega))]
    refine er_enter (L := [(0, _), (1, _), (2, _)]) rfl rfl rfl ?_
    refine er_loc (pc' := 1) rfl rfl rfl ?_
    refine er_loc (pc' := 2) rfl rfl rfl ?_
    refine er_k (pc' := 3) (nI 0) rfl rfl rfl ?_
    refine er_cIi (pc' := 6) (rest := []) 12 rfl rfl rfl rfl rfl rfl (l_yo0 _ X _ hI hk8 hq0 _) ?_
    refine er_sw (2) rfl rfl (fun s6_2 => ?_) (fun s6_2 => ?_)
    · exact absurd s6_2 (by decide +kernel)
    refine er_sw (5) rfl rfl (fun s6_5 => ?_) (fun s6_5 => ?_)
    · exact absurd s6_5 (by decide +kernel)
    refine er_lsD rfl rfl rfl (List.forall_mem_cons.mpr ⟨ne_toInt s6_2 rfl, List.forall_mem_cons.mpr ⟨ne_toInt s6_5 rfl, fun _ h => absurd h List.not_mem_nil⟩⟩) ?_
    refine er_loc (pc' := 55) rfl rfl rfl ?_
    refine er_loc (pc' := 56) rfl rfl rfl ?_
    refine er_loc (pc' := 57) rfl rfl rfl ?_
    refine er_cIz (pc' := 60) (rest := []) 12 rfl rfl rfl rfl rfl rfl (l_yPE _ X _ hI hk8 hq hq0 m hm _ (ht) _) ?_
    intro Z2
    refine er_iret rfl rfl ?_
    exact RI_of (by dsimp only) (by dsimp only)
  · subst e
    rw [show vErrs 1 (nI k) m x t = vPE 1 (nI k) x t from (if_neg (by omega)).trans (if_neg (by omega))]
    refine er_enter (L := [(0, _), (1, _), (2, _)]) rfl rfl rfl ?_
    refine er_loc (pc' := 1) rfl rfl rfl ?_
    refine er_loc (pc' := 2) rfl rfl rfl ?_
    refine er_k (pc' := 3) (nI 0) rfl rfl rfl ?_
    refine er_cIi (pc' := 6) (rest := []) 12 rfl rfl rfl rfl rfl rfl (l_yo0 _ X _ hI hk8 hq0 _) ?_
    refine er_sw (2) rfl rfl (fun s6_2 => ?_) (fun s6_2 => ?_)
    · exact absurd s6_2 (by decide +kernel)
    refine er_sw (5) rfl rfl (fun s6_5 => ?_) (fun s6_5 => ?_)
    · exact absurd s6_5 (by decide +kernel)
    refine er_lsD rfl rfl rfl (List.forall_mem_cons.mpr ⟨ne_toInt s6_2 rfl, List.forall_mem_cons.mpr ⟨ne_toInt s6_5 rfl, fun _ h => absurd h List.not_mem_nil⟩⟩) ?_
    refine er_loc (pc' := 55) rfl rfl rfl ?_
    refine er_loc (pc' := 56) rfl rfl rfl ?_
    refine er_loc (pc' := 57) rfl rfl rfl ?_
    refine er_cIz (pc' := 60) (rest := []) 12 rfl rfl rfl rfl rfl rfl (l_yPE _ X _ hI hk8 hq hq0 m hm _ (ht) _) ?_
    intro Z2
    refine er_iret rfl rfl ?_
    exact RI_of (by dsimp only) (by dsimp only)
  · subst e
    rw [show vErrs 2 (nI k) m x t = vGE 2 (nI k) m x t from if_pos rfl]
    refine er_enter (L := [(0, _), (1, _), (2, _)]) rfl rfl rfl ?_
    refine er_loc (pc' := 1) rfl rfl rfl ?_
    refine er_loc (pc' := 2) rfl rfl rfl ?_
    refine er_k (pc' := 3) (nI 0) rfl rfl rfl ?_
    refine er_cIi (pc' := 6) (rest := []) 12 rfl rfl rfl rfl rfl rfl (l_yo0 _ X _ hI hk8 hq0 _) ?_
    refine er_swT (2) rfl (by decide +kernel) rfl ?_
    refine er_loc (pc' := 33) rfl rfl rfl ?_
    refine er_loc (pc' := 34) rfl rfl rfl ?_
    refine er_loc (pc' := 35) rfl rfl rfl ?_
    refine er_cIz (pc' := 38) (rest := []) 12 rfl rfl rfl rfl rfl rfl (l_yGE _ X _ hI hk8 hq hq0 m hm _ (ht) _) ?_
    intro Z2
    refine er_iret rfl rfl ?_
    exact RI_of (by dsimp only) (by dsimp only)
  · subst e
    rw [show vErrs 3 (nI k) m x t = vPE 3 (nI k) x t from (if_neg (by omega)).trans (if_neg (by omega))]
    refine er_enter (L := [(0, _), (1, _), (2, _)]) rfl rfl rfl ?_
    refine er_loc (pc' := 1) rfl rfl rfl ?_
    refine er_loc (pc' := 2) rfl rfl rfl ?_
    refine er_k (pc' := 3) (nI 0) rfl rfl rfl ?_
    refine er_cIi (pc' := 6) (rest := []) 12 rfl rfl rfl rfl rfl rfl (l_yo0 _ X _ hI hk8 hq0 _) ?_
    refine er_sw (2) rfl rfl (fun s6_2 => ?_) (fun s6_2 => ?_)
    · exact absurd s6_2 (by decide +kernel)
    refine er_sw (5) rfl rfl (fun s6_5 => ?_) (fun s6_5 => ?_)
    · exact absurd s6_5 (by decide +kernel)
    refine er_lsD rfl rfl rfl (List.forall_mem_cons.mpr ⟨ne_toInt s6_2 rfl, List.forall_mem_cons.mpr ⟨ne_toInt s6_5 rfl, fun _ h => absurd h List.not_mem_nil⟩⟩) ?_
    refine er_loc (pc' := 55) rfl rfl rfl ?_
    refine er_loc (pc' := 56) rfl rfl rfl ?_
    refine er_loc (pc' := 57) rfl rfl rfl ?_
    refine er_cIz (pc' := 60) (rest := []) 12 rfl rfl rfl rfl rfl rfl (l_yPE _ X _ hI hk8 hq hq0 m hm _ (ht) _) ?_
    intro Z2
    refine er_iret rfl rfl ?_
    exact RI_of (by dsimp only) (by dsimp only)
  · subst e
    rw [show vErrs 4 (nI k) m x t = vPE 4 (nI k) x t from (if_neg (by omega)).trans (if_neg (by omega))]
    refine er_enter (L := [(0, _), (1, _), (2, _)]) rfl rfl rfl ?_
    refine er_loc (pc' := 1) rfl rfl rfl ?_
    refine er_loc (pc' := 2) rfl rfl rfl ?_
    refine er_k (pc' := 3) (nI 0) rfl rfl rfl ?_
    refine er_cIi (pc' := 6) (rest := []) 12 rfl rfl rfl rfl rfl rfl (l_yo0 _ X _ hI hk8 hq0 _) ?_
    refine er_sw (2) rfl rfl (fun s6_2 => ?_) (fun s6_2 => ?_)
    · exact absurd s6_2 (by decide +kernel)
    refine er_sw (5) rfl rfl (fun s6_5 => ?_) (fun s6_5 => ?_)
    · exact absurd s6_5 (by decide +kernel)
    refine er_lsD rfl rfl rfl (List.forall_mem_cons.mpr ⟨ne_toInt s6_2 rfl, List.forall_mem_cons.mpr ⟨ne_toInt s6_5 rfl, fun _ h => absurd h List.not_mem_nil⟩⟩) ?_
    refine er_loc (pc' := 55) rfl rfl rfl ?_
    refine er_loc (pc' := 56) rfl rfl rfl ?_
    refine er_loc (pc' := 57) rfl rfl rfl ?_
    refine er_cIz (pc' := 60) (rest := []) 12 rfl rfl rfl rfl rfl rfl (l_yPE _ X _ hI hk8 hq hq0 m hm _ (ht) _) ?_
    intro Z2
    refine er_iret rfl rfl ?_
    exact RI_of (by dsimp only) (by dsimp only)
  · subst e
    rw [show vErrs 5 (nI k) m x t = vGE 5 (nI k) m (x + nI 1) (bg t (nI 60)) from (if_neg (by omega)).trans (if_pos rfl)]
    refine er_enter (L := [(0, _), (1, _), (2, _)]) rfl rfl rfl ?_
    refine er_loc (pc' := 1) rfl rfl rfl ?_
    refine er_loc (pc' := 2) rfl rfl rfl ?_
    refine er_k (pc' := 3) (nI 0) rfl rfl rfl ?_
    refine er_cIi (pc' := 6) (rest := []) 12 rfl rfl rfl rfl rfl rfl (l_yo0 _ X _ hI hk8 hq0 _) ?_
    refine er_swT (5) rfl (by decide +kernel) rfl ?_
    refine er_loc (pc' := 40) rfl rfl rfl ?_
    refine er_k (pc' := 42) (nI 60) rfl rfl rfl ?_
    refine er_cIv (pc' := 45) (rest := []) 12 rfl rfl rfl rfl rfl rfl (l_yBegins _ X _ _ (ht) _) ?_
    intro Z7
    refine er_loc (pc' := 46) rfl rfl rfl ?_
    refine er_loc (pc' := 47) rfl rfl rfl ?_
    refine er_loc (pc' := 48) rfl rfl rfl ?_
    refine er_k (pc' := 49) (nI 1) rfl rfl rfl ?_
    refine er_iadd (pc' := 50) rfl rfl ?_
    refine er_cIz (pc' := 53) (rest := []) 12 rfl rfl rfl rfl rfl rfl (l_yGE _ X _ hI hk8 hq hq0 m hm _ (bg_le ht) _) ?_
    intro Z2
    refine er_iret rfl rfl ?_
    exact RI_of (by dsimp only) (by dsimp only)
  · subst e
    rw [show vErrs 6 (nI k) m x t = vPE 6 (nI k) x t from (if_neg (by omega)).trans (if_neg (by omega))]
    refine er_enter (L := [(0, _), (1, _), (2, _)]) rfl rfl rfl ?_
    refine er_loc (pc' := 1) rfl rfl rfl ?_
    refine er_loc (pc' := 2) rfl rfl rfl ?_
    refine er_k (pc' := 3) (nI 0) rfl rfl rfl ?_
    refine er_cIi (pc' := 6) (rest := []) 12 rfl rfl rfl rfl rfl rfl (l_yo0 _ X _ hI hk8 hq0 _) ?_
    refine er_sw (2) rfl rfl (fun s6_2 => ?_) (fun s6_2 => ?_)
    · exact absurd s6_2 (by decide +kernel)
    refine er_sw (5) rfl rfl (fun s6_5 => ?_) (fun s6_5 => ?_)
    · exact absurd s6_5 (by decide +kernel)
    refine er_lsD rfl rfl rfl (List.forall_mem_cons.mpr ⟨ne_toInt s6_2 rfl, List.forall_mem_cons.mpr ⟨ne_toInt s6_5 rfl, fun _ h => absurd h List.not_mem_nil⟩⟩) ?_
    refine er_loc (pc' := 55) rfl rfl rfl ?_
    refine er_loc (pc' := 56) rfl rfl rfl ?_
    refine er_loc (pc' := 57) rfl rfl rfl ?_
    refine er_cIz (pc' := 60) (rest := []) 12 rfl rfl rfl rfl rfl rfl (l_yPE _ X _ hI hk8 hq hq0 m hm _ (ht) _) ?_
    intro Z2
    refine er_iret rfl rfl ?_
    exact RI_of (by dsimp only) (by dsimp only)
set_option maxRecDepth 100000 in
set_option maxHeartbeats 4000000 in
theorem l_yPU (d : Nat) (X Z : Nat → Nat → Int32) {T : Nat} (hI : RK T (X 64)) {k q : Nat} (hk8 : k < 8) (hq : q < 7) (hq0 : sKind (jm (X 64)) k = q) (m : Int32) (hm : jm (X 64) 2 k = m) (t : VT) (ht : t.1 ≤ 40) (x : Int32) : EC (d + 7) 211 [.ref 63, .int (nI k), .int x] (Wd (YT X t) Z) (RI (vPU q (nI k) m x t).1 (YT X (vPU q (nI k) m x t).2)) := by
  refine er_enter (L := [(0, _), (1, _), (2, _)]) rfl rfl rfl ?_
  unfold vPU
  refine er_loc (pc' := 1) rfl rfl rfl ?_
  refine er_k (pc' := 3) (nI 13) rfl rfl rfl ?_
  refine er_cIv (pc' := 6) (rest := []) 12 rfl rfl rfl rfl rfl rfl (l_yBegins _ X _ _ (ht) _) ?_
  intro Z7
  refine er_loc (pc' := 7) rfl rfl rfl ?_
  refine er_loc (pc' := 8) rfl rfl rfl ?_
  refine er_loc (pc' := 9) rfl rfl rfl ?_
  refine er_cIz (pc' := 12) (rest := []) 12 rfl rfl rfl rfl rfl rfl (l_yErrs _ X _ hI hk8 hq hq0 m hm _ (bg_le ht) _) ?_
  intro Z2
  refine er_loc (pc' := 13) (L' := [(3, _), (0, _), (1, _), (2, _)]) rfl rfl rfl ?_
  refine er_loc (pc' := 14) rfl rfl rfl ?_
  refine er_loc (pc' := 15) rfl rfl rfl ?_
  refine er_loc (pc' := 16) rfl rfl rfl ?_
  refine er_loc (pc' := 17) rfl rfl rfl ?_
  refine er_cIz (pc' := 20) (rest := [_]) 12 rfl rfl rfl rfl rfl rfl (l_yLooks _ X _ hI hk8 hq hq0 m hm _ (vErrs_le (q := q) (n := nI k) (m := m) (x := x) (bg_le ht)) _) ?_
  intro Z2
  refine er_ixor (pc' := 21) rfl rfl ?_
  refine er_iret rfl rfl ?_
  exact RI_of (by dsimp only) (by dsimp only)
set_option maxRecDepth 100000 in
set_option maxHeartbeats 4000000 in
theorem l_yUndoes (d : Nat) (X Z : Nat → Nat → Int32) {T : Nat} (hI : RK T (X 64)) {k q : Nat} (hk8 : k < 8) (hq : q < 7) (hq0 : sKind (jm (X 64)) k = q) (m : Int32) (hm : jm (X 64) 2 k = m) (t : VT) (ht : t.1 ≤ 40) (x : Int32) : EC (d + 8) 210 [.ref 63, .int (nI k), .int x] (Wd (YT X t) Z) (RI (vUndoes q (nI k) m x t).1 (YT X (vUndoes q (nI k) m x t).2)) := by
  rcases lt7 hq with e | e | e | e | e | e | e
  · subst e
    rw [show vUndoes 0 (nI k) m x t = vPU 0 (nI k) m x t from (if_neg (by omega)).trans (if_neg (by omega))]
    refine er_enter (L := [(0, _), (1, _), (2, _)]) rfl rfl rfl ?_
    refine er_loc (pc' := 1) rfl rfl rfl ?_
    refine er_loc (pc' := 2) rfl rfl rfl ?_
    refine er_k (pc' := 3) (nI 0) rfl rfl rfl ?_
    refine er_cIi (pc' := 6) (rest := []) 12 rfl rfl rfl rfl rfl rfl (l_yo0 _ X _ hI hk8 hq0 _) ?_
    refine er_sw (4) rfl rfl (fun s6_4 => ?_) (fun s6_4 => ?_)
    · exact absurd s6_4 (by decide +kernel)
    refine er_sw (6) rfl rfl (fun s6_6 => ?_) (fun s6_6 => ?_)
    · exact absurd s6_6 (by decide +kernel)
    refine er_lsD rfl rfl rfl (List.forall_mem_cons.mpr ⟨ne_toInt s6_4 rfl, List.forall_mem_cons.mpr ⟨ne_toInt s6_6 rfl, fun _ h => absurd h List.not_mem_nil⟩⟩) ?_
    refine er_loc (pc' := 79) rfl rfl rfl ?_
    refine er_loc (pc' := 80) rfl rfl rfl ?_
    refine er_loc (pc' := 81) rfl rfl rfl ?_
    refine er_cIz (pc' := 84) (rest := []) 12 rfl rfl rfl rfl rfl rfl (l_yPU _ X _ hI hk8 hq hq0 m hm _ (ht) _) ?_
    intro Z2
    refine er_iret rfl rfl ?_
    exact RI_of (by dsimp only) (by dsimp only)
  · subst e
    rw [show vUndoes 1 (nI k) m x t = vPU 1 (nI k) m x t from (if_neg (by omega)).trans (if_neg (by omega))]
    refine er_enter (L := [(0, _), (1, _), (2, _)]) rfl rfl rfl ?_
    refine er_loc (pc' := 1) rfl rfl rfl ?_
    refine er_loc (pc' := 2) rfl rfl rfl ?_
    refine er_k (pc' := 3) (nI 0) rfl rfl rfl ?_
    refine er_cIi (pc' := 6) (rest := []) 12 rfl rfl rfl rfl rfl rfl (l_yo0 _ X _ hI hk8 hq0 _) ?_
    refine er_sw (4) rfl rfl (fun s6_4 => ?_) (fun s6_4 => ?_)
    · exact absurd s6_4 (by decide +kernel)
    refine er_sw (6) rfl rfl (fun s6_6 => ?_) (fun s6_6 => ?_)
    · exact absurd s6_6 (by decide +kernel)
    refine er_lsD rfl rfl rfl (List.forall_mem_cons.mpr ⟨ne_toInt s6_4 rfl, List.forall_mem_cons.mpr ⟨ne_toInt s6_6 rfl, fun _ h => absurd h List.not_mem_nil⟩⟩) ?_
    refine er_loc (pc' := 79) rfl rfl rfl ?_
    refine er_loc (pc' := 80) rfl rfl rfl ?_
    refine er_loc (pc' := 81) rfl rfl rfl ?_
    refine er_cIz (pc' := 84) (rest := []) 12 rfl rfl rfl rfl rfl rfl (l_yPU _ X _ hI hk8 hq hq0 m hm _ (ht) _) ?_
    intro Z2
    refine er_iret rfl rfl ?_
    exact RI_of (by dsimp only) (by dsimp only)
  · subst e
    rw [show vUndoes 2 (nI k) m x t = vPU 2 (nI k) m x t from (if_neg (by omega)).trans (if_neg (by omega))]
    refine er_enter (L := [(0, _), (1, _), (2, _)]) rfl rfl rfl ?_
    refine er_loc (pc' := 1) rfl rfl rfl ?_
    refine er_loc (pc' := 2) rfl rfl rfl ?_
    refine er_k (pc' := 3) (nI 0) rfl rfl rfl ?_
    refine er_cIi (pc' := 6) (rest := []) 12 rfl rfl rfl rfl rfl rfl (l_yo0 _ X _ hI hk8 hq0 _) ?_
    refine er_sw (4) rfl rfl (fun s6_4 => ?_) (fun s6_4 => ?_)
    · exact absurd s6_4 (by decide +kernel)
    refine er_sw (6) rfl rfl (fun s6_6 => ?_) (fun s6_6 => ?_)
    · exact absurd s6_6 (by decide +kernel)
    refine er_lsD rfl rfl rfl (List.forall_mem_cons.mpr ⟨ne_toInt s6_4 rfl, List.forall_mem_cons.mpr ⟨ne_toInt s6_6 rfl, fun _ h => absurd h List.not_mem_nil⟩⟩) ?_
    refine er_loc (pc' := 79) rfl rfl rfl ?_
    refine er_loc (pc' := 80) rfl rfl rfl ?_
    refine er_loc (pc' := 81) rfl rfl rfl ?_
    refine er_cIz (pc' := 84) (rest := []) 12 rfl rfl rfl rfl rfl rfl (l_yPU _ X _ hI hk8 hq hq0 m hm _ (ht) _) ?_
    intro Z2
    refine er_iret rfl rfl ?_
    exact RI_of (by dsimp only) (by dsimp only)
  · subst e
    rw [show vUndoes 3 (nI k) m x t = vPU 3 (nI k) m x t from (if_neg (by omega)).trans (if_neg (by omega))]
    refine er_enter (L := [(0, _), (1, _), (2, _)]) rfl rfl rfl ?_
    refine er_loc (pc' := 1) rfl rfl rfl ?_
    refine er_loc (pc' := 2) rfl rfl rfl ?_
    refine er_k (pc' := 3) (nI 0) rfl rfl rfl ?_
    refine er_cIi (pc' := 6) (rest := []) 12 rfl rfl rfl rfl rfl rfl (l_yo0 _ X _ hI hk8 hq0 _) ?_
    refine er_sw (4) rfl rfl (fun s6_4 => ?_) (fun s6_4 => ?_)
    · exact absurd s6_4 (by decide +kernel)
    refine er_sw (6) rfl rfl (fun s6_6 => ?_) (fun s6_6 => ?_)
    · exact absurd s6_6 (by decide +kernel)
    refine er_lsD rfl rfl rfl (List.forall_mem_cons.mpr ⟨ne_toInt s6_4 rfl, List.forall_mem_cons.mpr ⟨ne_toInt s6_6 rfl, fun _ h => absurd h List.not_mem_nil⟩⟩) ?_
    refine er_loc (pc' := 79) rfl rfl rfl ?_
    refine er_loc (pc' := 80) rfl rfl rfl ?_
    refine er_loc (pc' := 81) rfl rfl rfl ?_
    refine er_cIz (pc' := 84) (rest := []) 12 rfl rfl rfl rfl rfl rfl (l_yPU _ X _ hI hk8 hq hq0 m hm _ (ht) _) ?_
    intro Z2
    refine er_iret rfl rfl ?_
    exact RI_of (by dsimp only) (by dsimp only)
  · subst e
    rw [show vUndoes 4 (nI k) m x t = ((vPU 4 (nI k) m x (bg t (nI 50))).1 - (vFits 4 (nI k) (nI 2) (vPU 4 (nI k) m x (bg t (nI 50))).2).1, (vFits 4 (nI k) (nI 2) (vPU 4 (nI k) m x (bg t (nI 50))).2).2) from if_pos rfl]
    refine er_enter (L := [(0, _), (1, _), (2, _)]) rfl rfl rfl ?_
    refine er_loc (pc' := 1) rfl rfl rfl ?_
    refine er_loc (pc' := 2) rfl rfl rfl ?_
    refine er_k (pc' := 3) (nI 0) rfl rfl rfl ?_
    refine er_cIi (pc' := 6) (rest := []) 12 rfl rfl rfl rfl rfl rfl (l_yo0 _ X _ hI hk8 hq0 _) ?_
    refine er_swT (4) rfl (by decide +kernel) rfl ?_
    refine er_loc (pc' := 33) rfl rfl rfl ?_
    refine er_k (pc' := 35) (nI 50) rfl rfl rfl ?_
    refine er_cIv (pc' := 38) (rest := []) 12 rfl rfl rfl rfl rfl rfl (l_yBegins _ X _ _ (ht) _) ?_
    intro Z7
    refine er_loc (pc' := 39) rfl rfl rfl ?_
    refine er_loc (pc' := 40) rfl rfl rfl ?_
    refine er_loc (pc' := 41) rfl rfl rfl ?_
    refine er_cIz (pc' := 44) (rest := []) 12 rfl rfl rfl rfl rfl rfl (l_yPU _ X _ hI hk8 hq hq0 m hm _ (bg_le ht) _) ?_
    intro Z2
    refine er_loc (pc' := 45) (L' := [(3, _), (0, _), (1, _), (2, _)]) rfl rfl rfl ?_
    refine er_loc (pc' := 46) rfl rfl rfl ?_
    refine er_loc (pc' := 47) rfl rfl rfl ?_
    refine er_loc (pc' := 48) rfl rfl rfl ?_
    refine er_k (pc' := 49) (nI 2) rfl rfl rfl ?_
    refine er_cIz (pc' := 52) (rest := [_]) 12 rfl rfl rfl rfl rfl rfl (l_yFits _ X _ hI hk8 hq hq0 m hm _ (vPU_le (q := 4) (n := nI k) (m := m) (x := x) (bg_le ht)) _) ?_
    intro Z2
    refine er_isub (pc' := 53) rfl rfl ?_
    refine er_iret rfl rfl ?_
    exact RI_of (by dsimp only) (by dsimp only)
  · subst e
    rw [show vUndoes 5 (nI k) m x t = vPU 5 (nI k) m x t from (if_neg (by omega)).trans (if_neg (by omega))]
    refine er_enter (L := [(0, _), (1, _), (2, _)]) rfl rfl rfl ?_
    refine er_loc (pc' := 1) rfl rfl rfl ?_
    refine er_loc (pc' := 2) rfl rfl rfl ?_
    refine er_k (pc' := 3) (nI 0) rfl rfl rfl ?_
    refine er_cIi (pc' := 6) (rest := []) 12 rfl rfl rfl rfl rfl rfl (l_yo0 _ X _ hI hk8 hq0 _) ?_
    refine er_sw (4) rfl rfl (fun s6_4 => ?_) (fun s6_4 => ?_)
    · exact absurd s6_4 (by decide +kernel)
    refine er_sw (6) rfl rfl (fun s6_6 => ?_) (fun s6_6 => ?_)
    · exact absurd s6_6 (by decide +kernel)
    refine er_lsD rfl rfl rfl (List.forall_mem_cons.mpr ⟨ne_toInt s6_4 rfl, List.forall_mem_cons.mpr ⟨ne_toInt s6_6 rfl, fun _ h => absurd h List.not_mem_nil⟩⟩) ?_
    refine er_loc (pc' := 79) rfl rfl rfl ?_
    refine er_loc (pc' := 80) rfl rfl rfl ?_
    refine er_loc (pc' := 81) rfl rfl rfl ?_
    refine er_cIz (pc' := 84) (rest := []) 12 rfl rfl rfl rfl rfl rfl (l_yPU _ X _ hI hk8 hq hq0 m hm _ (ht) _) ?_
    intro Z2
    refine er_iret rfl rfl ?_
    exact RI_of (by dsimp only) (by dsimp only)
  · subst e
    rw [show vUndoes 6 (nI k) m x t = ((vErrs 6 (nI k) m x (bg t (nI 71))).1 - (vPU 6 (nI k) m x (vErrs 6 (nI k) m x (bg t (nI 71))).2).1, (vPU 6 (nI k) m x (vErrs 6 (nI k) m x (bg t (nI 71))).2).2) from (if_neg (by omega)).trans (if_pos rfl)]
    refine er_enter (L := [(0, _), (1, _), (2, _)]) rfl rfl rfl ?_
    refine er_loc (pc' := 1) rfl rfl rfl ?_
    refine er_loc (pc' := 2) rfl rfl rfl ?_
    refine er_k (pc' := 3) (nI 0) rfl rfl rfl ?_
    refine er_cIi (pc' := 6) (rest := []) 12 rfl rfl rfl rfl rfl rfl (l_yo0 _ X _ hI hk8 hq0 _) ?_
    refine er_swT (6) rfl (by decide +kernel) rfl ?_
    refine er_loc (pc' := 55) rfl rfl rfl ?_
    refine er_k (pc' := 57) (nI 71) rfl rfl rfl ?_
    refine er_cIv (pc' := 60) (rest := []) 12 rfl rfl rfl rfl rfl rfl (l_yBegins _ X _ _ (ht) _) ?_
    intro Z7
    refine er_loc (pc' := 61) rfl rfl rfl ?_
    refine er_loc (pc' := 62) rfl rfl rfl ?_
    refine er_loc (pc' := 63) rfl rfl rfl ?_
    refine er_cIz (pc' := 66) (rest := []) 12 rfl rfl rfl rfl rfl rfl (l_yErrs _ X _ hI hk8 hq hq0 m hm _ (bg_le ht) _) ?_
    intro Z2
    refine er_loc (pc' := 68) (L' := [(4, _), (0, _), (1, _), (2, _)]) rfl rfl rfl ?_
    refine er_loc (pc' := 70) rfl rfl rfl ?_
    refine er_loc (pc' := 71) rfl rfl rfl ?_
    refine er_loc (pc' := 72) rfl rfl rfl ?_
    refine er_loc (pc' := 73) rfl rfl rfl ?_
    refine er_cIz (pc' := 76) (rest := [_]) 12 rfl rfl rfl rfl rfl rfl (l_yPU _ X _ hI hk8 hq hq0 m hm _ (vErrs_le (q := 6) (n := nI k) (m := m) (x := x) (bg_le ht)) _) ?_
    intro Z2
    refine er_isub (pc' := 77) rfl rfl ?_
    refine er_iret rfl rfl ?_
    exact RI_of (by dsimp only) (by dsimp only)
set_option maxRecDepth 100000 in
set_option maxHeartbeats 4000000 in
theorem l_rVoice_no (d : Nat) (X Z : Nat → Nat → Int32) {T : Nat} (hI : RK T (X 64)) (s w x : Int32) (hs : jHas (jm (X 64)) s = false) : EC (d + 3) 200 [.ref 63, .int s, .int w, .int x] (Wd X Z) (RI (sErr 1) (yErr X 1)) := by
  refine er_enter (L := [(0, _), (1, _), (2, _), (3, _)]) rfl rfl rfl ?_
  refine er_loc (pc' := 1) rfl rfl rfl ?_
  refine er_loc (pc' := 2) rfl rfl rfl ?_
  refine er_cIi (pc' := 5) (rest := []) 12 rfl rfl rfl rfl rfl rfl (l_rHas_f _ X _ hI hs) ?_
  refine er_if_eqT rfl (by decide +kernel) ?_
  refine er_loc (pc' := 18) rfl rfl rfl ?_
  refine er_ldc (pc' := 20) (-1000000001) rfl rfl rfl rfl rfl ?_
  refine er_cIz (pc' := 23) (rest := []) 12 rfl rfl rfl rfl rfl rfl (l_rError1 _ _ _) ?_
  intro Z9
  refine er_iret rfl rfl ?_
  exact RI_of rfl rfl
set_option maxRecDepth 100000 in
set_option maxHeartbeats 4000000 in
theorem l_rVoice0 (d : Nat) (X Z : Nat → Nat → Int32) {T : Nat} (hI : RK T (X 64)) {k : Nat} (hk : k < jn (jm (X 64))) (x : Int32) : EC (d + 9) 200 [.ref 63, .int (nI k), .int (nI 0), .int x] (Wd X Z) (RI (vFits (sKind (jm (X 64)) k) (nI k) x (0, X 75)).1 (YT X (vFits (sKind (jm (X 64)) k) (nI k) x (0, X 75)).2)) := by
  refine er_enter (L := [(0, _), (1, _), (2, _), (3, _)]) rfl rfl rfl ?_
  have h8 := jn8 hI.ij
  have hk8 : k < 8 := by omega
  refine er_loc (pc' := 1) rfl rfl rfl ?_
  refine er_loc (pc' := 2) rfl rfl rfl ?_
  refine er_cIi (pc' := 5) (rest := []) 12 rfl rfl rfl rfl rfl rfl (l_rHas_t _ X _ hI hk) ?_
  refine er_if_eqF (pc' := 8) rfl (by decide +kernel) rfl ?_
  refine er_loc (pc' := 9) rfl rfl rfl ?_
  refine er_k (pc' := 10) (nI 0) rfl rfl rfl ?_
  refine er_k (pc' := 11) (nI 3) rfl rfl rfl ?_
  refine er_cSi (pc' := 14) (rest := []) rfl rfl rfl (l_in _ _ _ _ _) ?_
  rw [show sIn (nI 0) (nI 0) (nI 3) = true from by decide +kernel]
  refine er_if_neT rfl (by decide +kernel) ?_
  refine er_loc (pc' := 25) rfl rfl rfl ?_
  refine er_k (pc' := 26) (nI 0) rfl rfl rfl ?_
  refine er_pfIX (pc' := 29) 21 rfl rfl rfl rfl rfl rfl ?_
  rw [show ud X 63 21 (nI 0) = YT X (0, X 75) from by unfold YT; rw [uc_id]]
  refine er_loc (pc' := 30) rfl rfl rfl ?_
  refine er_if_neF (pc' := 33) rfl (rfl) rfl ?_
  refine er_loc (pc' := 34) rfl rfl rfl ?_
  refine er_loc (pc' := 35) rfl rfl rfl ?_
  refine er_loc (pc' := 36) rfl rfl rfl ?_
  refine er_cIz (pc' := 39) (rest := []) 12 rfl rfl rfl rfl rfl rfl (l_yFits _ X _ hI hk8 (kind7 hI.ij k) rfl (jm (X 64) 2 k) rfl (0, X 75) (Nat.zero_le _) _) ?_
  intro Z2
  refine er_goto rfl ?_
  refine er_iret rfl rfl ?_
  exact RI_of rfl rfl
set_option maxRecDepth 100000 in
set_option maxHeartbeats 4000000 in
theorem l_rVoice1 (d : Nat) (X Z : Nat → Nat → Int32) {T : Nat} (hI : RK T (X 64)) {k : Nat} (hk : k < jn (jm (X 64))) (x : Int32) : EC (d + 9) 200 [.ref 63, .int (nI k), .int (nI 1), .int x] (Wd X Z) (RI (vErrs (sKind (jm (X 64)) k) (nI k) (jm (X 64) 2 k) x (0, X 75)).1 (YT X (vErrs (sKind (jm (X 64)) k) (nI k) (jm (X 64) 2 k) x (0, X 75)).2)) := by
  refine er_enter (L := [(0, _), (1, _), (2, _), (3, _)]) rfl rfl rfl ?_
  have h8 := jn8 hI.ij
  have hk8 : k < 8 := by omega
  refine er_loc (pc' := 1) rfl rfl rfl ?_
  refine er_loc (pc' := 2) rfl rfl rfl ?_
  refine er_cIi (pc' := 5) (rest := []) 12 rfl rfl rfl rfl rfl rfl (l_rHas_t _ X _ hI hk) ?_
  refine er_if_eqF (pc' := 8) rfl (by decide +kernel) rfl ?_
  refine er_loc (pc' := 9) rfl rfl rfl ?_
  refine er_k (pc' := 10) (nI 0) rfl rfl rfl ?_
  refine er_k (pc' := 11) (nI 3) rfl rfl rfl ?_
  refine er_cSi (pc' := 14) (rest := []) rfl rfl rfl (l_in _ _ _ _ _) ?_
  rw [show sIn (nI 1) (nI 0) (nI 3) = true from by decide +kernel]
  refine er_if_neT rfl (by decide +kernel) ?_
  refine er_loc (pc' := 25) rfl rfl rfl ?_
  refine er_k (pc' := 26) (nI 0) rfl rfl rfl ?_
  refine er_pfIX (pc' := 29) 21 rfl rfl rfl rfl rfl rfl ?_
  rw [show ud X 63 21 (nI 0) = YT X (0, X 75) from by unfold YT; rw [uc_id]]
  refine er_loc (pc' := 30) rfl rfl rfl ?_
  refine er_if_neT rfl (by decide +kernel) ?_
  refine er_loc (pc' := 43) rfl rfl rfl ?_
  refine er_k (pc' := 44) (nI 1) rfl rfl rfl ?_
  refine er_cm_neF (pc' := 47) rfl (rfl) rfl ?_
  refine er_loc (pc' := 48) rfl rfl rfl ?_
  refine er_loc (pc' := 49) rfl rfl rfl ?_
  refine er_loc (pc' := 50) rfl rfl rfl ?_
  refine er_cIz (pc' := 53) (rest := []) 12 rfl rfl rfl rfl rfl rfl (l_yErrs _ X _ hI hk8 (kind7 hI.ij k) rfl (jm (X 64) 2 k) rfl (0, X 75) (Nat.zero_le _) _) ?_
  intro Z2
  refine er_goto rfl ?_
  refine er_iret rfl rfl ?_
  exact RI_of rfl rfl
set_option maxRecDepth 100000 in
set_option maxHeartbeats 4000000 in
theorem l_rVoice2 (d : Nat) (X Z : Nat → Nat → Int32) {T : Nat} (hI : RK T (X 64)) {k : Nat} (hk : k < jn (jm (X 64))) (x : Int32) : EC (d + 9) 200 [.ref 63, .int (nI k), .int (nI 2), .int x] (Wd X Z) (RI (vLooks (sKind (jm (X 64)) k) (nI k) (jm (X 64) 2 k) x (0, X 75)).1 (YT X (vLooks (sKind (jm (X 64)) k) (nI k) (jm (X 64) 2 k) x (0, X 75)).2)) := by
  refine er_enter (L := [(0, _), (1, _), (2, _), (3, _)]) rfl rfl rfl ?_
  have h8 := jn8 hI.ij
  have hk8 : k < 8 := by omega
  refine er_loc (pc' := 1) rfl rfl rfl ?_
  refine er_loc (pc' := 2) rfl rfl rfl ?_
  refine er_cIi (pc' := 5) (rest := []) 12 rfl rfl rfl rfl rfl rfl (l_rHas_t _ X _ hI hk) ?_
  refine er_if_eqF (pc' := 8) rfl (by decide +kernel) rfl ?_
  refine er_loc (pc' := 9) rfl rfl rfl ?_
  refine er_k (pc' := 10) (nI 0) rfl rfl rfl ?_
  refine er_k (pc' := 11) (nI 3) rfl rfl rfl ?_
  refine er_cSi (pc' := 14) (rest := []) rfl rfl rfl (l_in _ _ _ _ _) ?_
  rw [show sIn (nI 2) (nI 0) (nI 3) = true from by decide +kernel]
  refine er_if_neT rfl (by decide +kernel) ?_
  refine er_loc (pc' := 25) rfl rfl rfl ?_
  refine er_k (pc' := 26) (nI 0) rfl rfl rfl ?_
  refine er_pfIX (pc' := 29) 21 rfl rfl rfl rfl rfl rfl ?_
  rw [show ud X 63 21 (nI 0) = YT X (0, X 75) from by unfold YT; rw [uc_id]]
  refine er_loc (pc' := 30) rfl rfl rfl ?_
  refine er_if_neT rfl (by decide +kernel) ?_
  refine er_loc (pc' := 43) rfl rfl rfl ?_
  refine er_k (pc' := 44) (nI 1) rfl rfl rfl ?_
  refine er_cm_neT rfl (by decide +kernel) ?_
  refine er_loc (pc' := 57) rfl rfl rfl ?_
  refine er_k (pc' := 58) (nI 2) rfl rfl rfl ?_
  refine er_cm_neF (pc' := 61) rfl (rfl) rfl ?_
  refine er_loc (pc' := 62) rfl rfl rfl ?_
  refine er_loc (pc' := 63) rfl rfl rfl ?_
  refine er_loc (pc' := 64) rfl rfl rfl ?_
  refine er_cIz (pc' := 67) (rest := []) 12 rfl rfl rfl rfl rfl rfl (l_yLooks _ X _ hI hk8 (kind7 hI.ij k) rfl (jm (X 64) 2 k) rfl (0, X 75) (Nat.zero_le _) _) ?_
  intro Z2
  refine er_goto rfl ?_
  refine er_iret rfl rfl ?_
  exact RI_of rfl rfl
set_option maxRecDepth 100000 in
set_option maxHeartbeats 4000000 in
theorem l_rVoice3 (d : Nat) (X Z : Nat → Nat → Int32) {T : Nat} (hI : RK T (X 64)) {k : Nat} (hk : k < jn (jm (X 64))) (x : Int32) : EC (d + 9) 200 [.ref 63, .int (nI k), .int (nI 3), .int x] (Wd X Z) (RI (vUndoes (sKind (jm (X 64)) k) (nI k) (jm (X 64) 2 k) x (0, X 75)).1 (YT X (vUndoes (sKind (jm (X 64)) k) (nI k) (jm (X 64) 2 k) x (0, X 75)).2)) := by
  refine er_enter (L := [(0, _), (1, _), (2, _), (3, _)]) rfl rfl rfl ?_
  have h8 := jn8 hI.ij
  have hk8 : k < 8 := by omega
  refine er_loc (pc' := 1) rfl rfl rfl ?_
  refine er_loc (pc' := 2) rfl rfl rfl ?_
  refine er_cIi (pc' := 5) (rest := []) 12 rfl rfl rfl rfl rfl rfl (l_rHas_t _ X _ hI hk) ?_
  refine er_if_eqF (pc' := 8) rfl (by decide +kernel) rfl ?_
  refine er_loc (pc' := 9) rfl rfl rfl ?_
  refine er_k (pc' := 10) (nI 0) rfl rfl rfl ?_
  refine er_k (pc' := 11) (nI 3) rfl rfl rfl ?_
  refine er_cSi (pc' := 14) (rest := []) rfl rfl rfl (l_in _ _ _ _ _) ?_
  rw [show sIn (nI 3) (nI 0) (nI 3) = true from by decide +kernel]
  refine er_if_neT rfl (by decide +kernel) ?_
  refine er_loc (pc' := 25) rfl rfl rfl ?_
  refine er_k (pc' := 26) (nI 0) rfl rfl rfl ?_
  refine er_pfIX (pc' := 29) 21 rfl rfl rfl rfl rfl rfl ?_
  rw [show ud X 63 21 (nI 0) = YT X (0, X 75) from by unfold YT; rw [uc_id]]
  refine er_loc (pc' := 30) rfl rfl rfl ?_
  refine er_if_neT rfl (by decide +kernel) ?_
  refine er_loc (pc' := 43) rfl rfl rfl ?_
  refine er_k (pc' := 44) (nI 1) rfl rfl rfl ?_
  refine er_cm_neT rfl (by decide +kernel) ?_
  refine er_loc (pc' := 57) rfl rfl rfl ?_
  refine er_k (pc' := 58) (nI 2) rfl rfl rfl ?_
  refine er_cm_neT rfl (by decide +kernel) ?_
  refine er_loc (pc' := 71) rfl rfl rfl ?_
  refine er_loc (pc' := 72) rfl rfl rfl ?_
  refine er_loc (pc' := 73) rfl rfl rfl ?_
  refine er_cIz (pc' := 76) (rest := []) 12 rfl rfl rfl rfl rfl rfl (l_yUndoes _ X _ hI hk8 (kind7 hI.ij k) rfl (jm (X 64) 2 k) rfl (0, X 75) (Nat.zero_le _) _) ?_
  intro Z2
  refine er_iret rfl rfl ?_
  exact RI_of rfl rfl
theorem l_rVoice (d : Nat) (X Z : Nat → Nat → Int32) {T : Nat} (hI : RK T (X 64)) {k : Nat} (hk : k < jn (jm (X 64))) (w x : Int32) : EC (d + 9) 200 [.ref 63, .int (nI k), .int w, .int x] (Wd X Z) (fun r => if sIn w (nI 0) (nI 3) = true then RI (sVoice (sKind (jm (X 64)) k) k (jm (X 64) 2 k) w x (0, X 75)).1 (YT X (sVoice (sKind (jm (X 64)) k) k (jm (X 64) 2 k) w x (0, X 75)).2) r else RI (sErr 1) (yErr X 1) r) := by
  by_cases hw : sIn w (nI 0) (nI 3) = true
  · refine EC.mono (P := RI (sVoice (sKind (jm (X 64)) k) k (jm (X 64) 2 k) w x (0, X 75)).1 (YT X (sVoice (sKind (jm (X 64)) k) k (jm (X 64) 2 k) w x (0, X 75)).2)) ?_ (fun r hr => by rw [if_pos hw]; exact hr)
    obtain ⟨j, _, h2, rfl⟩ := sIn_ex (by omega) (by omega) hw
    have : j = 0 ∨ j = 1 ∨ j = 2 ∨ j = 3 := by omega
    unfold sVoice
    rcases this with rfl | rfl | rfl | rfl
    · rw [if_pos (by decide +kernel)]
      exact l_rVoice0 d X Z hI hk x
    · rw [if_neg (by decide +kernel), if_pos (by decide +kernel)]
      exact l_rVoice1 d X Z hI hk x
    · rw [if_neg (by decide +kernel), if_neg (by decide +kernel), if_pos (by decide +kernel)]
      exact l_rVoice2 d X Z hI hk x
    · rw [if_neg (by decide +kernel), if_neg (by decide +kernel), if_neg (by decide +kernel)]
      exact l_rVoice3 d X Z hI hk x
  · refine EC.mono (P := RI (sErr 1) (yErr X 1)) ?_ (fun r hr => by rw [if_neg hw]; exact hr)
    have hw2 : sIn w (nI 0) (nI 3) = false := by simpa using hw
    refine er_enter (L := [(0, _), (1, _), (2, _), (3, _)]) rfl rfl rfl ?_
    refine er_loc (pc' := 1) rfl rfl rfl ?_
    refine er_loc (pc' := 2) rfl rfl rfl ?_
    refine er_cIi (pc' := 5) (rest := []) 12 rfl rfl rfl rfl rfl rfl (l_rHas_t _ X _ hI hk) ?_
    refine er_if_eqF (pc' := 8) rfl (by decide +kernel) rfl ?_
    refine er_loc (pc' := 9) rfl rfl rfl ?_
    refine er_k (pc' := 10) (nI 0) rfl rfl rfl ?_
    refine er_k (pc' := 11) (nI 3) rfl rfl rfl ?_
    refine er_cSi (pc' := 14) (rest := []) rfl rfl rfl (l_in _ _ _ _ _) ?_
    rw [hw2]
    refine er_if_neF (pc' := 17) rfl (by decide +kernel) rfl ?_
    refine er_loc (pc' := 18) rfl rfl rfl ?_
    refine er_ldc (pc' := 20) (-1000000001) rfl rfl rfl rfl rfl ?_
    refine er_cIz (pc' := 23) (rest := []) 12 rfl rfl rfl rfl rfl rfl (l_rError1 _ _ _) ?_
    intro Z9
    refine er_iret rfl rfl ?_
    exact RI_of rfl rfl
