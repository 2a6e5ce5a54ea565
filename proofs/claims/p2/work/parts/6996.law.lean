/-! THE LAW: its loop over the pairs -/
def Lk (n : Nat) : ab_Lo := [(3, .int (nI n)), (2, .ref 63), (1, .ref 0), (0, .ref 1000001)]
def P1 (r : ab_R) : Prop := ∃ w, r = (some (.int 1), w)
section LAW
variable {xs : List Int32} {n : Nat} {X Z : Nat → Nat → Int32} {P : ab_R → Prop}
set_option maxRecDepth 100000 in
theorem lx_c0 (hR : Rel X) (hn : n + 6 ≤ xs.length) (hl : xs.length ≤ 4000) (k : ∀ X2 Z2, Rel X2 → LG xs 1260 (Lk n) [] (Wd X2 Z2) P) : LG xs 192 (Lk n) [] (Wd X Z) P := by
  refine lg_l rfl rfl rfl ?_
  refine lg_l rfl rfl rfl ?_
  refine lg_l rfl rfl rfl ?_
  refine lg_p rfl rfl rfl ?_
  refine lg_p rfl rfl rfl ?_
  refine lg_ia 1 rfl rfl (by omega) hl rfl ?_
  refine lg_l rfl rfl rfl ?_
  refine lg_l rfl rfl rfl ?_
  refine lg_p rfl rfl rfl ?_
  refine lg_p rfl rfl rfl ?_
  refine lg_ia 2 rfl rfl (by omega) hl rfl ?_
  refine lg_l rfl rfl rfl ?_
  refine lg_l rfl rfl rfl ?_
  refine lg_p rfl rfl rfl ?_
  refine lg_p rfl rfl rfl ?_
  refine lg_ia 3 rfl rfl (by omega) hl rfl ?_
  refine lg_A (p_step hR _ _ _) rfl rfl rfl (fun v X1 Z1 h2 => ?_)
  refine lg_l rfl rfl rfl ?_
  refine lg_l rfl rfl rfl ?_
  refine lg_l rfl rfl rfl ?_
  refine lg_p rfl rfl rfl ?_
  refine lg_p rfl rfl rfl ?_
  refine lg_ia 1 rfl rfl (by omega) hl rfl ?_
  refine lg_l rfl rfl rfl ?_
  refine lg_l rfl rfl rfl ?_
  refine lg_p rfl rfl rfl ?_
  refine lg_p rfl rfl rfl ?_
  refine lg_ia 2 rfl rfl (by omega) hl rfl ?_
  refine lg_l rfl rfl rfl ?_
  refine lg_l rfl rfl rfl ?_
  refine lg_p rfl rfl rfl ?_
  refine lg_p rfl rfl rfl ?_
  refine lg_ia 3 rfl rfl (by omega) hl rfl ?_
  refine lg_B h2 rfl rfl rfl (fun v2 X2 Z2 h3 h4 => ?_)
  exact lg_eqT rfl (h4 rfl) rfl (k X2 Z2 h3)
set_option maxRecDepth 100000 in
theorem lx_c1 (hR : Rel X) (hn : n + 6 ≤ xs.length) (hl : xs.length ≤ 4000) (k : ∀ X2 Z2, Rel X2 → LG xs 1260 (Lk n) [] (Wd X2 Z2) P) : LG xs 235 (Lk n) [] (Wd X Z) P := by
  refine lg_l rfl rfl rfl ?_
  refine lg_l rfl rfl rfl ?_
  refine lg_l rfl rfl rfl ?_
  refine lg_p rfl rfl rfl ?_
  refine lg_p rfl rfl rfl ?_
  refine lg_ia 1 rfl rfl (by omega) hl rfl ?_
  refine lg_l rfl rfl rfl ?_
  refine lg_l rfl rfl rfl ?_
  refine lg_p rfl rfl rfl ?_
  refine lg_p rfl rfl rfl ?_
  refine lg_ia 2 rfl rfl (by omega) hl rfl ?_
  refine lg_A (p_ofStep hR _ _) rfl rfl rfl (fun v X1 Z1 h2 => ?_)
  refine lg_p rfl rfl rfl ?_
  refine lg_l rfl rfl rfl ?_
  refine lg_l rfl rfl rfl ?_
  refine lg_l rfl rfl rfl ?_
  refine lg_p rfl rfl rfl ?_
  refine lg_p rfl rfl rfl ?_
  refine lg_ia 1 rfl rfl (by omega) hl rfl ?_
  refine lg_l rfl rfl rfl ?_
  refine lg_l rfl rfl rfl ?_
  refine lg_p rfl rfl rfl ?_
  refine lg_p rfl rfl rfl ?_
  refine lg_ia 2 rfl rfl (by omega) hl rfl ?_
  refine lg_B h2 rfl rfl rfl (fun v2 X2 Z2 h3 h4 => ?_)
  refine lg_p rfl rfl rfl ?_
  exact lg_g rfl rfl (k X2 Z2 h3)
set_option maxRecDepth 100000 in
theorem lx_c2 (hR : Rel X) (hn : n + 6 ≤ xs.length) (hl : xs.length ≤ 4000) (k : ∀ X2 Z2, Rel X2 → LG xs 1260 (Lk n) [] (Wd X2 Z2) P) : LG xs 268 (Lk n) [] (Wd X Z) P := by
  refine lg_l rfl rfl rfl ?_
  refine lg_l rfl rfl rfl ?_
  refine lg_l rfl rfl rfl ?_
  refine lg_p rfl rfl rfl ?_
  refine lg_p rfl rfl rfl ?_
  refine lg_ia 1 rfl rfl (by omega) hl rfl ?_
  refine lg_l rfl rfl rfl ?_
  refine lg_l rfl rfl rfl ?_
  refine lg_p rfl rfl rfl ?_
  refine lg_p rfl rfl rfl ?_
  refine lg_ia 2 rfl rfl (by omega) hl rfl ?_
  refine lg_l rfl rfl rfl ?_
  refine lg_l rfl rfl rfl ?_
  refine lg_p rfl rfl rfl ?_
  refine lg_p rfl rfl rfl ?_
  refine lg_ia 3 rfl rfl (by omega) hl rfl ?_
  refine lg_A (p_change hR _ _ _) rfl rfl rfl (fun v X1 Z1 h2 => ?_)
  refine lg_p rfl rfl rfl ?_
  refine lg_l rfl rfl rfl ?_
  refine lg_l rfl rfl rfl ?_
  refine lg_l rfl rfl rfl ?_
  refine lg_p rfl rfl rfl ?_
  refine lg_p rfl rfl rfl ?_
  refine lg_ia 1 rfl rfl (by omega) hl rfl ?_
  refine lg_l rfl rfl rfl ?_
  refine lg_l rfl rfl rfl ?_
  refine lg_p rfl rfl rfl ?_
  refine lg_p rfl rfl rfl ?_
  refine lg_ia 2 rfl rfl (by omega) hl rfl ?_
  refine lg_l rfl rfl rfl ?_
  refine lg_l rfl rfl rfl ?_
  refine lg_p rfl rfl rfl ?_
  refine lg_p rfl rfl rfl ?_
  refine lg_ia 3 rfl rfl (by omega) hl rfl ?_
  refine lg_B h2 rfl rfl rfl (fun v2 X2 Z2 h3 h4 => ?_)
  refine lg_p rfl rfl rfl ?_
  exact lg_g rfl rfl (k X2 Z2 h3)
set_option maxRecDepth 100000 in
theorem lx_c3 (hR : Rel X) (hn : n + 6 ≤ xs.length) (hl : xs.length ≤ 4000) (k : ∀ X2 Z2, Rel X2 → LG xs 1260 (Lk n) [] (Wd X2 Z2) P) : LG xs 311 (Lk n) [] (Wd X Z) P := by
  refine lg_l rfl rfl rfl ?_
  refine lg_l rfl rfl rfl ?_
  refine lg_l rfl rfl rfl ?_
  refine lg_p rfl rfl rfl ?_
  refine lg_p rfl rfl rfl ?_
  refine lg_ia 1 rfl rfl (by omega) hl rfl ?_
  refine lg_l rfl rfl rfl ?_
  refine lg_l rfl rfl rfl ?_
  refine lg_p rfl rfl rfl ?_
  refine lg_p rfl rfl rfl ?_
  refine lg_ia 2 rfl rfl (by omega) hl rfl ?_
  refine lg_A (p_set hR _ _) rfl rfl rfl (fun v X1 Z1 h2 => ?_)
  refine lg_p rfl rfl rfl ?_
  refine lg_l rfl rfl rfl ?_
  refine lg_l rfl rfl rfl ?_
  refine lg_l rfl rfl rfl ?_
  refine lg_p rfl rfl rfl ?_
  refine lg_p rfl rfl rfl ?_
  refine lg_ia 1 rfl rfl (by omega) hl rfl ?_
  refine lg_l rfl rfl rfl ?_
  refine lg_l rfl rfl rfl ?_
  refine lg_p rfl rfl rfl ?_
  refine lg_p rfl rfl rfl ?_
  refine lg_ia 2 rfl rfl (by omega) hl rfl ?_
  refine lg_B h2 rfl rfl rfl (fun v2 X2 Z2 h3 h4 => ?_)
  refine lg_p rfl rfl rfl ?_
  exact lg_g rfl rfl (k X2 Z2 h3)
set_option maxRecDepth 100000 in
theorem lx_c4 (hR : Rel X) (hn : n + 6 ≤ xs.length) (hl : xs.length ≤ 4000) (k : ∀ X2 Z2, Rel X2 → LG xs 1260 (Lk n) [] (Wd X2 Z2) P) : LG xs 344 (Lk n) [] (Wd X Z) P := by
  refine lg_l rfl rfl rfl ?_
  refine lg_l rfl rfl rfl ?_
  refine lg_l rfl rfl rfl ?_
  refine lg_p rfl rfl rfl ?_
  refine lg_p rfl rfl rfl ?_
  refine lg_ia 1 rfl rfl (by omega) hl rfl ?_
  refine lg_l rfl rfl rfl ?_
  refine lg_l rfl rfl rfl ?_
  refine lg_p rfl rfl rfl ?_
  refine lg_p rfl rfl rfl ?_
  refine lg_ia 2 rfl rfl (by omega) hl rfl ?_
  refine lg_A (p_become hR _ _) rfl rfl rfl (fun v X1 Z1 h2 => ?_)
  refine lg_p rfl rfl rfl ?_
  refine lg_l rfl rfl rfl ?_
  refine lg_l rfl rfl rfl ?_
  refine lg_l rfl rfl rfl ?_
  refine lg_p rfl rfl rfl ?_
  refine lg_p rfl rfl rfl ?_
  refine lg_ia 1 rfl rfl (by omega) hl rfl ?_
  refine lg_l rfl rfl rfl ?_
  refine lg_l rfl rfl rfl ?_
  refine lg_p rfl rfl rfl ?_
  refine lg_p rfl rfl rfl ?_
  refine lg_ia 2 rfl rfl (by omega) hl rfl ?_
  refine lg_B h2 rfl rfl rfl (fun v2 X2 Z2 h3 h4 => ?_)
  refine lg_p rfl rfl rfl ?_
  exact lg_g rfl rfl (k X2 Z2 h3)
set_option maxRecDepth 100000 in
theorem lx_c5 (hR : Rel X) (hn : n + 6 ≤ xs.length) (hl : xs.length ≤ 4000) (k : ∀ X2 Z2, Rel X2 → LG xs 1260 (Lk n) [] (Wd X2 Z2) P) : LG xs 377 (Lk n) [] (Wd X Z) P := by
  refine lg_l rfl rfl rfl ?_
  refine lg_l rfl rfl rfl ?_
  refine lg_l rfl rfl rfl ?_
  refine lg_p rfl rfl rfl ?_
  refine lg_p rfl rfl rfl ?_
  refine lg_ia 1 rfl rfl (by omega) hl rfl ?_
  refine lg_l rfl rfl rfl ?_
  refine lg_l rfl rfl rfl ?_
  refine lg_p rfl rfl rfl ?_
  refine lg_p rfl rfl rfl ?_
  refine lg_ia 2 rfl rfl (by omega) hl rfl ?_
  refine lg_A (p_as hR _ _) rfl rfl rfl (fun v X1 Z1 h2 => ?_)
  refine lg_p rfl rfl rfl ?_
  refine lg_l rfl rfl rfl ?_
  refine lg_l rfl rfl rfl ?_
  refine lg_l rfl rfl rfl ?_
  refine lg_p rfl rfl rfl ?_
  refine lg_p rfl rfl rfl ?_
  refine lg_ia 1 rfl rfl (by omega) hl rfl ?_
  refine lg_l rfl rfl rfl ?_
  refine lg_l rfl rfl rfl ?_
  refine lg_p rfl rfl rfl ?_
  refine lg_p rfl rfl rfl ?_
  refine lg_ia 2 rfl rfl (by omega) hl rfl ?_
  refine lg_B h2 rfl rfl rfl (fun v2 X2 Z2 h3 h4 => ?_)
  refine lg_p rfl rfl rfl ?_
  exact lg_g rfl rfl (k X2 Z2 h3)
set_option maxRecDepth 100000 in
theorem lx_c6 (hR : Rel X) (hn : n + 6 ≤ xs.length) (hl : xs.length ≤ 4000) (k : ∀ X2 Z2, Rel X2 → LG xs 1260 (Lk n) [] (Wd X2 Z2) P) : LG xs 410 (Lk n) [] (Wd X Z) P := by
  refine lg_l rfl rfl rfl ?_
  refine lg_l rfl rfl rfl ?_
  refine lg_l rfl rfl rfl ?_
  refine lg_p rfl rfl rfl ?_
  refine lg_p rfl rfl rfl ?_
  refine lg_ia 1 rfl rfl (by omega) hl rfl ?_
  refine lg_p rfl rfl rfl ?_
  refine lg_p rfl rfl rfl ?_
  refine lg_p rfl rfl rfl ?_
  refine lg_l rfl rfl rfl ?_
  refine lg_l rfl rfl rfl ?_
  refine lg_p rfl rfl rfl ?_
  refine lg_p rfl rfl rfl ?_
  refine lg_ia 2 rfl rfl (by omega) hl rfl ?_
  refine lg_p rfl rfl rfl ?_
  refine lg_h rfl rfl rfl ?_
  refine lg_p rfl rfl rfl ?_
  refine lg_p rfl rfl rfl ?_
  refine lg_l rfl rfl rfl ?_
  refine lg_l rfl rfl rfl ?_
  refine lg_p rfl rfl rfl ?_
  refine lg_p rfl rfl rfl ?_
  refine lg_ia 3 rfl rfl (by omega) hl rfl ?_
  refine lg_A (p_feed hR _ _) rfl rfl rfl (fun v X1 Z1 h2 => ?_)
  refine lg_p rfl rfl rfl ?_
  refine lg_l rfl rfl rfl ?_
  refine lg_l rfl rfl rfl ?_
  refine lg_l rfl rfl rfl ?_
  refine lg_p rfl rfl rfl ?_
  refine lg_p rfl rfl rfl ?_
  refine lg_ia 1 rfl rfl (by omega) hl rfl ?_
  refine lg_p rfl rfl rfl ?_
  refine lg_p rfl rfl rfl ?_
  refine lg_p rfl rfl rfl ?_
  refine lg_l rfl rfl rfl ?_
  refine lg_l rfl rfl rfl ?_
  refine lg_p rfl rfl rfl ?_
  refine lg_p rfl rfl rfl ?_
  refine lg_ia 2 rfl rfl (by omega) hl rfl ?_
  refine lg_p rfl rfl rfl ?_
  refine lg_h rfl rfl rfl ?_
  refine lg_p rfl rfl rfl ?_
  refine lg_p rfl rfl rfl ?_
  refine lg_l rfl rfl rfl ?_
  refine lg_l rfl rfl rfl ?_
  refine lg_p rfl rfl rfl ?_
  refine lg_p rfl rfl rfl ?_
  refine lg_ia 3 rfl rfl (by omega) hl rfl ?_
  refine lg_B h2 rfl rfl rfl (fun v2 X2 Z2 h3 h4 => ?_)
  refine lg_p rfl rfl rfl ?_
  exact lg_g rfl rfl (k X2 Z2 h3)
set_option maxRecDepth 100000 in
theorem lx_c7 (hR : Rel X) (hn : n + 6 ≤ xs.length) (hl : xs.length ≤ 4000) (k : ∀ X2 Z2, Rel X2 → LG xs 1260 (Lk n) [] (Wd X2 Z2) P) : LG xs 473 (Lk n) [] (Wd X Z) P := by
  refine lg_l rfl rfl rfl ?_
  refine lg_l rfl rfl rfl ?_
  refine lg_l rfl rfl rfl ?_
  refine lg_p rfl rfl rfl ?_
  refine lg_p rfl rfl rfl ?_
  refine lg_ia 1 rfl rfl (by omega) hl rfl ?_
  refine lg_A (p_text hR _) rfl rfl rfl (fun v X1 Z1 h2 => ?_)
  refine lg_p rfl rfl rfl ?_
  refine lg_l rfl rfl rfl ?_
  refine lg_l rfl rfl rfl ?_
  refine lg_l rfl rfl rfl ?_
  refine lg_p rfl rfl rfl ?_
  refine lg_p rfl rfl rfl ?_
  refine lg_ia 1 rfl rfl (by omega) hl rfl ?_
  refine lg_B h2 rfl rfl rfl (fun v2 X2 Z2 h3 h4 => ?_)
  refine lg_p rfl rfl rfl ?_
  exact lg_g rfl rfl (k X2 Z2 h3)
set_option maxRecDepth 100000 in
theorem lx_c8 (hR : Rel X) (hn : n + 6 ≤ xs.length) (hl : xs.length ≤ 4000) (k : ∀ X2 Z2, Rel X2 → LG xs 1260 (Lk n) [] (Wd X2 Z2) P) : LG xs 496 (Lk n) [] (Wd X Z) P := by
  refine lg_l rfl rfl rfl ?_
  refine lg_l rfl rfl rfl ?_
  refine lg_l rfl rfl rfl ?_
  refine lg_p rfl rfl rfl ?_
  refine lg_p rfl rfl rfl ?_
  refine lg_ia 1 rfl rfl (by omega) hl rfl ?_
  refine lg_l rfl rfl rfl ?_
  refine lg_l rfl rfl rfl ?_
  refine lg_p rfl rfl rfl ?_
  refine lg_p rfl rfl rfl ?_
  refine lg_ia 2 rfl rfl (by omega) hl rfl ?_
  refine lg_l rfl rfl rfl ?_
  refine lg_l rfl rfl rfl ?_
  refine lg_p rfl rfl rfl ?_
  refine lg_p rfl rfl rfl ?_
  refine lg_ia 3 rfl rfl (by omega) hl rfl ?_
  refine lg_l rfl rfl rfl ?_
  refine lg_l rfl rfl rfl ?_
  refine lg_p rfl rfl rfl ?_
  refine lg_p rfl rfl rfl ?_
  refine lg_ia 4 rfl rfl (by omega) hl rfl ?_
  refine lg_A (p_law hR _ _ _ _) rfl rfl rfl (fun v X1 Z1 h2 => ?_)
  refine lg_p rfl rfl rfl ?_
  refine lg_l rfl rfl rfl ?_
  refine lg_l rfl rfl rfl ?_
  refine lg_l rfl rfl rfl ?_
  refine lg_p rfl rfl rfl ?_
  refine lg_p rfl rfl rfl ?_
  refine lg_ia 1 rfl rfl (by omega) hl rfl ?_
  refine lg_l rfl rfl rfl ?_
  refine lg_l rfl rfl rfl ?_
  refine lg_p rfl rfl rfl ?_
  refine lg_p rfl rfl rfl ?_
  refine lg_ia 2 rfl rfl (by omega) hl rfl ?_
  refine lg_l rfl rfl rfl ?_
  refine lg_l rfl rfl rfl ?_
  refine lg_p rfl rfl rfl ?_
  refine lg_p rfl rfl rfl ?_
  refine lg_ia 3 rfl rfl (by omega) hl rfl ?_
  refine lg_l rfl rfl rfl ?_
  refine lg_l rfl rfl rfl ?_
  refine lg_p rfl rfl rfl ?_
  refine lg_p rfl rfl rfl ?_
  refine lg_ia 4 rfl rfl (by omega) hl rfl ?_
  refine lg_B h2 rfl rfl rfl (fun v2 X2 Z2 h3 h4 => ?_)
  refine lg_p rfl rfl rfl ?_
  exact lg_g rfl rfl (k X2 Z2 h3)
set_option maxRecDepth 100000 in
theorem lx_c9 (hR : Rel X) (hn : n + 6 ≤ xs.length) (hl : xs.length ≤ 4000) (k : ∀ X2 Z2, Rel X2 → LG xs 1260 (Lk n) [] (Wd X2 Z2) P) : LG xs 549 (Lk n) [] (Wd X Z) P := by
  refine lg_l rfl rfl rfl ?_
  refine lg_l rfl rfl rfl ?_
  refine lg_l rfl rfl rfl ?_
  refine lg_p rfl rfl rfl ?_
  refine lg_p rfl rfl rfl ?_
  refine lg_ia 1 rfl rfl (by omega) hl rfl ?_
  refine lg_A (p_does hR _) rfl rfl rfl (fun v X1 Z1 h2 => ?_)
  refine lg_p rfl rfl rfl ?_
  refine lg_l rfl rfl rfl ?_
  refine lg_l rfl rfl rfl ?_
  refine lg_l rfl rfl rfl ?_
  refine lg_p rfl rfl rfl ?_
  refine lg_p rfl rfl rfl ?_
  refine lg_ia 1 rfl rfl (by omega) hl rfl ?_
  refine lg_B h2 rfl rfl rfl (fun v2 X2 Z2 h3 h4 => ?_)
  refine lg_p rfl rfl rfl ?_
  exact lg_g rfl rfl (k X2 Z2 h3)
set_option maxRecDepth 100000 in
theorem lx_c10 (hR : Rel X) (hn : n + 6 ≤ xs.length) (hl : xs.length ≤ 4000) (k : ∀ X2 Z2, Rel X2 → LG xs 1260 (Lk n) [] (Wd X2 Z2) P) : LG xs 572 (Lk n) [] (Wd X Z) P := by
  refine lg_l rfl rfl rfl ?_
  refine lg_l rfl rfl rfl ?_
  refine lg_l rfl rfl rfl ?_
  refine lg_p rfl rfl rfl ?_
  refine lg_p rfl rfl rfl ?_
  refine lg_ia 1 rfl rfl (by omega) hl rfl ?_
  refine lg_A (p_undo hR _) rfl rfl rfl (fun v X1 Z1 h2 => ?_)
  refine lg_p rfl rfl rfl ?_
  refine lg_l rfl rfl rfl ?_
  refine lg_l rfl rfl rfl ?_
  refine lg_l rfl rfl rfl ?_
  refine lg_p rfl rfl rfl ?_
  refine lg_p rfl rfl rfl ?_
  refine lg_ia 1 rfl rfl (by omega) hl rfl ?_
  refine lg_B h2 rfl rfl rfl (fun v2 X2 Z2 h3 h4 => ?_)
  refine lg_p rfl rfl rfl ?_
  exact lg_g rfl rfl (k X2 Z2 h3)
set_option maxRecDepth 100000 in
theorem lx_c11 (hR : Rel X) (hn : n + 6 ≤ xs.length) (hl : xs.length ≤ 4000) (k : ∀ X2 Z2, Rel X2 → LG xs 1260 (Lk n) [] (Wd X2 Z2) P) : LG xs 595 (Lk n) [] (Wd X Z) P := by
  refine lg_l rfl rfl rfl ?_
  refine lg_l rfl rfl rfl ?_
  refine lg_l rfl rfl rfl ?_
  refine lg_p rfl rfl rfl ?_
  refine lg_p rfl rfl rfl ?_
  refine lg_ia 1 rfl rfl (by omega) hl rfl ?_
  refine lg_A (p_loose hR _) rfl rfl rfl (fun v X1 Z1 h2 => ?_)
  refine lg_p rfl rfl rfl ?_
  refine lg_l rfl rfl rfl ?_
  refine lg_l rfl rfl rfl ?_
  refine lg_l rfl rfl rfl ?_
  refine lg_p rfl rfl rfl ?_
  refine lg_p rfl rfl rfl ?_
  refine lg_ia 1 rfl rfl (by omega) hl rfl ?_
  refine lg_B h2 rfl rfl rfl (fun v2 X2 Z2 h3 h4 => ?_)
  refine lg_p rfl rfl rfl ?_
  exact lg_g rfl rfl (k X2 Z2 h3)
set_option maxRecDepth 100000 in
theorem lx_c12 (hR : Rel X) (hn : n + 6 ≤ xs.length) (hl : xs.length ≤ 4000) (k : ∀ X2 Z2, Rel X2 → LG xs 1260 (Lk n) [] (Wd X2 Z2) P) : LG xs 618 (Lk n) [] (Wd X Z) P := by
  refine lg_l rfl rfl rfl ?_
  refine lg_l rfl rfl rfl ?_
  refine lg_l rfl rfl rfl ?_
  refine lg_p rfl rfl rfl ?_
  refine lg_p rfl rfl rfl ?_
  refine lg_ia 1 rfl rfl (by omega) hl rfl ?_
  refine lg_A (p_next hR _) rfl rfl rfl (fun v X1 Z1 h2 => ?_)
  refine lg_p rfl rfl rfl ?_
  refine lg_l rfl rfl rfl ?_
  refine lg_l rfl rfl rfl ?_
  refine lg_l rfl rfl rfl ?_
  refine lg_p rfl rfl rfl ?_
  refine lg_p rfl rfl rfl ?_
  refine lg_ia 1 rfl rfl (by omega) hl rfl ?_
  refine lg_B h2 rfl rfl rfl (fun v2 X2 Z2 h3 h4 => ?_)
  refine lg_p rfl rfl rfl ?_
  exact lg_g rfl rfl (k X2 Z2 h3)
set_option maxRecDepth 100000 in
theorem lx_c13 (hR : Rel X) (hn : n + 6 ≤ xs.length) (hl : xs.length ≤ 4000) (k : ∀ X2 Z2, Rel X2 → LG xs 1260 (Lk n) [] (Wd X2 Z2) P) : LG xs 641 (Lk n) [] (Wd X Z) P := by
  refine lg_l rfl rfl rfl ?_
  refine lg_l rfl rfl rfl ?_
  refine lg_l rfl rfl rfl ?_
  refine lg_p rfl rfl rfl ?_
  refine lg_p rfl rfl rfl ?_
  refine lg_ia 1 rfl rfl (by omega) hl rfl ?_
  refine lg_A (p_all hR _) rfl rfl rfl (fun v X1 Z1 h2 => ?_)
  refine lg_p rfl rfl rfl ?_
  refine lg_l rfl rfl rfl ?_
  refine lg_l rfl rfl rfl ?_
  refine lg_l rfl rfl rfl ?_
  refine lg_p rfl rfl rfl ?_
  refine lg_p rfl rfl rfl ?_
  refine lg_ia 1 rfl rfl (by omega) hl rfl ?_
  refine lg_B h2 rfl rfl rfl (fun v2 X2 Z2 h3 h4 => ?_)
  refine lg_p rfl rfl rfl ?_
  exact lg_g rfl rfl (k X2 Z2 h3)
set_option maxRecDepth 100000 in
theorem lx_c14 (hR : Rel X) (hn : n + 6 ≤ xs.length) (hl : xs.length ≤ 4000) (k : ∀ X2 Z2, Rel X2 → LG xs 1260 (Lk n) [] (Wd X2 Z2) P) : LG xs 664 (Lk n) [] (Wd X Z) P := by
  refine lg_l rfl rfl rfl ?_
  refine lg_l rfl rfl rfl ?_
  refine lg_l rfl rfl rfl ?_
  refine lg_p rfl rfl rfl ?_
  refine lg_p rfl rfl rfl ?_
  refine lg_ia 1 rfl rfl (by omega) hl rfl ?_
  refine lg_A (p_order hR _) rfl rfl rfl (fun v X1 Z1 h2 => ?_)
  refine lg_p rfl rfl rfl ?_
  refine lg_l rfl rfl rfl ?_
  refine lg_l rfl rfl rfl ?_
  refine lg_l rfl rfl rfl ?_
  refine lg_p rfl rfl rfl ?_
  refine lg_p rfl rfl rfl ?_
  refine lg_ia 1 rfl rfl (by omega) hl rfl ?_
  refine lg_B h2 rfl rfl rfl (fun v2 X2 Z2 h3 h4 => ?_)
  refine lg_p rfl rfl rfl ?_
  exact lg_g rfl rfl (k X2 Z2 h3)
set_option maxRecDepth 100000 in
theorem lx_c15 (hR : Rel X) (hn : n + 6 ≤ xs.length) (hl : xs.length ≤ 4000) (k : ∀ X2 Z2, Rel X2 → LG xs 1260 (Lk n) [] (Wd X2 Z2) P) : LG xs 687 (Lk n) [] (Wd X Z) P := by
  refine lg_l rfl rfl rfl ?_
  refine lg_l rfl rfl rfl ?_
  refine lg_l rfl rfl rfl ?_
  refine lg_p rfl rfl rfl ?_
  refine lg_p rfl rfl rfl ?_
  refine lg_ia 1 rfl rfl (by omega) hl rfl ?_
  refine lg_A (p_under hR _) rfl rfl rfl (fun v X1 Z1 h2 => ?_)
  refine lg_p rfl rfl rfl ?_
  refine lg_l rfl rfl rfl ?_
  refine lg_l rfl rfl rfl ?_
  refine lg_l rfl rfl rfl ?_
  refine lg_p rfl rfl rfl ?_
  refine lg_p rfl rfl rfl ?_
  refine lg_ia 1 rfl rfl (by omega) hl rfl ?_
  refine lg_B h2 rfl rfl rfl (fun v2 X2 Z2 h3 h4 => ?_)
  refine lg_p rfl rfl rfl ?_
  exact lg_g rfl rfl (k X2 Z2 h3)
set_option maxRecDepth 100000 in
theorem lx_c16 (hR : Rel X) (hn : n + 6 ≤ xs.length) (hl : xs.length ≤ 4000) (k : ∀ X2 Z2, Rel X2 → LG xs 1260 (Lk n) [] (Wd X2 Z2) P) : LG xs 710 (Lk n) [] (Wd X Z) P := by
  refine lg_l rfl rfl rfl ?_
  refine lg_l rfl rfl rfl ?_
  refine lg_l rfl rfl rfl ?_
  refine lg_p rfl rfl rfl ?_
  refine lg_p rfl rfl rfl ?_
  refine lg_ia 1 rfl rfl (by omega) hl rfl ?_
  refine lg_l rfl rfl rfl ?_
  refine lg_l rfl rfl rfl ?_
  refine lg_p rfl rfl rfl ?_
  refine lg_p rfl rfl rfl ?_
  refine lg_ia 2 rfl rfl (by omega) hl rfl ?_
  refine lg_A (p_goBack hR _ _) rfl rfl rfl (fun v X1 Z1 h2 => ?_)
  refine lg_p rfl rfl rfl ?_
  refine lg_l rfl rfl rfl ?_
  refine lg_l rfl rfl rfl ?_
  refine lg_l rfl rfl rfl ?_
  refine lg_p rfl rfl rfl ?_
  refine lg_p rfl rfl rfl ?_
  refine lg_ia 1 rfl rfl (by omega) hl rfl ?_
  refine lg_l rfl rfl rfl ?_
  refine lg_l rfl rfl rfl ?_
  refine lg_p rfl rfl rfl ?_
  refine lg_p rfl rfl rfl ?_
  refine lg_ia 2 rfl rfl (by omega) hl rfl ?_
  refine lg_B h2 rfl rfl rfl (fun v2 X2 Z2 h3 h4 => ?_)
  refine lg_p rfl rfl rfl ?_
  exact lg_g rfl rfl (k X2 Z2 h3)
set_option maxRecDepth 100000 in
theorem lx_c17 (hR : Rel X) (hn : n + 6 ≤ xs.length) (hl : xs.length ≤ 4000) (k : ∀ X2 Z2, Rel X2 → LG xs 1260 (Lk n) [] (Wd X2 Z2) P) : LG xs 743 (Lk n) [] (Wd X Z) P := by
  refine lg_l rfl rfl rfl ?_
  refine lg_A (p_left hR) rfl rfl rfl (fun v X1 Z1 h2 => ?_)
  refine lg_p rfl rfl rfl ?_
  refine lg_l rfl rfl rfl ?_
  refine lg_B h2 rfl rfl rfl (fun v2 X2 Z2 h3 h4 => ?_)
  refine lg_p rfl rfl rfl ?_
  exact lg_g rfl rfl (k X2 Z2 h3)
set_option maxRecDepth 100000 in
theorem lx_c18 (hR : Rel X) (hn : n + 6 ≤ xs.length) (hl : xs.length ≤ 4000) (k : ∀ X2 Z2, Rel X2 → LG xs 1260 (Lk n) [] (Wd X2 Z2) P) : LG xs 756 (Lk n) [] (Wd X Z) P := by
  refine lg_l rfl rfl rfl ?_
  refine lg_l rfl rfl rfl ?_
  refine lg_l rfl rfl rfl ?_
  refine lg_p rfl rfl rfl ?_
  refine lg_p rfl rfl rfl ?_
  refine lg_ia 1 rfl rfl (by omega) hl rfl ?_
  refine lg_l rfl rfl rfl ?_
  refine lg_l rfl rfl rfl ?_
  refine lg_p rfl rfl rfl ?_
  refine lg_p rfl rfl rfl ?_
  refine lg_ia 2 rfl rfl (by omega) hl rfl ?_
  refine lg_A (p_whose hR _ _) rfl rfl rfl (fun v X1 Z1 h2 => ?_)
  refine lg_p rfl rfl rfl ?_
  refine lg_l rfl rfl rfl ?_
  refine lg_l rfl rfl rfl ?_
  refine lg_l rfl rfl rfl ?_
  refine lg_p rfl rfl rfl ?_
  refine lg_p rfl rfl rfl ?_
  refine lg_ia 1 rfl rfl (by omega) hl rfl ?_
  refine lg_l rfl rfl rfl ?_
  refine lg_l rfl rfl rfl ?_
  refine lg_p rfl rfl rfl ?_
  refine lg_p rfl rfl rfl ?_
  refine lg_ia 2 rfl rfl (by omega) hl rfl ?_
  refine lg_B h2 rfl rfl rfl (fun v2 X2 Z2 h3 h4 => ?_)
  refine lg_p rfl rfl rfl ?_
  exact lg_g rfl rfl (k X2 Z2 h3)
set_option maxRecDepth 100000 in
theorem lx_c19 (hR : Rel X) (hn : n + 6 ≤ xs.length) (hl : xs.length ≤ 4000) (k : ∀ X2 Z2, Rel X2 → LG xs 1260 (Lk n) [] (Wd X2 Z2) P) : LG xs 789 (Lk n) [] (Wd X Z) P := by
  refine lg_l rfl rfl rfl ?_
  refine lg_A (p_lookAt hR) rfl rfl rfl (fun v X1 Z1 h2 => ?_)
  refine lg_p rfl rfl rfl ?_
  refine lg_l rfl rfl rfl ?_
  refine lg_B h2 rfl rfl rfl (fun v2 X2 Z2 h3 h4 => ?_)
  refine lg_p rfl rfl rfl ?_
  exact lg_g rfl rfl (k X2 Z2 h3)
set_option maxRecDepth 100000 in
theorem lx_c20 (hR : Rel X) (hn : n + 6 ≤ xs.length) (hl : xs.length ≤ 4000) (k : ∀ X2 Z2, Rel X2 → LG xs 1260 (Lk n) [] (Wd X2 Z2) P) : LG xs 802 (Lk n) [] (Wd X Z) P := by
  refine lg_l rfl rfl rfl ?_
  refine lg_l rfl rfl rfl ?_
  refine lg_l rfl rfl rfl ?_
  refine lg_p rfl rfl rfl ?_
  refine lg_p rfl rfl rfl ?_
  refine lg_ia 1 rfl rfl (by omega) hl rfl ?_
  refine lg_l rfl rfl rfl ?_
  refine lg_l rfl rfl rfl ?_
  refine lg_p rfl rfl rfl ?_
  refine lg_p rfl rfl rfl ?_
  refine lg_ia 2 rfl rfl (by omega) hl rfl ?_
  refine lg_A (p_orders hR _ _) rfl rfl rfl (fun v X1 Z1 h2 => ?_)
  refine lg_p rfl rfl rfl ?_
  refine lg_l rfl rfl rfl ?_
  refine lg_l rfl rfl rfl ?_
  refine lg_l rfl rfl rfl ?_
  refine lg_p rfl rfl rfl ?_
  refine lg_p rfl rfl rfl ?_
  refine lg_ia 1 rfl rfl (by omega) hl rfl ?_
  refine lg_l rfl rfl rfl ?_
  refine lg_l rfl rfl rfl ?_
  refine lg_p rfl rfl rfl ?_
  refine lg_p rfl rfl rfl ?_
  refine lg_ia 2 rfl rfl (by omega) hl rfl ?_
  refine lg_B h2 rfl rfl rfl (fun v2 X2 Z2 h3 h4 => ?_)
  refine lg_p rfl rfl rfl ?_
  exact lg_g rfl rfl (k X2 Z2 h3)
set_option maxRecDepth 100000 in
theorem lx_c21 (hR : Rel X) (hn : n + 6 ≤ xs.length) (hl : xs.length ≤ 4000) (k : ∀ X2 Z2, Rel X2 → LG xs 1260 (Lk n) [] (Wd X2 Z2) P) : LG xs 835 (Lk n) [] (Wd X Z) P := by
  refine lg_l rfl rfl rfl ?_
  refine lg_l rfl rfl rfl ?_
  refine lg_l rfl rfl rfl ?_
  refine lg_p rfl rfl rfl ?_
  refine lg_p rfl rfl rfl ?_
  refine lg_ia 1 rfl rfl (by omega) hl rfl ?_
  refine lg_l rfl rfl rfl ?_
  refine lg_l rfl rfl rfl ?_
  refine lg_p rfl rfl rfl ?_
  refine lg_p rfl rfl rfl ?_
  refine lg_ia 2 rfl rfl (by omega) hl rfl ?_
  refine lg_A (p_odds hR _ _) rfl rfl rfl (fun v X1 Z1 h2 => ?_)
  refine lg_p rfl rfl rfl ?_
  refine lg_l rfl rfl rfl ?_
  refine lg_l rfl rfl rfl ?_
  refine lg_l rfl rfl rfl ?_
  refine lg_p rfl rfl rfl ?_
  refine lg_p rfl rfl rfl ?_
  refine lg_ia 1 rfl rfl (by omega) hl rfl ?_
  refine lg_l rfl rfl rfl ?_
  refine lg_l rfl rfl rfl ?_
  refine lg_p rfl rfl rfl ?_
  refine lg_p rfl rfl rfl ?_
  refine lg_ia 2 rfl rfl (by omega) hl rfl ?_
  refine lg_B h2 rfl rfl rfl (fun v2 X2 Z2 h3 h4 => ?_)
  refine lg_p rfl rfl rfl ?_
  exact lg_g rfl rfl (k X2 Z2 h3)
set_option maxRecDepth 100000 in
theorem lx_c22 (hR : Rel X) (hn : n + 6 ≤ xs.length) (hl : xs.length ≤ 4000) (k : ∀ X2 Z2, Rel X2 → LG xs 1260 (Lk n) [] (Wd X2 Z2) P) : LG xs 868 (Lk n) [] (Wd X Z) P := by
  refine lg_l rfl rfl rfl ?_
  refine lg_l rfl rfl rfl ?_
  refine lg_l rfl rfl rfl ?_
  refine lg_p rfl rfl rfl ?_
  refine lg_p rfl rfl rfl ?_
  refine lg_ia 1 rfl rfl (by omega) hl rfl ?_
  refine lg_A (p_seed hR _) rfl rfl rfl (fun v X1 Z1 h2 => ?_)
  refine lg_p rfl rfl rfl ?_
  refine lg_l rfl rfl rfl ?_
  refine lg_l rfl rfl rfl ?_
  refine lg_l rfl rfl rfl ?_
  refine lg_p rfl rfl rfl ?_
  refine lg_p rfl rfl rfl ?_
  refine lg_ia 1 rfl rfl (by omega) hl rfl ?_
  refine lg_B h2 rfl rfl rfl (fun v2 X2 Z2 h3 h4 => ?_)
  refine lg_p rfl rfl rfl ?_
  exact lg_g rfl rfl (k X2 Z2 h3)
set_option maxRecDepth 100000 in
theorem lx_c23 (hR : Rel X) (hn : n + 6 ≤ xs.length) (hl : xs.length ≤ 4000) (k : ∀ X2 Z2, Rel X2 → LG xs 1260 (Lk n) [] (Wd X2 Z2) P) : LG xs 891 (Lk n) [] (Wd X Z) P := by
  refine lg_l rfl rfl rfl ?_
  refine lg_l rfl rfl rfl ?_
  refine lg_l rfl rfl rfl ?_
  refine lg_p rfl rfl rfl ?_
  refine lg_p rfl rfl rfl ?_
  refine lg_ia 1 rfl rfl (by omega) hl rfl ?_
  refine lg_l rfl rfl rfl ?_
  refine lg_l rfl rfl rfl ?_
  refine lg_p rfl rfl rfl ?_
  refine lg_p rfl rfl rfl ?_
  refine lg_ia 2 rfl rfl (by omega) hl rfl ?_
  refine lg_l rfl rfl rfl ?_
  refine lg_l rfl rfl rfl ?_
  refine lg_p rfl rfl rfl ?_
  refine lg_p rfl rfl rfl ?_
  refine lg_ia 3 rfl rfl (by omega) hl rfl ?_
  refine lg_A (p_voice hR _ _ _) rfl rfl rfl (fun v X1 Z1 h2 => ?_)
  refine lg_p rfl rfl rfl ?_
  refine lg_l rfl rfl rfl ?_
  refine lg_l rfl rfl rfl ?_
  refine lg_l rfl rfl rfl ?_
  refine lg_p rfl rfl rfl ?_
  refine lg_p rfl rfl rfl ?_
  refine lg_ia 1 rfl rfl (by omega) hl rfl ?_
  refine lg_l rfl rfl rfl ?_
  refine lg_l rfl rfl rfl ?_
  refine lg_p rfl rfl rfl ?_
  refine lg_p rfl rfl rfl ?_
  refine lg_ia 2 rfl rfl (by omega) hl rfl ?_
  refine lg_l rfl rfl rfl ?_
  refine lg_l rfl rfl rfl ?_
  refine lg_p rfl rfl rfl ?_
  refine lg_p rfl rfl rfl ?_
  refine lg_ia 3 rfl rfl (by omega) hl rfl ?_
  refine lg_B h2 rfl rfl rfl (fun v2 X2 Z2 h3 h4 => ?_)
  refine lg_p rfl rfl rfl ?_
  exact lg_g rfl rfl (k X2 Z2 h3)
set_option maxRecDepth 100000 in
theorem lx_c24 (hR : Rel X) (hn : n + 6 ≤ xs.length) (hl : xs.length ≤ 4000) (k : ∀ X2 Z2, Rel X2 → LG xs 1260 (Lk n) [] (Wd X2 Z2) P) : LG xs 934 (Lk n) [] (Wd X Z) P := by
  refine lg_l rfl rfl rfl ?_
  refine lg_l rfl rfl rfl ?_
  refine lg_l rfl rfl rfl ?_
  refine lg_p rfl rfl rfl ?_
  refine lg_p rfl rfl rfl ?_
  refine lg_ia 1 rfl rfl (by omega) hl rfl ?_
  refine lg_A (p_trace hR _) rfl rfl rfl (fun v X1 Z1 h2 => ?_)
  refine lg_p rfl rfl rfl ?_
  refine lg_l rfl rfl rfl ?_
  refine lg_l rfl rfl rfl ?_
  refine lg_l rfl rfl rfl ?_
  refine lg_p rfl rfl rfl ?_
  refine lg_p rfl rfl rfl ?_
  refine lg_ia 1 rfl rfl (by omega) hl rfl ?_
  refine lg_B h2 rfl rfl rfl (fun v2 X2 Z2 h3 h4 => ?_)
  refine lg_p rfl rfl rfl ?_
  exact lg_g rfl rfl (k X2 Z2 h3)
set_option maxRecDepth 100000 in
theorem lx_c25 (hR : Rel X) (hn : n + 6 ≤ xs.length) (hl : xs.length ≤ 4000) (k : ∀ X2 Z2, Rel X2 → LG xs 1260 (Lk n) [] (Wd X2 Z2) P) : LG xs 957 (Lk n) [] (Wd X Z) P := by
  refine lg_l rfl rfl rfl ?_
  refine lg_l rfl rfl rfl ?_
  refine lg_l rfl rfl rfl ?_
  refine lg_p rfl rfl rfl ?_
  refine lg_p rfl rfl rfl ?_
  refine lg_ia 1 rfl rfl (by omega) hl rfl ?_
  refine lg_l rfl rfl rfl ?_
  refine lg_l rfl rfl rfl ?_
  refine lg_p rfl rfl rfl ?_
  refine lg_p rfl rfl rfl ?_
  refine lg_ia 2 rfl rfl (by omega) hl rfl ?_
  refine lg_l rfl rfl rfl ?_
  refine lg_l rfl rfl rfl ?_
  refine lg_p rfl rfl rfl ?_
  refine lg_p rfl rfl rfl ?_
  refine lg_ia 3 rfl rfl (by omega) hl rfl ?_
  refine lg_A (p_sheet hR _ _ _) rfl rfl rfl (fun v X1 Z1 h2 => ?_)
  refine lg_p rfl rfl rfl ?_
  refine lg_l rfl rfl rfl ?_
  refine lg_l rfl rfl rfl ?_
  refine lg_l rfl rfl rfl ?_
  refine lg_p rfl rfl rfl ?_
  refine lg_p rfl rfl rfl ?_
  refine lg_ia 1 rfl rfl (by omega) hl rfl ?_
  refine lg_l rfl rfl rfl ?_
  refine lg_l rfl rfl rfl ?_
  refine lg_p rfl rfl rfl ?_
  refine lg_p rfl rfl rfl ?_
  refine lg_ia 2 rfl rfl (by omega) hl rfl ?_
  refine lg_l rfl rfl rfl ?_
  refine lg_l rfl rfl rfl ?_
  refine lg_p rfl rfl rfl ?_
  refine lg_p rfl rfl rfl ?_
  refine lg_ia 3 rfl rfl (by omega) hl rfl ?_
  refine lg_B h2 rfl rfl rfl (fun v2 X2 Z2 h3 h4 => ?_)
  refine lg_p rfl rfl rfl ?_
  exact lg_g rfl rfl (k X2 Z2 h3)
set_option maxRecDepth 100000 in
theorem lx_c26 (hR : Rel X) (hn : n + 6 ≤ xs.length) (hl : xs.length ≤ 4000) (k : ∀ X2 Z2, Rel X2 → LG xs 1260 (Lk n) [] (Wd X2 Z2) P) : LG xs 1000 (Lk n) [] (Wd X Z) P := by
  refine lg_l rfl rfl rfl ?_
  refine lg_l rfl rfl rfl ?_
  refine lg_l rfl rfl rfl ?_
  refine lg_p rfl rfl rfl ?_
  refine lg_p rfl rfl rfl ?_
  refine lg_ia 1 rfl rfl (by omega) hl rfl ?_
  refine lg_l rfl rfl rfl ?_
  refine lg_l rfl rfl rfl ?_
  refine lg_p rfl rfl rfl ?_
  refine lg_p rfl rfl rfl ?_
  refine lg_ia 2 rfl rfl (by omega) hl rfl ?_
  refine lg_l rfl rfl rfl ?_
  refine lg_l rfl rfl rfl ?_
  refine lg_p rfl rfl rfl ?_
  refine lg_p rfl rfl rfl ?_
  refine lg_ia 3 rfl rfl (by omega) hl rfl ?_
  refine lg_A (p_put hR _ _ _) rfl rfl rfl (fun v X1 Z1 h2 => ?_)
  refine lg_p rfl rfl rfl ?_
  refine lg_l rfl rfl rfl ?_
  refine lg_l rfl rfl rfl ?_
  refine lg_l rfl rfl rfl ?_
  refine lg_p rfl rfl rfl ?_
  refine lg_p rfl rfl rfl ?_
  refine lg_ia 1 rfl rfl (by omega) hl rfl ?_
  refine lg_l rfl rfl rfl ?_
  refine lg_l rfl rfl rfl ?_
  refine lg_p rfl rfl rfl ?_
  refine lg_p rfl rfl rfl ?_
  refine lg_ia 2 rfl rfl (by omega) hl rfl ?_
  refine lg_l rfl rfl rfl ?_
  refine lg_l rfl rfl rfl ?_
  refine lg_p rfl rfl rfl ?_
  refine lg_p rfl rfl rfl ?_
  refine lg_ia 3 rfl rfl (by omega) hl rfl ?_
  refine lg_B h2 rfl rfl rfl (fun v2 X2 Z2 h3 h4 => ?_)
  refine lg_p rfl rfl rfl ?_
  exact lg_g rfl rfl (k X2 Z2 h3)
set_option maxRecDepth 100000 in
theorem lx_c27 (hR : Rel X) (hn : n + 6 ≤ xs.length) (hl : xs.length ≤ 4000) (k : ∀ X2 Z2, Rel X2 → LG xs 1260 (Lk n) [] (Wd X2 Z2) P) : LG xs 1043 (Lk n) [] (Wd X Z) P := by
  refine lg_l rfl rfl rfl ?_
  refine lg_l rfl rfl rfl ?_
  refine lg_l rfl rfl rfl ?_
  refine lg_p rfl rfl rfl ?_
  refine lg_p rfl rfl rfl ?_
  refine lg_ia 1 rfl rfl (by omega) hl rfl ?_
  refine lg_l rfl rfl rfl ?_
  refine lg_l rfl rfl rfl ?_
  refine lg_p rfl rfl rfl ?_
  refine lg_p rfl rfl rfl ?_
  refine lg_ia 2 rfl rfl (by omega) hl rfl ?_
  refine lg_l rfl rfl rfl ?_
  refine lg_l rfl rfl rfl ?_
  refine lg_p rfl rfl rfl ?_
  refine lg_p rfl rfl rfl ?_
  refine lg_ia 3 rfl rfl (by omega) hl rfl ?_
  refine lg_l rfl rfl rfl ?_
  refine lg_l rfl rfl rfl ?_
  refine lg_p rfl rfl rfl ?_
  refine lg_p rfl rfl rfl ?_
  refine lg_ia 4 rfl rfl (by omega) hl rfl ?_
  refine lg_l rfl rfl rfl ?_
  refine lg_l rfl rfl rfl ?_
  refine lg_p rfl rfl rfl ?_
  refine lg_p rfl rfl rfl ?_
  refine lg_ia 5 rfl rfl (by omega) hl rfl ?_
  refine lg_A (p_move hR _ _ _ _ _) rfl rfl rfl (fun v X1 Z1 h2 => ?_)
  refine lg_p rfl rfl rfl ?_
  refine lg_l rfl rfl rfl ?_
  refine lg_l rfl rfl rfl ?_
  refine lg_l rfl rfl rfl ?_
  refine lg_p rfl rfl rfl ?_
  refine lg_p rfl rfl rfl ?_
  refine lg_ia 1 rfl rfl (by omega) hl rfl ?_
  refine lg_l rfl rfl rfl ?_
  refine lg_l rfl rfl rfl ?_
  refine lg_p rfl rfl rfl ?_
  refine lg_p rfl rfl rfl ?_
  refine lg_ia 2 rfl rfl (by omega) hl rfl ?_
  refine lg_l rfl rfl rfl ?_
  refine lg_l rfl rfl rfl ?_
  refine lg_p rfl rfl rfl ?_
  refine lg_p rfl rfl rfl ?_
  refine lg_ia 3 rfl rfl (by omega) hl rfl ?_
  refine lg_l rfl rfl rfl ?_
  refine lg_l rfl rfl rfl ?_
  refine lg_p rfl rfl rfl ?_
  refine lg_p rfl rfl rfl ?_
  refine lg_ia 4 rfl rfl (by omega) hl rfl ?_
  refine lg_l rfl rfl rfl ?_
  refine lg_l rfl rfl rfl ?_
  refine lg_p rfl rfl rfl ?_
  refine lg_p rfl rfl rfl ?_
  refine lg_ia 5 rfl rfl (by omega) hl rfl ?_
  refine lg_B h2 rfl rfl rfl (fun v2 X2 Z2 h3 h4 => ?_)
  refine lg_p rfl rfl rfl ?_
  exact lg_g rfl rfl (k X2 Z2 h3)
set_option maxRecDepth 100000 in
theorem lx_c28 (hR : Rel X) (hn : n + 6 ≤ xs.length) (hl : xs.length ≤ 4000) (k : ∀ X2 Z2, Rel X2 → LG xs 1260 (Lk n) [] (Wd X2 Z2) P) : LG xs 1106 (Lk n) [] (Wd X Z) P := by
  refine lg_l rfl rfl rfl ?_
  refine lg_l rfl rfl rfl ?_
  refine lg_l rfl rfl rfl ?_
  refine lg_p rfl rfl rfl ?_
  refine lg_p rfl rfl rfl ?_
  refine lg_ia 1 rfl rfl (by omega) hl rfl ?_
  refine lg_A (p_screws hR _) rfl rfl rfl (fun v X1 Z1 h2 => ?_)
  refine lg_p rfl rfl rfl ?_
  refine lg_l rfl rfl rfl ?_
  refine lg_l rfl rfl rfl ?_
  refine lg_l rfl rfl rfl ?_
  refine lg_p rfl rfl rfl ?_
  refine lg_p rfl rfl rfl ?_
  refine lg_ia 1 rfl rfl (by omega) hl rfl ?_
  refine lg_B h2 rfl rfl rfl (fun v2 X2 Z2 h3 h4 => ?_)
  refine lg_p rfl rfl rfl ?_
  exact lg_g rfl rfl (k X2 Z2 h3)
set_option maxRecDepth 100000 in
theorem lx_c29 (hR : Rel X) (hn : n + 6 ≤ xs.length) (hl : xs.length ≤ 4000) (k : ∀ X2 Z2, Rel X2 → LG xs 1260 (Lk n) [] (Wd X2 Z2) P) : LG xs 1129 (Lk n) [] (Wd X Z) P := by
  refine lg_l rfl rfl rfl ?_
  refine lg_l rfl rfl rfl ?_
  refine lg_l rfl rfl rfl ?_
  refine lg_p rfl rfl rfl ?_
  refine lg_p rfl rfl rfl ?_
  refine lg_ia 1 rfl rfl (by omega) hl rfl ?_
  refine lg_A (p_judge hR _) rfl rfl rfl (fun v X1 Z1 h2 => ?_)
  refine lg_p rfl rfl rfl ?_
  refine lg_l rfl rfl rfl ?_
  refine lg_l rfl rfl rfl ?_
  refine lg_l rfl rfl rfl ?_
  refine lg_p rfl rfl rfl ?_
  refine lg_p rfl rfl rfl ?_
  refine lg_ia 1 rfl rfl (by omega) hl rfl ?_
  refine lg_B h2 rfl rfl rfl (fun v2 X2 Z2 h3 h4 => ?_)
  refine lg_p rfl rfl rfl ?_
  exact lg_g rfl rfl (k X2 Z2 h3)
set_option maxRecDepth 100000 in
theorem lx_c30 (hR : Rel X) (hn : n + 6 ≤ xs.length) (hl : xs.length ≤ 4000) (k : ∀ X2 Z2, Rel X2 → LG xs 1260 (Lk n) [] (Wd X2 Z2) P) : LG xs 1152 (Lk n) [] (Wd X Z) P := by
  refine lg_l rfl rfl rfl ?_
  refine lg_A (p_image hR) rfl rfl rfl (fun v X1 Z1 h2 => ?_)
  refine lg_p rfl rfl rfl ?_
  refine lg_l rfl rfl rfl ?_
  refine lg_B h2 rfl rfl rfl (fun v2 X2 Z2 h3 h4 => ?_)
  refine lg_p rfl rfl rfl ?_
  exact lg_g rfl rfl (k X2 Z2 h3)
set_option maxRecDepth 100000 in
theorem lx_c31 (hR : Rel X) (hn : n + 6 ≤ xs.length) (hl : xs.length ≤ 4000) (k : ∀ X2 Z2, Rel X2 → LG xs 1260 (Lk n) [] (Wd X2 Z2) P) : LG xs 1165 (Lk n) [] (Wd X Z) P := by
  refine lg_l rfl rfl rfl ?_
  refine lg_A (p_restore hR) rfl rfl rfl (fun v X1 Z1 h2 => ?_)
  refine lg_p rfl rfl rfl ?_
  refine lg_l rfl rfl rfl ?_
  refine lg_B h2 rfl rfl rfl (fun v2 X2 Z2 h3 h4 => ?_)
  refine lg_p rfl rfl rfl ?_
  exact lg_g rfl rfl (k X2 Z2 h3)
set_option maxRecDepth 100000 in
theorem lx_c32 (hR : Rel X) (hn : n + 6 ≤ xs.length) (hl : xs.length ≤ 4000) (k : ∀ X2 Z2, Rel X2 → LG xs 1260 (Lk n) [] (Wd X2 Z2) P) : LG xs 1178 (Lk n) [] (Wd X Z) P := by
  refine lg_l rfl rfl rfl ?_
  refine lg_l rfl rfl rfl ?_
  refine lg_l rfl rfl rfl ?_
  refine lg_p rfl rfl rfl ?_
  refine lg_p rfl rfl rfl ?_
  refine lg_ia 1 rfl rfl (by omega) hl rfl ?_
  refine lg_A (p_tell hR _) rfl rfl rfl (fun v X1 Z1 h2 => ?_)
  refine lg_p rfl rfl rfl ?_
  refine lg_l rfl rfl rfl ?_
  refine lg_l rfl rfl rfl ?_
  refine lg_l rfl rfl rfl ?_
  refine lg_p rfl rfl rfl ?_
  refine lg_p rfl rfl rfl ?_
  refine lg_ia 1 rfl rfl (by omega) hl rfl ?_
  refine lg_B h2 rfl rfl rfl (fun v2 X2 Z2 h3 h4 => ?_)
  refine lg_p rfl rfl rfl ?_
  exact lg_g rfl rfl (k X2 Z2 h3)
set_option maxRecDepth 100000 in
theorem lx_c33 (hR : Rel X) (hn : n + 6 ≤ xs.length) (hl : xs.length ≤ 4000) (k : ∀ X2 Z2, Rel X2 → LG xs 1260 (Lk n) [] (Wd X2 Z2) P) : LG xs 1201 (Lk n) [] (Wd X Z) P := by
  refine lg_l rfl rfl rfl ?_
  refine lg_A (p_check hR) rfl rfl rfl (fun v X1 Z1 h2 => ?_)
  refine lg_p rfl rfl rfl ?_
  refine lg_l rfl rfl rfl ?_
  refine lg_B h2 rfl rfl rfl (fun v2 X2 Z2 h3 h4 => ?_)
  refine lg_p rfl rfl rfl ?_
  exact lg_g rfl rfl (k X2 Z2 h3)
set_option maxRecDepth 100000 in
theorem lx_c34 (hR : Rel X) (hn : n + 6 ≤ xs.length) (hl : xs.length ≤ 4000) (k : ∀ X2 Z2, Rel X2 → LG xs 1260 (Lk n) [] (Wd X2 Z2) P) : LG xs 1214 (Lk n) [] (Wd X Z) P := by
  refine lg_l rfl rfl rfl ?_
  refine lg_l rfl rfl rfl ?_
  refine lg_l rfl rfl rfl ?_
  refine lg_p rfl rfl rfl ?_
  refine lg_p rfl rfl rfl ?_
  refine lg_ia 1 rfl rfl (by omega) hl rfl ?_
  refine lg_A (p_count hR _) rfl rfl rfl (fun v X1 Z1 h2 => ?_)
  refine lg_p rfl rfl rfl ?_
  refine lg_l rfl rfl rfl ?_
  refine lg_l rfl rfl rfl ?_
  refine lg_l rfl rfl rfl ?_
  refine lg_p rfl rfl rfl ?_
  refine lg_p rfl rfl rfl ?_
  refine lg_ia 1 rfl rfl (by omega) hl rfl ?_
  refine lg_B h2 rfl rfl rfl (fun v2 X2 Z2 h3 h4 => ?_)
  refine lg_p rfl rfl rfl ?_
  exact lg_g rfl rfl (k X2 Z2 h3)
set_option maxRecDepth 100000 in
theorem lx_c35 (hR : Rel X) (hn : n + 6 ≤ xs.length) (hl : xs.length ≤ 4000) (k : ∀ X2 Z2, Rel X2 → LG xs 1260 (Lk n) [] (Wd X2 Z2) P) : LG xs 1237 (Lk n) [] (Wd X Z) P := by
  refine lg_l rfl rfl rfl ?_
  refine lg_l rfl rfl rfl ?_
  refine lg_l rfl rfl rfl ?_
  refine lg_p rfl rfl rfl ?_
  refine lg_p rfl rfl rfl ?_
  refine lg_ia 1 rfl rfl (by omega) hl rfl ?_
  refine lg_A (p_told hR _) rfl rfl rfl (fun v X1 Z1 h2 => ?_)
  refine lg_p rfl rfl rfl ?_
  refine lg_l rfl rfl rfl ?_
  refine lg_l rfl rfl rfl ?_
  refine lg_l rfl rfl rfl ?_
  refine lg_p rfl rfl rfl ?_
  refine lg_p rfl rfl rfl ?_
  refine lg_ia 1 rfl rfl (by omega) hl rfl ?_
  refine lg_B h2 rfl rfl rfl (fun v2 X2 Z2 h3 h4 => ?_)
  refine lg_p rfl rfl rfl ?_
  exact lg_g rfl rfl (k X2 Z2 h3)
set_option maxRecDepth 100000 in
theorem lx_end {w : ab_W} : LG xs 1266 (Lk n) [] w P1 := by
  refine lg_p rfl rfl rfl ?_
  exact lg_ret rfl rfl ⟨w, rfl⟩
set_option maxRecDepth 100000 in
theorem lx_nx {w : ab_W} (k : LG xs 18 (Lk (n + 6)) [] w P) : LG xs 1260 (Lk n) [] w P := by
  refine lg_l rfl rfl rfl ?_
  refine lg_g rfl rfl (lg_L ?_ k)
  show [(3, Value.int (nI n + nI 6)), (2, .ref 63), (1, .ref 0), (0, .ref 1000001)] = [(3, Value.int (nI (n + 6))), (2, .ref 63), (1, .ref 0), (0, .ref 1000001)]
  rw [nI_add]
def lx_ts : List Nat := [192, 235, 268, 311, 344, 377, 410, 473, 496, 549, 572, 595, 618, 641, 664, 687, 710, 743, 756, 789, 802, 835, 868, 891, 934, 957, 1000, 1043, 1106, 1129, 1152, 1165, 1178, 1201, 1214, 1237]
set_option maxRecDepth 100000 in
theorem lx_cs (hR : Rel X) (hn : n + 6 ≤ xs.length) (hl : xs.length ≤ 4000) (k : ∀ X2 Z2, Rel X2 → LG xs 1260 (Lk n) [] (Wd X2 Z2) P) : ∀ t ∈ lx_ts, LG xs t (Lk n) [] (Wd X Z) P := by
  intro t ht
  simp only [lx_ts, List.mem_cons, List.not_mem_nil, or_false] at ht
  rcases ht with rfl | rfl | rfl | rfl | rfl | rfl | rfl | rfl | rfl | rfl | rfl | rfl | rfl | rfl | rfl | rfl | rfl | rfl | rfl | rfl | rfl | rfl | rfl | rfl | rfl | rfl | rfl | rfl | rfl | rfl | rfl | rfl | rfl | rfl | rfl | rfl
  · exact lx_c0 hR hn hl k
  · exact lx_c1 hR hn hl k
  · exact lx_c2 hR hn hl k
  · exact lx_c3 hR hn hl k
  · exact lx_c4 hR hn hl k
  · exact lx_c5 hR hn hl k
  · exact lx_c6 hR hn hl k
  · exact lx_c7 hR hn hl k
  · exact lx_c8 hR hn hl k
  · exact lx_c9 hR hn hl k
  · exact lx_c10 hR hn hl k
  · exact lx_c11 hR hn hl k
  · exact lx_c12 hR hn hl k
  · exact lx_c13 hR hn hl k
  · exact lx_c14 hR hn hl k
  · exact lx_c15 hR hn hl k
  · exact lx_c16 hR hn hl k
  · exact lx_c17 hR hn hl k
  · exact lx_c18 hR hn hl k
  · exact lx_c19 hR hn hl k
  · exact lx_c20 hR hn hl k
  · exact lx_c21 hR hn hl k
  · exact lx_c22 hR hn hl k
  · exact lx_c23 hR hn hl k
  · exact lx_c24 hR hn hl k
  · exact lx_c25 hR hn hl k
  · exact lx_c26 hR hn hl k
  · exact lx_c27 hR hn hl k
  · exact lx_c28 hR hn hl k
  · exact lx_c29 hR hn hl k
  · exact lx_c30 hR hn hl k
  · exact lx_c31 hR hn hl k
  · exact lx_c32 hR hn hl k
  · exact lx_c33 hR hn hl k
  · exact lx_c34 hR hn hl k
  · exact lx_c35 hR hn hl k
set_option maxRecDepth 100000 in
theorem lx_loop (hl : xs.length ≤ 4000) : ∀ (m n : Nat) (X Z : Nat → Nat → Int32), xs.length ≤ n + m → n ≤ 4000 → Rel X → LG xs 18 (Lk n) [] (Wd X Z) P1
  | 0, n, X, Z, h1, h2, _ => by
    refine lg_l rfl rfl rfl ?_
    refine lg_l rfl rfl rfl ?_
    refine lg_al rfl rfl ?_
    refine lg_bi (nI 6) rfl (by decide +kernel) rfl ?_
    refine lg_p rfl rfl rfl ?_
    refine lg_gt rfl hl h2 rfl rfl (fun _ => lx_end) (fun hn => ?_)
    exact absurd h1 (by omega)
  | m + 1, n, X, Z, h1, h2, hR => by
    refine lg_l rfl rfl rfl ?_
    refine lg_l rfl rfl rfl ?_
    refine lg_al rfl rfl ?_
    refine lg_bi (nI 6) rfl (by decide +kernel) rfl ?_
    refine lg_p rfl rfl rfl ?_
    refine lg_gt rfl hl h2 rfl rfl (fun _ => lx_end) (fun hn => ?_)
    refine lg_l rfl rfl rfl ?_
    refine lg_l rfl rfl rfl ?_
    refine lg_ia 0 rfl (nI_add n 0).symm (by omega) hl rfl ?_
    refine lg_bi (nI 63) rfl (by decide +kernel) rfl ?_
    refine lg_p rfl rfl rfl ?_
    have k : ∀ X2 Z2, Rel X2 → LG xs 1260 (Lk n) [] (Wd X2 Z2) P1 := fun X2 Z2 h => lx_nx (lx_loop hl m (n + 6) X2 Z2 (by omega) (by omega) h)
    exact lg_ts lx_ts rfl (pd := 1260) rfl (by decide +kernel) rfl (k X Z hR) (lx_cs hR hn hl k)
end LAW
