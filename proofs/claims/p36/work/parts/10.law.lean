section
/-! THE LAW: its loop over the pairs -/
def Lk (n : Nat) : ab_Lo := [(3, .int (nI n)), (2, .ref 63), (1, .ref 0), (0, .ref 1000001)]
def P1 (r : ab_R) : Prop := ∃ w, r = (some (.int 1), w)
section LAW
variable {xs : List Int32} {n : Nat} {X Z : Nat → Nat → Int32} {P : ab_R → Prop}
set_option maxRecDepth 100000 in
theorem lx_c0 (hR : Rel X) (hn : n + 6 ≤ xs.length) (hl : xs.length ≤ 4000) (k : ∀ X2 Z2, Rel X2 → LG xs 1260 (Lk n) [] (Wd X2 Z2) P) : LG xs 192 (Lk n) [] (Wd X Z) P := by
  refine lg_l rfl rfl rfl ?_
  refine lg_l rfl rfl rfl ?_
  refine lg_l rfl rfl rfl ?_
  refine lg_p rfl rfl rfl ?_
  refine lg_p rfl rfl rfl ?_
  refine lg_ia 1 rfl rfl (by omega) hl rfl ?_
  refine lg_l rfl rfl rfl ?_
  refine lg_l rfl rfl rfl ?_
  refine lg_p rfl rfl rfl ?_
  refine lg_p rfl rfl rfl ?_
  refine lg_ia 2 rfl rfl (by omega) hl rfl ?_
  refine lg_l rfl rfl rfl ?_
  refine lg_l rfl rfl rfl ?_
  refine lg_p rfl rfl rfl ?_
  refine lg_p rfl rfl rfl ?_
  refine lg_ia 3 rfl rfl (by omega) hl rfl ?_
  refine lg_A (p_step hR _ _ _) rfl rfl rfl (fun v X1 Z1 h2 => ?_)
  refine lg_p rfl rfl rfl ?_
  refine lg_l rfl rfl rfl ?_
  refine lg_l rfl rfl rfl ?_
  refine lg_l rfl rfl rfl ?_
  refine lg_p rfl rfl rfl ?_
  refine lg_p rfl rfl rfl ?_
  refine lg_ia 1 rfl rfl (by omega) hl rfl ?_
  refine lg_l rfl rfl rfl ?_
  refine lg_l rfl rfl rfl ?_
  refine lg_p rfl rfl rfl ?_
  refine lg_p rfl rfl rfl ?_
  refine lg_ia 2 rfl rfl (by omega) hl rfl ?_
  refine lg_l rfl rfl rfl ?_
  refine lg_l rfl rfl rfl ?_
  refine lg_p rfl rfl rfl ?_
  refine lg_p rfl rfl rfl ?_
  refine lg_ia 3 rfl rfl (by omega) hl rfl ?_
  refine lg_B h2 rfl rfl rfl (fun v2 X2 Z2 h3 h4 => ?_)
  refine lg_p rfl rfl rfl ?_
  exact lg_g rfl rfl (k X2 Z2 h3)
set_option maxRecDepth 100000 in
theorem lx_c1 (hR : Rel X) (hn : n + 6 ≤ xs.length) (hl : xs.length ≤ 4000) (k : ∀ X2 Z2, Rel X2 → LG xs 1260 (Lk n) [] (Wd X2 Z2) P) : LG xs 235 (Lk n) [] (Wd X Z) P := by
  refine lg_l rfl rfl rfl ?_
  refine lg_l rfl rfl rfl ?_
  refine lg_l rfl rfl rfl ?_
  refine lg_p rfl rfl rfl ?_
  refine lg_p rfl rfl rfl ?_
  refine lg_ia 1 rfl rfl (by omega) hl rfl ?_
  refine lg_l rfl rfl rfl ?_
  refine lg_l rfl rfl rfl ?_
  refine lg_p rfl rfl rfl ?_
  refine lg_p rfl rfl rfl ?_
  refine lg_ia 2 rfl rfl (by omega) hl rfl ?_
  refine lg_A (p_ofStep hR _ _) rfl rfl rfl (fun v X1 Z1 h2 => ?_)
  refine lg_p rfl rfl rfl ?_
  refine lg_l rfl rfl rfl ?_
  refine lg_l rfl rfl rfl ?_
  refine lg_l rfl rfl rfl ?_
  refine lg_p rfl rfl rfl ?_
  refine lg_p rfl rfl rfl ?_
  refine lg_ia 1 rfl rfl (by omega) hl rfl ?_
  refine lg_l rfl rfl rfl ?_
  refine lg_l rfl rfl rfl ?_
  refine lg_p rfl rfl rfl ?_
  refine lg_p rfl rfl rfl ?_
  refine lg_ia 2 rfl rfl (by omega) hl rfl ?_
  refine lg_B h2 rfl rfl rfl (fun v2 X2 Z2 h3 h4 => ?_)
  refine lg_p rfl rfl rfl ?_
  exact lg_g rfl rfl (k X2 Z2 h3)
set_option maxRecDepth 100000 in
theorem lx_c2 (hR : Rel X) (hn : n + 6 ≤ xs.length) (hl : xs.length ≤ 4000) (k : ∀ X2 Z2, Rel X2 → LG xs 1260 (Lk n) [] (Wd X2 Z2) P) : LG xs 268 (Lk n) [] (Wd X Z) P := by
  refine lg_l rfl rfl rfl ?_
  refine lg_l rfl rfl rfl ?_
  refine lg_l rfl rfl rfl ?_
  refine lg_p rfl rfl rfl ?_
  refine lg_p rfl rfl rfl ?_
  refine lg_ia 1 rfl rfl (by omega) hl rfl ?_
  refine lg_l rfl rfl rfl ?_
  refine lg_l rfl rfl rfl ?_
  refine lg_p rfl rfl rfl ?_
  refine lg_p rfl rfl rfl ?_
  refine lg_ia 2 rfl rfl (by omega) hl rfl ?_
  refine lg_l rfl rfl rfl ?_
  refine lg_l rfl rfl rfl ?_
  refine lg_p rfl rfl rfl ?_
  refine lg_p rfl rfl rfl ?_
  refine lg_ia 3 rfl rfl (by omega) hl rfl ?_
  refine lg_A (p_change hR _ _ _) rfl rfl rfl (fun v X1 Z1 h2 => ?_)
  refine lg_p rfl rfl rfl ?_
  refine lg_l rfl rfl rfl ?_
  refine lg_l rfl rfl rfl ?_
  refine lg_l rfl rfl rfl ?_
  refine lg_p rfl rfl rfl ?_
  refine lg_p rfl rfl rfl ?_
  refine lg_ia 1 rfl rfl (by omega) hl rfl ?_
  refine lg_l rfl rfl rfl ?_
  refine lg_l rfl rfl rfl ?_
  refine lg_p rfl rfl rfl ?_
  refine lg_p rfl rfl rfl ?_
  refine lg_ia 2 rfl rfl (by omega) hl rfl ?_
  refine lg_l rfl rfl rfl ?_
  refine lg_l rfl rfl rfl ?_
  refine lg_p rfl rfl rfl ?_
  refine lg_p rfl rfl rfl ?_
  refine lg_ia 3 rfl rfl (by omega) hl rfl ?_
  refine lg_B h2 rfl rfl rfl (fun v2 X2 Z2 h3 h4 => ?_)
  refine lg_p rfl rfl rfl ?_
  exact lg_g rfl rfl (k X2 Z2 h3)
set_option maxRecDepth 100000 in
theorem lx_c3 (hR : Rel X) (hn : n + 6 ≤ xs.length) (hl : xs.length ≤ 4000) (k : ∀ X2 Z2, Rel X2 → LG xs 1260 (Lk n) [] (Wd X2 Z2) P) : LG xs 311 (Lk n) [] (Wd X Z) P := by
  refine lg_l rfl rfl rfl ?_
  refine lg_l rfl rfl rfl ?_
  refine lg_l rfl rfl rfl ?_
  refine lg_p rfl rfl rfl ?_
  refine lg_p rfl rfl rfl ?_
  refine lg_ia 1 rfl rfl (by omega) hl rfl ?_
  refine lg_l rfl rfl rfl ?_
  refine lg_l rfl rfl rfl ?_
  refine lg_p rfl rfl rfl ?_
  refine lg_p rfl rfl rfl ?_
  refine lg_ia 2 rfl rfl (by omega) hl rfl ?_
  refine lg_A (p_set hR _ _) rfl rfl rfl (fun v X1 Z1 h2 => ?_)
  refine lg_p rfl rfl rfl ?_
  refine lg_l rfl rfl rfl ?_
  refine lg_l rfl rfl rfl ?_
  refine lg_l rfl rfl rfl ?_
  refine lg_p rfl rfl rfl ?_
  refine lg_p rfl rfl rfl ?_
  refine lg_ia 1 rfl rfl (by omega) hl rfl ?_
  refine lg_l rfl rfl rfl ?_
  refine lg_l rfl rfl rfl ?_
  refine lg_p rfl rfl rfl ?_
  refine lg_p rfl rfl rfl ?_
  refine lg_ia 2 rfl rfl (by omega) hl rfl ?_
  refine lg_B h2 rfl rfl rfl (fun v2 X2 Z2 h3 h4 => ?_)
  refine lg_p rfl rfl rfl ?_
  exact lg_g rfl rfl (k X2 Z2 h3)
set_option maxRecDepth 100000 in
theorem lx_c4 (hR : Rel X) (hn : n + 6 ≤ xs.length) (hl : xs.length ≤ 4000) (k : ∀ X2 Z2, Rel X2 → LG xs 1260 (Lk n) [] (Wd X2 Z2) P) : LG xs 344 (Lk n) [] (Wd X Z) P := by
  refine lg_l rfl rfl rfl ?_
  refine lg_l rfl rfl rfl ?_
  refine lg_l rfl rfl rfl ?_
  refine lg_p rfl rfl rfl ?_
  refine lg_p rfl rfl rfl ?_
  refine lg_ia 1 rfl rfl (by omega) hl rfl ?_
  refine lg_l rfl rfl rfl ?_
  refine lg_l rfl rfl rfl ?_
  refine lg_p rfl rfl rfl ?_
  refine lg_p rfl rfl rfl ?_
  refine lg_ia 2 rfl rfl (by omega) hl rfl ?_
  refine lg_A (p_become hR _ _) rfl rfl rfl (fun v X1 Z1 h2 => ?_)
  refine lg_p rfl rfl rfl ?_
  refine lg_l rfl rfl rfl ?_
  refine lg_l rfl rfl rfl ?_
  refine lg_l rfl rfl rfl ?_
  refine lg_p rfl rfl rfl ?_
  refine lg_p rfl rfl rfl ?_
  refine lg_ia 1 rfl rfl (by omega) hl rfl ?_
  refine lg_l rfl rfl rfl ?_
  refine lg_l rfl rfl rfl ?_
  refine lg_p rfl rfl rfl ?_
  refine lg_p rfl rfl rfl ?_
  refine lg_ia 2 rfl rfl (by omega) hl rfl ?_
  refine lg_B h2 rfl rfl rfl (fun v2 X2 Z2 h3 h4 => ?_)
  refine lg_p rfl rfl rfl ?_
  exact lg_g rfl rfl (k X2 Z2 h3)
set_option maxRecDepth 100000 in
theorem lx_c5 (hR : Rel X) (hn : n + 6 ≤ xs.length) (hl : xs.length ≤ 4000) (k : ∀ X2 Z2, Rel X2 → LG xs 1260 (Lk n) [] (Wd X2 Z2) P) : LG xs 377 (Lk n) [] (Wd X Z) P := by
  refine lg_l rfl rfl rfl ?_
  refine lg_l rfl rfl rfl ?_
  refine lg_l rfl rfl rfl ?_
  refine lg_p rfl rfl rfl ?_
  refine lg_p rfl rfl rfl ?_
  refine lg_ia 1 rfl rfl (by omega) hl rfl ?_
  refine lg_l rfl rfl rfl ?_
  refine lg_l rfl rfl rfl ?_
  refine lg_p rfl rfl rfl ?_
  refine lg_p rfl rfl rfl ?_
  refine lg_ia 2 rfl rfl (by omega) hl rfl ?_
  refine lg_A (p_as hR _ _) rfl rfl rfl (fun v X1 Z1 h2 => ?_)
  refine lg_p rfl rfl rfl ?_
  refine lg_l rfl rfl rfl ?_
  refine lg_l rfl rfl rfl ?_
  refine lg_l rfl rfl rfl ?_
  refine lg_p rfl rfl rfl ?_
  refine lg_p rfl rfl rfl ?_
  refine lg_ia 1 rfl rfl (by omega) hl rfl ?_
  refine lg_l rfl rfl rfl ?_
  refine lg_l rfl rfl rfl ?_
  refine lg_p rfl rfl rfl ?_
  refine lg_p rfl rfl rfl ?_
  refine lg_ia 2 rfl rfl (by omega) hl rfl ?_
  refine lg_B h2 rfl rfl rfl (fun v2 X2 Z2 h3 h4 => ?_)
  refine lg_p rfl rfl rfl ?_
  exact lg_g rfl rfl (k X2 Z2 h3)
set_option maxRecDepth 100000 in
theorem lx_c6 (hR : Rel X) (hn : n + 6 ≤ xs.length) (hl : xs.length ≤ 4000) (k : ∀ X2 Z2, Rel X2 → LG xs 1260 (Lk n) [] (Wd X2 Z2) P) : LG xs 410 (Lk n) [] (Wd X Z) P := by
  refine lg_l rfl rfl rfl ?_
  refine lg_l rfl rfl rfl ?_
  refine lg_l rfl rfl rfl ?_
  refine lg_p rfl rfl rfl ?_
  refine lg_p rfl rfl rfl ?_
  refine lg_ia 1 rfl rfl (by omega) hl rfl ?_
  refine lg_p rfl rfl rfl ?_
  refine lg_p rfl rfl rfl ?_
  refine lg_p rfl rfl rfl ?_
  refine lg_l rfl rfl rfl ?_
  refine lg_l rfl rfl rfl ?_
  refine lg_p rfl rfl rfl ?_
  refine lg_p rfl rfl rfl ?_
  refine lg_ia 2 rfl rfl (by omega) hl rfl ?_
  refine lg_p rfl rfl rfl ?_
  refine lg_h rfl rfl rfl ?_
  refine lg_p rfl rfl rfl ?_
  refine lg_p rfl rfl rfl ?_
  refine lg_l rfl rfl rfl ?_
  refine lg_l rfl rfl rfl ?_
  refine lg_p rfl rfl rfl ?_
  refine lg_p rfl rfl rfl ?_
  refine lg_ia 3 rfl rfl (by omega) hl rfl ?_
  refine lg_A (p_feed hR _ _) rfl rfl rfl (fun v X1 Z1 h2 => ?_)
  refine lg_p rfl rfl rfl ?_
  refine lg_l rfl rfl rfl ?_
  refine lg_l rfl rfl rfl ?_
  refine lg_l rfl rfl rfl ?_
  refine lg_p rfl rfl rfl ?_
  refine lg_p rfl rfl rfl ?_
  refine lg_ia 1 rfl rfl (by omega) hl rfl ?_
  refine lg_p rfl rfl rfl ?_
  refine lg_p rfl rfl rfl ?_
  refine lg_p rfl rfl rfl ?_
  refine lg_l rfl rfl rfl ?_
  refine lg_l rfl rfl rfl ?_
  refine lg_p rfl rfl rfl ?_
  refine lg_p rfl rfl rfl ?_
  refine lg_ia 2 rfl rfl (by omega) hl rfl ?_
  refine lg_p rfl rfl rfl ?_
  refine lg_h rfl rfl rfl ?_
  refine lg_p rfl rfl rfl ?_
  refine lg_p rfl rfl rfl ?_
  refine lg_l rfl rfl rfl ?_
  refine lg_l rfl rfl rfl ?_
  refine lg_p rfl rfl rfl ?_
  refine lg_p rfl rfl rfl ?_
  refine lg_ia 3 rfl rfl (by omega) hl rfl ?_
  refine lg_B h2 rfl rfl rfl (fun v2 X2 Z2 h3 h4 => ?_)
  refine lg_p rfl rfl rfl ?_
  exact lg_g rfl rfl (k X2 Z2 h3)
set_option maxRecDepth 100000 in
theorem lx_c7 (hR : Rel X) (hn : n + 6 ≤ xs.length) (hl : xs.length ≤ 4000) (k : ∀ X2 Z2, Rel X2 → LG xs 1260 (Lk n) [] (Wd X2 Z2) P) : LG xs 473 (Lk n) [] (Wd X Z) P := by
  refine lg_l rfl rfl rfl ?_
  refine lg_l rfl rfl rfl ?_
  refine lg_l rfl rfl rfl ?_
  refine lg_p rfl rfl rfl ?_
  refine lg_p rfl rfl rfl ?_
  refine lg_ia 1 rfl rfl (by omega) hl rfl ?_
  refine lg_A (p_text hR _) rfl rfl rfl (fun v X1 Z1 h2 => ?_)
  refine lg_p rfl rfl rfl ?_
  refine lg_l rfl rfl rfl ?_
  refine lg_l rfl rfl rfl ?_
  refine lg_l rfl rfl rfl ?_
  refine lg_p rfl rfl rfl ?_
  refine lg_p rfl rfl rfl ?_
  refine lg_ia 1 rfl rfl (by omega) hl rfl ?_
  refine lg_B h2 rfl rfl rfl (fun v2 X2 Z2 h3 h4 => ?_)
  refine lg_p rfl rfl rfl ?_
  exact lg_g rfl rfl (k X2 Z2 h3)
set_option maxRecDepth 100000 in
theorem lx_c8 (hR : Rel X) (hn : n + 6 ≤ xs.length) (hl : xs.length ≤ 4000) (k : ∀ X2 Z2, Rel X2 → LG xs 1260 (Lk n) [] (Wd X2 Z2) P) : LG xs 496 (Lk n) [] (Wd X Z) P := by
  refine lg_l rfl rfl rfl ?_
  refine lg_l rfl rfl rfl ?_
  refine lg_l rfl rfl rfl ?_
  refine lg_p rfl rfl rfl ?_
  refine lg_p rfl rfl rfl ?_
  refine lg_ia 1 rfl rfl (by omega) hl rfl ?_
  refine lg_l rfl rfl rfl ?_
  refine lg_l rfl rfl rfl ?_
  refine lg_p rfl rfl rfl ?_
  refine lg_p rfl rfl rfl ?_
  refine lg_ia 2 rfl rfl (by omega) hl rfl ?_
  refine lg_l rfl rfl rfl ?_
  refine lg_l rfl rfl rfl ?_
  refine lg_p rfl rfl rfl ?_
  refine lg_p rfl rfl rfl ?_
  refine lg_ia 3 rfl rfl (by omega) hl rfl ?_
  refine lg_l rfl rfl rfl ?_
  refine lg_l rfl rfl rfl ?_
  refine lg_p rfl rfl rfl ?_
  refine lg_p rfl rfl rfl ?_
  refine lg_ia 4 rfl rfl (by omega) hl rfl ?_
  refine lg_A (p_law hR _ _ _ _) rfl rfl rfl (fun v X1 Z1 h2 => ?_)
  refine lg_p rfl rfl rfl ?_
  refine lg_l rfl rfl rfl ?_
  refine lg_l rfl rfl rfl ?_
  refine lg_l rfl rfl rfl ?_
  refine lg_p rfl rfl rfl ?_
  refine lg_p rfl rfl rfl ?_
  refine lg_ia 1 rfl rfl (by omega) hl rfl ?_
  refine lg_l rfl rfl rfl ?_
  refine lg_l rfl rfl rfl ?_
  refine lg_p rfl rfl rfl ?_
  refine lg_p rfl rfl rfl ?_
  refine lg_ia 2 rfl rfl (by omega) hl rfl ?_
  refine lg_l rfl rfl rfl ?_
  refine lg_l rfl rfl rfl ?_
  refine lg_p rfl rfl rfl ?_
  refine lg_p rfl rfl rfl ?_
  refine lg_ia 3 rfl rfl (by omega) hl rfl ?_
  refine lg_l rfl rfl rfl ?_
  refine lg_l rfl rfl rfl ?_
  refine lg_p rfl rfl rfl ?_
  refine lg_p rfl rfl rfl ?_
  refine lg_ia 4 rfl rfl (by omega) hl rfl ?_
  refine lg_B h2 rfl rfl rfl (fun v2 X2 Z2 h3 h4 => ?_)
  refine lg_p rfl rfl rfl ?_
  exact lg_g rfl rfl (k X2 Z2 h3)
set_option maxRecDepth 100000 in
theorem lx_c9 (hR : Rel X) (hn : n + 6 ≤ xs.length) (hl : xs.length ≤ 4000) (k : ∀ X2 Z2, Rel X2 → LG xs 1260 (Lk n) [] (Wd X2 Z2) P) : LG xs 549 (Lk n) [] (Wd X Z) P := by
  refine lg_l rfl rfl rfl ?_
  refine lg_l rfl rfl rfl ?_
  refine lg_l rfl rfl rfl ?_
  refine lg_p rfl rfl rfl ?_
  refine lg_p rfl rfl rfl ?_
  refine lg_ia 1 rfl rfl (by omega) hl rfl ?_
  refine lg_A (p_does hR _) rfl rfl rfl (fun v X1 Z1 h2 => ?_)
  refine lg_p rfl rfl rfl ?_
  refine lg_l rfl rfl rfl ?_
  refine lg_l rfl rfl rfl ?_
  refine lg_l rfl rfl rfl ?_
  refine lg_p rfl rfl rfl ?_
  refine lg_p rfl rfl rfl ?_
  refine lg_ia 1 rfl rfl (by omega) hl rfl ?_
  refine lg_B h2 rfl rfl rfl (fun v2 X2 Z2 h3 h4 => ?_)
  refine lg_p rfl rfl rfl ?_
  exact lg_g rfl rfl (k X2 Z2 h3)
set_option maxRecDepth 100000 in
theorem lx_c10 (hR : Rel X) (hn : n + 6 ≤ xs.length) (hl : xs.length ≤ 4000) (k : ∀ X2 Z2, Rel X2 → LG xs 1260 (Lk n) [] (Wd X2 Z2) P) : LG xs 572 (Lk n) [] (Wd X Z) P := by
  refine lg_l rfl rfl rfl ?_
  refine lg_l rfl rfl rfl ?_
  refine lg_l rfl rfl rfl ?_
  refine lg_p rfl rfl rfl ?_
  refine lg_p rfl rfl rfl ?_
  refine lg_ia 1 rfl rfl (by omega) hl rfl ?_
  refine lg_A (p_undo hR _) rfl rfl rfl (fun v X1 Z1 h2 => ?_)
  refine lg_p rfl rfl rfl ?_
  refine lg_l rfl rfl rfl ?_
  refine lg_l rfl rfl rfl ?_
  refine lg_l rfl rfl rfl ?_
  refine lg_p rfl rfl rfl ?_
  refine lg_p rfl rfl rfl ?_
  refine lg_ia 1 rfl rfl (by omega) hl rfl ?_
  refine lg_B h2 rfl rfl rfl (fun v2 X2 Z2 h3 h4 => ?_)
  refine lg_p rfl rfl rfl ?_
  exact lg_g rfl rfl (k X2 Z2 h3)
set_option maxRecDepth 100000 in
theorem lx_c11 (hR : Rel X) (hn : n + 6 ≤ xs.length) (hl : xs.length ≤ 4000) (k : ∀ X2 Z2, Rel X2 → LG xs 1260 (Lk n) [] (Wd X2 Z2) P) : LG xs 595 (Lk n) [] (Wd X Z) P := by
  refine lg_l rfl rfl rfl ?_
  refine lg_l rfl rfl rfl ?_
  refine lg_l rfl rfl rfl ?_
  refine lg_p rfl rfl rfl ?_
  refine lg_p rfl rfl rfl ?_
  refine lg_ia 1 rfl rfl (by omega) hl rfl ?_
  refine lg_A (p_loose hR _) rfl rfl rfl (fun v X1 Z1 h2 => ?_)
  refine lg_p rfl rfl rfl ?_
  refine lg_l rfl rfl rfl ?_
  refine lg_l rfl rfl rfl ?_
  refine lg_l rfl rfl rfl ?_
  refine lg_p rfl rfl rfl ?_
  refine lg_p rfl rfl rfl ?_
  refine lg_ia 1 rfl rfl (by omega) hl rfl ?_
  refine lg_B h2 rfl rfl rfl (fun v2 X2 Z2 h3 h4 => ?_)
  refine lg_p rfl rfl rfl ?_
  exact lg_g rfl rfl (k X2 Z2 h3)
set_option maxRecDepth 100000 in
theorem lx_c12 (hR : Rel X) (hn : n + 6 ≤ xs.length) (hl : xs.length ≤ 4000) (k : ∀ X2 Z2, Rel X2 → LG xs 1260 (Lk n) [] (Wd X2 Z2) P) : LG xs 618 (Lk n) [] (Wd X Z) P := by
  refine lg_l rfl rfl rfl ?_
  refine lg_l rfl rfl rfl ?_
  refine lg_l rfl rfl rfl ?_
  refine lg_p rfl rfl rfl ?_
  refine lg_p rfl rfl rfl ?_
  refine lg_ia 1 rfl rfl (by omega) hl rfl ?_
  refine lg_A (p_next hR _) rfl rfl rfl (fun v X1 Z1 h2 => ?_)
  refine lg_p rfl rfl rfl ?_
  refine lg_l rfl rfl rfl ?_
  refine lg_l rfl rfl rfl ?_
  refine lg_l rfl rfl rfl ?_
  refine lg_p rfl rfl rfl ?_
  refine lg_p rfl rfl rfl ?_
  refine lg_ia 1 rfl rfl (by omega) hl rfl ?_
  refine lg_B h2 rfl rfl rfl (fun v2 X2 Z2 h3 h4 => ?_)
  refine lg_p rfl rfl rfl ?_
  exact lg_g rfl rfl (k X2 Z2 h3)
set_option maxRecDepth 100000 in
theorem lx_c13 (hR : Rel X) (hn : n + 6 ≤ xs.length) (hl : xs.length ≤ 4000) (k : ∀ X2 Z2, Rel X2 → LG xs 1260 (Lk n) [] (Wd X2 Z2) P) : LG xs 641 (Lk n) [] (Wd X Z) P := by
  refine lg_l rfl rfl rfl ?_
  refine lg_l rfl rfl rfl ?_
  refine lg_l rfl rfl rfl ?_
  refine lg_p rfl rfl rfl ?_
  refine lg_p rfl rfl rfl ?_
  refine lg_ia 1 rfl rfl (by omega) hl rfl ?_
  refine lg_A (p_all hR _) rfl rfl rfl (fun v X1 Z1 h2 => ?_)
  refine lg_p rfl rfl rfl ?_
  refine lg_l rfl rfl rfl ?_
  refine lg_l rfl rfl rfl ?_
  refine lg_l rfl rfl rfl ?_
  refine lg_p rfl rfl rfl ?_
  refine lg_p rfl rfl rfl ?_
  refine lg_ia 1 rfl rfl (by omega) hl rfl ?_
  refine lg_B h2 rfl rfl rfl (fun v2 X2 Z2 h3 h4 => ?_)
  refine lg_p rfl rfl rfl ?_
  exact lg_g rfl rfl (k X2 Z2 h3)
set_option maxRecDepth 100000 in
theorem lx_c14 (hR : Rel X) (hn : n + 6 ≤ xs.length) (hl : xs.length ≤ 4000) (k : ∀ X2 Z2, Rel X2 → LG xs 1260 (Lk n) [] (Wd X2 Z2) P) : LG xs 664 (Lk n) [] (Wd X Z) P := by
  refine lg_l rfl rfl rfl ?_
  refine lg_l rfl rfl rfl ?_
  refine lg_l rfl rfl rfl ?_
  refine lg_p rfl rfl rfl ?_
  refine lg_p rfl rfl rfl ?_
  refine lg_ia 1 rfl rfl (by omega) hl rfl ?_
  refine lg_A (p_order hR _) rfl rfl rfl (fun v X1 Z1 h2 => ?_)
  refine lg_p rfl rfl rfl ?_
  refine lg_l rfl rfl rfl ?_
  refine lg_l rfl rfl rfl ?_
  refine lg_l rfl rfl rfl ?_
  refine lg_p rfl rfl rfl ?_
  refine lg_p rfl rfl rfl ?_
  refine lg_ia 1 rfl rfl (by omega) hl rfl ?_
  refine lg_B h2 rfl rfl rfl (fun v2 X2 Z2 h3 h4 => ?_)
  refine lg_p rfl rfl rfl ?_
  exact lg_g rfl rfl (k X2 Z2 h3)
set_option maxRecDepth 100000 in
theorem lx_c15 (hR : Rel X) (hn : n + 6 ≤ xs.length) (hl : xs.length ≤ 4000) (k : ∀ X2 Z2, Rel X2 → LG xs 1260 (Lk n) [] (Wd X2 Z2) P) : LG xs 687 (Lk n) [] (Wd X Z) P := by
  refine lg_l rfl rfl rfl ?_
  refine lg_l rfl rfl rfl ?_
  refine lg_l rfl rfl rfl ?_
  refine lg_p rfl rfl rfl ?_
  refine lg_p rfl rfl rfl ?_
  refine lg_ia 1 rfl rfl (by omega) hl rfl ?_
  refine lg_A (p_under hR _) rfl rfl rfl (fun v X1 Z1 h2 => ?_)
  refine lg_p rfl rfl rfl ?_
  refine lg_l rfl rfl rfl ?_
  refine lg_l rfl rfl rfl ?_
  refine lg_l rfl rfl rfl ?_
  refine lg_p rfl rfl rfl ?_
  refine lg_p rfl rfl rfl ?_
  refine lg_ia 1 rfl rfl (by omega) hl rfl ?_
  refine lg_B h2 rfl rfl rfl (fun v2 X2 Z2 h3 h4 => ?_)
  refine lg_p rfl rfl rfl ?_
  exact lg_g rfl rfl (k X2 Z2 h3)
set_option maxRecDepth 100000 in
theorem lx_c16 (hR : Rel X) (hn : n + 6 ≤ xs.length) (hl : xs.length ≤ 4000) (k : ∀ X2 Z2, Rel X2 → LG xs 1260 (Lk n) [] (Wd X2 Z2) P) : LG xs 710 (Lk n) [] (Wd X Z) P := by
  refine lg_l rfl rfl rfl ?_
  refine lg_l rfl rfl rfl ?_
  refine lg_l rfl rfl rfl ?_
  refine lg_p rfl rfl rfl ?_
  refine lg_p rfl rfl rfl ?_
  refine lg_ia 1 rfl rfl (by omega) hl rfl ?_
  refine lg_l rfl rfl rfl ?_
  refine lg_l rfl rfl rfl ?_
  refine lg_p rfl rfl rfl ?_
  refine lg_p rfl rfl rfl ?_
  refine lg_ia 2 rfl rfl (by omega) hl rfl ?_
  refine lg_A (p_goBack hR _ _) rfl rfl rfl (fun v X1 Z1 h2 => ?_)
  refine lg_p rfl rfl rfl ?_
  refine lg_l rfl rfl rfl ?_
  refine lg_l rfl rfl rfl ?_
  refine lg_l rfl rfl rfl ?_
  refine lg_p rfl rfl rfl ?_
  refine lg_p rfl rfl rfl ?_
  refine lg_ia 1 rfl rfl (by omega) hl rfl ?_
  refine lg_l rfl rfl rfl ?_
  refine lg_l rfl rfl rfl ?_
  refine lg_p rfl rfl rfl ?_
  refine lg_p rfl rfl rfl ?_
  refine lg_ia 2 rfl rfl (by omega) hl rfl ?_
  refine lg_B h2 rfl rfl rfl (fun v2 X2 Z2 h3 h4 => ?_)
  refine lg_p rfl rfl rfl ?_
  exact lg_g rfl rfl (k X2 Z2 h3)
set_option maxRecDepth 100000 in
theorem lx_c17 (hR : Rel X) (hn : n + 6 ≤ xs.length) (hl : xs.length ≤ 4000) (k : ∀ X2 Z2, Rel X2 → LG xs 1260 (Lk n) [] (Wd X2 Z2) P) : LG xs 743 (Lk n) [] (Wd X Z) P := by
  refine lg_l rfl rfl rfl ?_
  refine lg_A (p_left hR) rfl rfl rfl (fun v X1 Z1 h2 => ?_)
  refine lg_p rfl rfl rfl ?_
  refine lg_l rfl rfl rfl ?_
  refine lg_B h2 rfl rfl rfl (fun v2 X2 Z2 h3 h4 => ?_)
  refine lg_p rfl rfl rfl ?_
  exact lg_g rfl rfl (k X2 Z2 h3)
set_option maxRecDepth 100000 in
theorem lx_c18 (hR : Rel X) (hn : n + 6 ≤ xs.length) (hl : xs.length ≤ 4000) (k : ∀ X2 Z2, Rel X2 → LG xs 1260 (Lk n) [] (Wd X2 Z2) P) : LG xs 756 (Lk n) [] (Wd X Z) P := by
  refine lg_l rfl rfl rfl ?_
  refine lg_l rfl rfl rfl ?_
  refine lg_l rfl rfl rfl ?_
  refine lg_p rfl rfl rfl ?_
  refine lg_p rfl rfl rfl ?_
  refine lg_ia 1 rfl rfl (by omega) hl rfl ?_
  refine lg_l rfl rfl rfl ?_
  refine lg_l rfl rfl rfl ?_
  refine lg_p rfl rfl rfl ?_
  refine lg_p rfl rfl rfl ?_
  refine lg_ia 2 rfl rfl (by omega) hl rfl ?_
  refine lg_A (p_whose hR _ _) rfl rfl rfl (fun v X1 Z1 h2 => ?_)
  refine lg_p rfl rfl rfl ?_
  refine lg_l rfl rfl rfl ?_
  refine lg_l rfl rfl rfl ?_
  refine lg_l rfl rfl rfl ?_
  refine lg_p rfl rfl rfl ?_
  refine lg_p rfl rfl rfl ?_
  refine lg_ia 1 rfl rfl (by omega) hl rfl ?_
  refine lg_l rfl rfl rfl ?_
  refine lg_l rfl rfl rfl ?_
  refine lg_p rfl rfl rfl ?_
  refine lg_p rfl rfl rfl ?_
  refine lg_ia 2 rfl rfl (by omega) hl rfl ?_
  refine lg_B h2 rfl rfl rfl (fun v2 X2 Z2 h3 h4 => ?_)
  refine lg_p rfl rfl rfl ?_
  exact lg_g rfl rfl (k X2 Z2 h3)
set_option maxRecDepth 100000 in
theorem lx_c19 (hR : Rel X) (hn : n + 6 ≤ xs.length) (hl : xs.length ≤ 4000) (k : ∀ X2 Z2, Rel X2 → LG xs 1260 (Lk n) [] (Wd X2 Z2) P) : LG xs 789 (Lk n) [] (Wd X Z) P := by
  refine lg_l rfl rfl rfl ?_
  refine lg_A (p_lookAt hR) rfl rfl rfl (fun v X1 Z1 h2 => ?_)
  refine lg_p rfl rfl rfl ?_
  refine lg_l rfl rfl rfl ?_
  refine lg_B h2 rfl rfl rfl (fun v2 X2 Z2 h3 h4 => ?_)
  refine lg_p rfl rfl rfl ?_
  exact lg_g rfl rfl (k X2 Z2 h3)
set_option maxRecDepth 100000 in
theorem lx_c20 (hR : Rel X) (hn : n + 6 ≤ xs.length) (hl : xs.length ≤ 4000) (k : ∀ X2 Z2, Rel X2 → LG xs 1260 (Lk n) [] (Wd X2 Z2) P) : LG xs 802 (Lk n) [] (Wd X Z) P := by
  refine lg_l rfl rfl rfl ?_
  refine lg_l rfl rfl rfl ?_
  refine lg_l rfl rfl rfl ?_
  refine lg_p rfl rfl rfl ?_
  refine lg_p rfl rfl rfl ?_
  refine lg_ia 1 rfl rfl (by omega) hl rfl ?_
  refine lg_l rfl rfl rfl ?_
  refine lg_l rfl rfl rfl ?_
  refine lg_p rfl rfl rfl ?_
  refine lg_p rfl rfl rfl ?_
  refine lg_ia 2 rfl rfl (by omega) hl rfl ?_
  refine lg_A (p_orders hR _ _) rfl rfl rfl (fun v X1 Z1 h2 => ?_)
  refine lg_p rfl rfl rfl ?_
  refine lg_l rfl rfl rfl ?_
  refine lg_l rfl rfl rfl ?_
  refine lg_l rfl rfl rfl ?_
  refine lg_p rfl rfl rfl ?_
  refine lg_p rfl rfl rfl ?_
  refine lg_ia 1 rfl rfl (by omega) hl rfl ?_
  refine lg_l rfl rfl rfl ?_
  refine lg_l rfl rfl rfl ?_
  refine lg_p rfl rfl rfl ?_
  refine lg_p rfl rfl rfl ?_
  refine lg_ia 2 rfl rfl (by omega) hl rfl ?_
  refine lg_B h2 rfl rfl rfl (fun v2 X2 Z2 h3 h4 => ?_)
  refine lg_p rfl rfl rfl ?_
  exact lg_g rfl rfl (k X2 Z2 h3)
set_option maxRecDepth 100000 in
theorem lx_c21 (hR : Rel X) (hn : n + 6 ≤ xs.length) (hl : xs.length ≤ 4000) (k : ∀ X2 Z2, Rel X2 → LG xs 1260 (Lk n) [] (Wd X2 Z2) P) : LG xs 835 (Lk n) [] (Wd X Z) P := by
  refine lg_l rfl rfl rfl ?_
  refine lg_l rfl rfl rfl ?_
  refine lg_l rfl rfl rfl ?_
  refine lg_p rfl rfl rfl ?_
  refine lg_p rfl rfl rfl ?_
  refine lg_ia 1 rfl rfl (by omega) hl rfl ?_
  refine lg_l rfl rfl rfl ?_
  refine lg_l rfl rfl rfl ?_
  refine lg_p rfl rfl rfl ?_
  refine lg_p rfl rfl rfl ?_
  refine lg_ia 2 rfl rfl (by omega) hl rfl ?_
  refine lg_A (p_odds hR _ _) rfl rfl rfl (fun v X1 Z1 h2 => ?_)
  refine lg_p rfl rfl rfl ?_
  refine lg_l rfl rfl rfl ?_
  refine lg_l rfl rfl rfl ?_
  refine lg_l rfl rfl rfl ?_
  refine lg_p rfl rfl rfl ?_
  refine lg_p rfl rfl rfl ?_
  refine lg_ia 1 rfl rfl (by omega) hl rfl ?_
  refine lg_l rfl rfl rfl ?_
  refine lg_l rfl rfl rfl ?_
  refine lg_p rfl rfl rfl ?_
  refine lg_p rfl rfl rfl ?_
  refine lg_ia 2 rfl rfl (by omega) hl rfl ?_
  refine lg_B h2 rfl rfl rfl (fun v2 X2 Z2 h3 h4 => ?_)
  refine lg_p rfl rfl rfl ?_
  exact lg_g rfl rfl (k X2 Z2 h3)
set_option maxRecDepth 100000 in
theorem lx_c22 (hR : Rel X) (hn : n + 6 ≤ xs.length) (hl : xs.length ≤ 4000) (k : ∀ X2 Z2, Rel X2 → LG xs 1260 (Lk n) [] (Wd X2 Z2) P) : LG xs 868 (Lk n) [] (Wd X Z) P := by
  refine lg_l rfl rfl rfl ?_
  refine lg_l rfl rfl rfl ?_
  refine lg_l rfl rfl rfl ?_
  refine lg_p rfl rfl rfl ?_
  refine lg_p rfl rfl rfl ?_
  refine lg_ia 1 rfl rfl (by omega) hl rfl ?_
  refine lg_A (p_seed hR _) rfl rfl rfl (fun v X1 Z1 h2 => ?_)
  refine lg_p rfl rfl rfl ?_
  refine lg_l rfl rfl rfl ?_
  refine lg_l rfl rfl rfl ?_
  refine lg_l rfl rfl rfl ?_
  refine lg_p rfl rfl rfl ?_
  refine lg_p rfl rfl rfl ?_
  refine lg_ia 1 rfl rfl (by omega) hl rfl ?_
  refine lg_B h2 rfl rfl rfl (fun v2 X2 Z2 h3 h4 => ?_)
  refine lg_p rfl rfl rfl ?_
  exact lg_g rfl rfl (k X2 Z2 h3)
set_option maxRecDepth 100000 in
theorem lx_c23 (hR : Rel X) (hn : n + 6 ≤ xs.length) (hl : xs.length ≤ 4000) (k : ∀ X2 Z2, Rel X2 → LG xs 1260 (Lk n) [] (Wd X2 Z2) P) : LG xs 891 (Lk n) [] (Wd X Z) P := by
  refine lg_l rfl rfl rfl ?_
  refine lg_l rfl rfl rfl ?_
  refine lg_l rfl rfl rfl ?_
  refine lg_p rfl rfl rfl ?_
  refine lg_p rfl rfl rfl ?_
  refine lg_ia 1 rfl rfl (by omega) hl rfl ?_
  refine lg_l rfl rfl rfl ?_
  refine lg_l rfl rfl rfl ?_
  refine lg_p rfl rfl rfl ?_
  refine lg_p rfl rfl rfl ?_
  refine lg_ia 2 rfl rfl (by omega) hl rfl ?_
  refine lg_l rfl rfl rfl ?_
  refine lg_l rfl rfl rfl ?_
  refine lg_p rfl rfl rfl ?_
  refine lg_p rfl rfl rfl ?_
  refine lg_ia 3 rfl rfl (by omega) hl rfl ?_
  refine lg_A (p_voice hR _ _ _) rfl rfl rfl (fun v X1 Z1 h2 => ?_)
  refine lg_p rfl rfl rfl ?_
  refine lg_l rfl rfl rfl ?_
  refine lg_l rfl rfl rfl ?_
  refine lg_l rfl rfl rfl ?_
  refine lg_p rfl rfl rfl ?_
  refine lg_p rfl rfl rfl ?_
  refine lg_ia 1 rfl rfl (by omega) hl rfl ?_
  refine lg_l rfl rfl rfl ?_
  refine lg_l rfl rfl rfl ?_
  refine lg_p rfl rfl rfl ?_
  refine lg_p rfl rfl rfl ?_
  refine lg_ia 2 rfl rfl (by omega) hl rfl ?_
  refine lg_l rfl rfl rfl ?_
  refine lg_l rfl rfl rfl ?_
  refine lg_p rfl rfl rfl ?_
  refine lg_p rfl rfl rfl ?_
  refine lg_ia 3 rfl rfl (by omega) hl rfl ?_
  refine lg_B h2 rfl rfl rfl (fun v2 X2 Z2 h3 h4 => ?_)
  refine lg_p rfl rfl rfl ?_
  exact lg_g rfl rfl (k X2 Z2 h3)
set_option maxRecDepth 100000 in
theorem lx_c24 (hR : Rel X) (hn : n + 6 ≤ xs.length) (hl : xs.length ≤ 4000) (k : ∀ X2 Z2, Rel X2 → LG xs 1260 (Lk n) [] (Wd X2 Z2) P) : LG xs 934 (Lk n) [] (Wd X Z) P := by
  refine lg_l rfl rfl rfl ?_
  refine lg_l rfl rfl rfl ?_
  refine lg_l rfl rfl rfl ?_
  refine lg_p rfl rfl rfl ?_
  refine lg_p rfl rfl rfl ?_
  refine lg_ia 1 rfl rfl (by omega) hl rfl ?_
  refine lg_A (p_trace hR _) rfl rfl rfl (fun v X1 Z1 h2 => ?_)
  refine lg_p rfl rfl rfl ?_
  refine lg_l rfl rfl rfl ?_
  refine lg_l rfl rfl rfl ?_
  refine lg_l rfl rfl rfl ?_
  refine lg_p rfl rfl rfl ?_
  refine lg_p rfl rfl rfl ?_
  refine lg_ia 1 rfl rfl (by omega) hl rfl ?_
  refine lg_B h2 rfl rfl rfl (fun v2 X2 Z2 h3 h4 => ?_)
  refine lg_p rfl rfl rfl ?_
  exact lg_g rfl rfl (k X2 Z2 h3)
set_option maxRecDepth 100000 in
theorem lx_c25 (hR : Rel X) (hn : n + 6 ≤ xs.length) (hl : xs.length ≤ 4000) (k : ∀ X2 Z2, Rel X2 → LG xs 1260 (Lk n) [] (Wd X2 Z2) P) : LG xs 957 (Lk n) [] (Wd X Z) P := by
  refine lg_l rfl rfl rfl ?_
  refine lg_l rfl rfl rfl ?_
  refine lg_l rfl rfl rfl ?_
  refine lg_p rfl rfl rfl ?_
  refine lg_p rfl rfl rfl ?_
  refine lg_ia 1 rfl rfl (by omega) hl rfl ?_
  refine lg_l rfl rfl rfl ?_
  refine lg_l rfl rfl rfl ?_
  refine lg_p rfl rfl rfl ?_
  refine lg_p rfl rfl rfl ?_
  refine lg_ia 2 rfl rfl (by omega) hl rfl ?_
  refine lg_l rfl rfl rfl ?_
  refine lg_l rfl rfl rfl ?_
  refine lg_p rfl rfl rfl ?_
  refine lg_p rfl rfl rfl ?_
  refine lg_ia 3 rfl rfl (by omega) hl rfl ?_
  refine lg_A (p_sheet hR _ _ _) rfl rfl rfl (fun v X1 Z1 h2 => ?_)
  refine lg_p rfl rfl rfl ?_
  refine lg_l rfl rfl rfl ?_
  refine lg_l rfl rfl rfl ?_
  refine lg_l rfl rfl rfl ?_
  refine lg_p rfl rfl rfl ?_
  refine lg_p rfl rfl rfl ?_
  refine lg_ia 1 rfl rfl (by omega) hl rfl ?_
  refine lg_l rfl rfl rfl ?_
  refine lg_l rfl rfl rfl ?_
  refine lg_p rfl rfl rfl ?_
  refine lg_p rfl rfl rfl ?_
  refine lg_ia 2 rfl rfl (by omega) hl rfl ?_
  refine lg_l rfl rfl rfl ?_
  refine lg_l rfl rfl rfl ?_
  refine lg_p rfl rfl rfl ?_
  refine lg_p rfl rfl rfl ?_
  refine lg_ia 3 rfl rfl (by omega) hl rfl ?_
  refine lg_B h2 rfl rfl rfl (fun v2 X2 Z2 h3 h4 => ?_)
  refine lg_p rfl rfl rfl ?_
  exact lg_g rfl rfl (k X2 Z2 h3)
set_option maxRecDepth 100000 in
theorem lx_c26 (hR : Rel X) (hn : n + 6 ≤ xs.length) (hl : xs.length ≤ 4000) (k : ∀ X2 Z2, Rel X2 → LG xs 1260 (Lk n) [] (Wd X2 Z2) P) : LG xs 1000 (Lk n) [] (Wd X Z) P := by
  refine lg_l rfl rfl rfl ?_
  refine lg_l rfl rfl rfl ?_
  refine lg_l rfl rfl rfl ?_
  refine lg_p rfl rfl rfl ?_
  refine lg_p rfl rfl rfl ?_
  refine lg_ia 1 rfl rfl (by omega) hl rfl ?_
  refine lg_l rfl rfl rfl ?_
  refine lg_l rfl rfl rfl ?_
  refine lg_p rfl rfl rfl ?_
  refine lg_p rfl rfl rfl ?_
  refine lg_ia 2 rfl rfl (by omega) hl rfl ?_
  refine lg_l rfl rfl rfl ?_
  refine lg_l rfl rfl rfl ?_
  refine lg_p rfl rfl rfl ?_
  refine lg_p rfl rfl rfl ?_
  refine lg_ia 3 rfl rfl (by omega) hl rfl ?_
  refine lg_A (p_put hR _ _ _) rfl rfl rfl (fun v X1 Z1 h2 => ?_)
  refine lg_p rfl rfl rfl ?_
  refine lg_l rfl rfl rfl ?_
  refine lg_l rfl rfl rfl ?_
  refine lg_l rfl rfl rfl ?_
  refine lg_p rfl rfl rfl ?_
  refine lg_p rfl rfl rfl ?_
  refine lg_ia 1 rfl rfl (by omega) hl rfl ?_
  refine lg_l rfl rfl rfl ?_
  refine lg_l rfl rfl rfl ?_
  refine lg_p rfl rfl rfl ?_
  refine lg_p rfl rfl rfl ?_
  refine lg_ia 2 rfl rfl (by omega) hl rfl ?_
  refine lg_l rfl rfl rfl ?_
  refine lg_l rfl rfl rfl ?_
  refine lg_p rfl rfl rfl ?_
  refine lg_p rfl rfl rfl ?_
  refine lg_ia 3 rfl rfl (by omega) hl rfl ?_
  refine lg_B h2 rfl rfl rfl (fun v2 X2 Z2 h3 h4 => ?_)
  refine lg_p rfl rfl rfl ?_
  exact lg_g rfl rfl (k X2 Z2 h3)
set_option maxRecDepth 100000 in
theorem lx_c27 (hR : Rel X) (hn : n + 6 ≤ xs.length) (hl : xs.length ≤ 4000) (k : ∀ X2 Z2, Rel X2 → LG xs 1260 (Lk n) [] (Wd X2 Z2) P) : LG xs 1043 (Lk n) [] (Wd X Z) P := by
  refine lg_l rfl rfl rfl ?_
  refine lg_l rfl rfl rfl ?_
  refine lg_l rfl rfl rfl ?_
  refine lg_p rfl rfl rfl ?_
  refine lg_p rfl rfl rfl ?_
  refine lg_ia 1 rfl rfl (by omega) hl rfl ?_
  refine lg_l rfl rfl rfl ?_
  refine lg_l rfl rfl rfl ?_
  refine lg_p rfl rfl rfl ?_
  refine lg_p rfl rfl rfl ?_
  refine lg_ia 2 rfl rfl (by omega) hl rfl ?_
  refine lg_l rfl rfl rfl ?_
  refine lg_l rfl rfl rfl ?_
  refine lg_p rfl rfl rfl ?_
  refine lg_p rfl rfl rfl ?_
  refine lg_ia 3 rfl rfl (by omega) hl rfl ?_
  refine lg_l rfl rfl rfl ?_
  refine lg_l rfl rfl rfl ?_
  refine lg_p rfl rfl rfl ?_
  refine lg_p rfl rfl rfl ?_
  refine lg_ia 4 rfl rfl (by omega) hl rfl ?_
  refine lg_l rfl rfl rfl ?_
  refine lg_l rfl rfl rfl ?_
  refine lg_p rfl rfl rfl ?_
  refine lg_p rfl rfl rfl ?_
  refine lg_ia 5 rfl rfl (by omega) hl rfl ?_
  refine lg_A (p_move hR _ _ _ _ _) rfl rfl rfl (fun v X1 Z1 h2 => ?_)
  refine lg_p rfl rfl rfl ?_
  refine lg_l rfl rfl rfl ?_
  refine lg_l rfl rfl rfl ?_
  refine lg_l rfl rfl rfl ?_
  refine lg_p rfl rfl rfl ?_
  refine lg_p rfl rfl rfl ?_
  refine lg_ia 1 rfl rfl (by omega) hl rfl ?_
  refine lg_l rfl rfl rfl ?_
  refine lg_l rfl rfl rfl ?_
  refine lg_p rfl rfl rfl ?_
  refine lg_p rfl rfl rfl ?_
  refine lg_ia 2 rfl rfl (by omega) hl rfl ?_
  refine lg_l rfl rfl rfl ?_
  refine lg_l rfl rfl rfl ?_
  refine lg_p rfl rfl rfl ?_
  refine lg_p rfl rfl rfl ?_
  refine lg_ia 3 rfl rfl (by omega) hl rfl ?_
  refine lg_l rfl rfl rfl ?_
  refine lg_l rfl rfl rfl ?_
  refine lg_p rfl rfl rfl ?_
  refine lg_p rfl rfl rfl ?_
  refine lg_ia 4 rfl rfl (by omega) hl rfl ?_
  refine lg_l rfl rfl rfl ?_
  refine lg_l rfl rfl rfl ?_
  refine lg_p rfl rfl rfl ?_
  refine lg_p rfl rfl rfl ?_
  refine lg_ia 5 rfl rfl (by omega) hl rfl ?_
  refine lg_B h2 rfl rfl rfl (fun v2 X2 Z2 h3 h4 => ?_)
  refine lg_p rfl rfl rfl ?_
  exact lg_g rfl rfl (k X2 Z2 h3)
set_option maxRecDepth 100000 in
theorem lx_c28 (hR : Rel X) (hn : n + 6 ≤ xs.length) (hl : xs.length ≤ 4000) (k : ∀ X2 Z2, Rel X2 → LG xs 1260 (Lk n) [] (Wd X2 Z2) P) : LG xs 1106 (Lk n) [] (Wd X Z) P := by
  refine lg_l rfl rfl rfl ?_
  refine lg_l rfl rfl rfl ?_
  refine lg_l rfl rfl rfl ?_
  refine lg_p rfl rfl rfl ?_
  refine lg_p rfl rfl rfl ?_
  refine lg_ia 1 rfl rfl (by omega) hl rfl ?_
  refine lg_A (p_screws hR _) rfl rfl rfl (fun v X1 Z1 h2 => ?_)
  refine lg_p rfl rfl rfl ?_
  refine lg_l rfl rfl rfl ?_
  refine lg_l rfl rfl rfl ?_
  refine lg_l rfl rfl rfl ?_
  refine lg_p rfl rfl rfl ?_
  refine lg_p rfl rfl rfl ?_
  refine lg_ia 1 rfl rfl (by omega) hl rfl ?_
  refine lg_B h2 rfl rfl rfl (fun v2 X2 Z2 h3 h4 => ?_)
  refine lg_p rfl rfl rfl ?_
  exact lg_g rfl rfl (k X2 Z2 h3)
set_option maxRecDepth 100000 in
theorem lx_c29 (hR : Rel X) (hn : n + 6 ≤ xs.length) (hl : xs.length ≤ 4000) (k : ∀ X2 Z2, Rel X2 → LG xs 1260 (Lk n) [] (Wd X2 Z2) P) : LG xs 1129 (Lk n) [] (Wd X Z) P := by
  refine lg_l rfl rfl rfl ?_
  refine lg_l rfl rfl rfl ?_
  refine lg_l rfl rfl rfl ?_
  refine lg_p rfl rfl rfl ?_
  refine lg_p rfl rfl rfl ?_
  refine lg_ia 1 rfl rfl (by omega) hl rfl ?_
  refine lg_A (p_judge hR _) rfl rfl rfl (fun v X1 Z1 h2 => ?_)
  refine lg_p rfl rfl rfl ?_
  refine lg_l rfl rfl rfl ?_
  refine lg_l rfl rfl rfl ?_
  refine lg_l rfl rfl rfl ?_
  refine lg_p rfl rfl rfl ?_
  refine lg_p rfl rfl rfl ?_
  refine lg_ia 1 rfl rfl (by omega) hl rfl ?_
  refine lg_B h2 rfl rfl rfl (fun v2 X2 Z2 h3 h4 => ?_)
  refine lg_p rfl rfl rfl ?_
  exact lg_g rfl rfl (k X2 Z2 h3)
set_option maxRecDepth 100000 in
theorem lx_c30 (hR : Rel X) (hn : n + 6 ≤ xs.length) (hl : xs.length ≤ 4000) (k : ∀ X2 Z2, Rel X2 → LG xs 1260 (Lk n) [] (Wd X2 Z2) P) : LG xs 1152 (Lk n) [] (Wd X Z) P := by
  refine lg_l rfl rfl rfl ?_
  refine lg_A (p_image hR) rfl rfl rfl (fun v X1 Z1 h2 => ?_)
  refine lg_p rfl rfl rfl ?_
  refine lg_l rfl rfl rfl ?_
  refine lg_B h2 rfl rfl rfl (fun v2 X2 Z2 h3 h4 => ?_)
  refine lg_p rfl rfl rfl ?_
  exact lg_g rfl rfl (k X2 Z2 h3)
set_option maxRecDepth 100000 in
theorem lx_c31 (hR : Rel X) (hn : n + 6 ≤ xs.length) (hl : xs.length ≤ 4000) (k : ∀ X2 Z2, Rel X2 → LG xs 1260 (Lk n) [] (Wd X2 Z2) P) : LG xs 1165 (Lk n) [] (Wd X Z) P := by
  refine lg_l rfl rfl rfl ?_
  refine lg_A (p_restore hR) rfl rfl rfl (fun v X1 Z1 h2 => ?_)
  refine lg_p rfl rfl rfl ?_
  refine lg_l rfl rfl rfl ?_
  refine lg_B h2 rfl rfl rfl (fun v2 X2 Z2 h3 h4 => ?_)
  refine lg_p rfl rfl rfl ?_
  exact lg_g rfl rfl (k X2 Z2 h3)
set_option maxRecDepth 100000 in
theorem lx_c32 (hR : Rel X) (hn : n + 6 ≤ xs.length) (hl : xs.length ≤ 4000) (k : ∀ X2 Z2, Rel X2 → LG xs 1260 (Lk n) [] (Wd X2 Z2) P) : LG xs 1178 (Lk n) [] (Wd X Z) P := by
  refine lg_l rfl rfl rfl ?_
  refine lg_l rfl rfl rfl ?_
  refine lg_l rfl rfl rfl ?_
  refine lg_p rfl rfl rfl ?_
  refine lg_p rfl rfl rfl ?_
  refine lg_ia 1 rfl rfl (by omega) hl rfl ?_
  refine lg_A (p_tell hR _) rfl rfl rfl (fun v X1 Z1 h2 => ?_)
  refine lg_p rfl rfl rfl ?_
  refine lg_l rfl rfl rfl ?_
  refine lg_l rfl rfl rfl ?_
  refine lg_l rfl rfl rfl ?_
  refine lg_p rfl rfl rfl ?_
  refine lg_p rfl rfl rfl ?_
  refine lg_ia 1 rfl rfl (by omega) hl rfl ?_
  refine lg_B h2 rfl rfl rfl (fun v2 X2 Z2 h3 h4 => ?_)
  refine lg_p rfl rfl rfl ?_
  exact lg_g rfl rfl (k X2 Z2 h3)
set_option maxRecDepth 100000 in
theorem lx_c33 (hR : Rel X) (hn : n + 6 ≤ xs.length) (hl : xs.length ≤ 4000) (k : ∀ X2 Z2, Rel X2 → LG xs 1260 (Lk n) [] (Wd X2 Z2) P) : LG xs 1201 (Lk n) [] (Wd X Z) P := by
  refine lg_l rfl rfl rfl ?_
  refine lg_A (p_check hR) rfl rfl rfl (fun v X1 Z1 h2 => ?_)
  refine lg_p rfl rfl rfl ?_
  refine lg_l rfl rfl rfl ?_
  refine lg_B h2 rfl rfl rfl (fun v2 X2 Z2 h3 h4 => ?_)
  refine lg_p rfl rfl rfl ?_
  exact lg_g rfl rfl (k X2 Z2 h3)
set_option maxRecDepth 100000 in
theorem lx_c34 (hR : Rel X) (hn : n + 6 ≤ xs.length) (hl : xs.length ≤ 4000) (k : ∀ X2 Z2, Rel X2 → LG xs 1260 (Lk n) [] (Wd X2 Z2) P) : LG xs 1214 (Lk n) [] (Wd X Z) P := by
  refine lg_l rfl rfl rfl ?_
  refine lg_l rfl rfl rfl ?_
  refine lg_l rfl rfl rfl ?_
  refine lg_p rfl rfl rfl ?_
  refine lg_p rfl rfl rfl ?_
  refine lg_ia 1 rfl rfl (by omega) hl rfl ?_
  refine lg_A (p_count hR _) rfl rfl rfl (fun v X1 Z1 h2 => ?_)
  refine lg_l rfl rfl rfl ?_
  refine lg_l rfl rfl rfl ?_
  refine lg_l rfl rfl rfl ?_
  refine lg_p rfl rfl rfl ?_
  refine lg_p rfl rfl rfl ?_
  refine lg_ia 1 rfl rfl (by omega) hl rfl ?_
  refine lg_B h2 rfl rfl rfl (fun v2 X2 Z2 h3 h4 => ?_)
  exact lg_eqT rfl (h4 rfl) rfl (k X2 Z2 h3)
set_option maxRecDepth 100000 in
theorem lx_c35 (hR : Rel X) (hn : n + 6 ≤ xs.length) (hl : xs.length ≤ 4000) (k : ∀ X2 Z2, Rel X2 → LG xs 1260 (Lk n) [] (Wd X2 Z2) P) : LG xs 1237 (Lk n) [] (Wd X Z) P := by
  refine lg_l rfl rfl rfl ?_
  refine lg_l rfl rfl rfl ?_
  refine lg_l rfl rfl rfl ?_
  refine lg_p rfl rfl rfl ?_
  refine lg_p rfl rfl rfl ?_
  refine lg_ia 1 rfl rfl (by omega) hl rfl ?_
  refine lg_A (p_told hR _) rfl rfl rfl (fun v X1 Z1 h2 => ?_)
  refine lg_p rfl rfl rfl ?_
  refine lg_l rfl rfl rfl ?_
  refine lg_l rfl rfl rfl ?_
  refine lg_l rfl rfl rfl ?_
  refine lg_p rfl rfl rfl ?_
  refine lg_p rfl rfl rfl ?_
  refine lg_ia 1 rfl rfl (by omega) hl rfl ?_
  refine lg_B h2 rfl rfl rfl (fun v2 X2 Z2 h3 h4 => ?_)
  refine lg_p rfl rfl rfl ?_
  exact lg_g rfl rfl (k X2 Z2 h3)
set_option maxRecDepth 100000 in
theorem lx_end {w : ab_W} : LG xs 1266 (Lk n) [] w P1 := by
  refine lg_p rfl rfl rfl ?_
  exact lg_ret rfl rfl ⟨w, rfl⟩
set_option maxRecDepth 100000 in
theorem lx_nx {w : ab_W} (k : LG xs 18 (Lk (n + 6)) [] w P) : LG xs 1260 (Lk n) [] w P := by
  refine lg_l rfl rfl rfl ?_
  refine lg_g rfl rfl (lg_L ?_ k)
  show [(3, Value.int (nI n + nI 6)), (2, .ref 63), (1, .ref 0), (0, .ref 1000001)] = [(3, Value.int (nI (n + 6))), (2, .ref 63), (1, .ref 0), (0, .ref 1000001)]
  rw [nI_add]
def lx_ts : List Nat := [192, 235, 268, 311, 344, 377, 410, 473, 496, 549, 572, 595, 618, 641, 664, 687, 710, 743, 756, 789, 802, 835, 868, 891, 934, 957, 1000, 1043, 1106, 1129, 1152, 1165, 1178, 1201, 1214, 1237]
set_option maxRecDepth 100000 in
theorem lx_cs (hR : Rel X) (hn : n + 6 ≤ xs.length) (hl : xs.length ≤ 4000) (k : ∀ X2 Z2, Rel X2 → LG xs 1260 (Lk n) [] (Wd X2 Z2) P) : ∀ t ∈ lx_ts, LG xs t (Lk n) [] (Wd X Z) P := by
  intro t ht
  simp only [lx_ts, List.mem_cons, List.not_mem_nil, or_false] at ht
  rcases ht with rfl | rfl | rfl | rfl | rfl | rfl | rfl | rfl | rfl | rfl | rfl | rfl | rfl | rfl | rfl | rfl | rfl | rfl | rfl | rfl | rfl | rfl | rfl | rfl | rfl | rfl | rfl | rfl | rfl | rfl | rfl | rfl | rfl | rfl | rfl | rfl
  · exact lx_c0 hR hn hl k
  · exact lx_c1 hR hn hl k
  · exact lx_c2 hR hn hl k
  · exact lx_c3 hR hn hl k
  · exact lx_c4 hR hn hl k
  · exact lx_c5 hR hn hl k
  · exact lx_c6 hR hn hl k
  · exact lx_c7 hR hn hl k
  · exact lx_c8 hR hn hl k
  · exact lx_c9 hR hn hl k
  · exact lx_c10 hR hn hl k
  · exact lx_c11 hR hn hl k
  · exact lx_c12 hR hn hl k
  · exact lx_c13 hR hn hl k
  · exact lx_c14 hR hn hl k
  · exact lx_c15 hR hn hl k
  · exact lx_c16 hR hn hl k
  · exact lx_c17 hR hn hl k
  · exact lx_c18 hR hn hl k
  · exact lx_c19 hR hn hl k
  · exact lx_c20 hR hn hl k
  · exact lx_c21 hR hn hl k
  · exact lx_c22 hR hn hl k
  · exact lx_c23 hR hn hl k
  · exact lx_c24 hR hn hl k
  · exact lx_c25 hR hn hl k
  · exact lx_c26 hR hn hl k
  · exact lx_c27 hR hn hl k
  · exact lx_c28 hR hn hl k
  · exact lx_c29 hR hn hl k
  · exact lx_c30 hR hn hl k
  · exact lx_c31 hR hn hl k
  · exact lx_c32 hR hn hl k
  · exact lx_c33 hR hn hl k
  · exact lx_c34 hR hn hl k
  · exact lx_c35 hR hn hl k
set_option maxRecDepth 100000 in
theorem lx_loop (hl : xs.length ≤ 4000) : ∀ (m n : Nat) (X Z : Nat → Nat → Int32), xs.length ≤ n + m → n ≤ 4000 → Rel X → LG xs 18 (Lk n) [] (Wd X Z) P1
  | 0, n, X, Z, h1, h2, _ => by
    refine lg_l rfl rfl rfl ?_
    refine lg_l rfl rfl rfl ?_
    refine lg_al rfl rfl ?_
    refine lg_bi (nI 6) rfl (by decide +kernel) rfl ?_
    refine lg_p rfl rfl rfl ?_
    refine lg_gt rfl hl h2 rfl rfl (fun _ => lx_end) (fun hn => ?_)
    exact absurd h1 (by omega)
  | m + 1, n, X, Z, h1, h2, hR => by
    refine lg_l rfl rfl rfl ?_
    refine lg_l rfl rfl rfl ?_
    refine lg_al rfl rfl ?_
    refine lg_bi (nI 6) rfl (by decide +kernel) rfl ?_
    refine lg_p rfl rfl rfl ?_
    refine lg_gt rfl hl h2 rfl rfl (fun _ => lx_end) (fun hn => ?_)
    refine lg_l rfl rfl rfl ?_
    refine lg_l rfl rfl rfl ?_
    refine lg_ia 0 rfl (nI_add n 0).symm (by omega) hl rfl ?_
    refine lg_bi (nI 63) rfl (by decide +kernel) rfl ?_
    refine lg_p rfl rfl rfl ?_
    have k : ∀ X2 Z2, Rel X2 → LG xs 1260 (Lk n) [] (Wd X2 Z2) P1 := fun X2 Z2 h => lx_nx (lx_loop hl m (n + 6) X2 Z2 (by omega) (by omega) h)
    exact lg_ts lx_ts rfl (pd := 1260) rfl (by decide +kernel) rfl (k X Z hR) (lx_cs hR hn hl k)
end LAW
end
section
/-! THE WORLD behind the two constructors, by program (wip/gen/world.py) -/
def lx_above : List Int32 := [0, 0, 0, 0, 1, 2, 3]
def lx_d : Nat := 200
def lx_w1 : ab_W := [.inl (11, [.ref 1, .ref 9, .ref 22, .ref 35, .int 0, .ref 48, .ref 51, .ref 53, .ref 54, .ref 59, .ref 60, .ref 61, .ref 62]),
  .inr (.inr (0, [some 2, some 3, some 4, some 5, some 6, some 7, some 8])),
  .inl (0, []),
  .inl (1, []),
  .inl (2, []),
  .inl (3, []),
  .inl (4, []),
  .inl (5, []),
  .inl (6, []),
  .inl (7, [.ref 1, .int 0, .ref 10, .ref 11, .ref 12, .ref 13, .int 0, .int 0, .int 1, .int 50, .int 0, .ref 14, .ref 17, .ref 20, .int 0, .ref 21, .int 0, .int 1]),
  .inr (.inl (List.replicate 8 0)),
  .inr (.inl (List.replicate 8 0)),
  .inr (.inl (List.replicate 8 0)),
  .inr (.inl (List.replicate 8 0)),
  .inl (8, [.ref 15, .ref 16, .int 0]),
  .inr (.inl (List.replicate 50 0)),
  .inr (.inl (List.replicate 50 0)),
  .inl (8, [.ref 18, .ref 19, .int 0]),
  .inr (.inl (List.replicate 50 0)),
  .inr (.inl (List.replicate 50 0)),
  .inr (.inl (List.replicate 50 0)),
  .inr (.inl (List.replicate 20 0)),
  .inl (7, [.ref 1, .int 0, .ref 23, .ref 24, .ref 25, .ref 26, .int 0, .int 0, .int 1, .int 50, .int 0, .ref 27, .ref 30, .ref 33, .int 0, .ref 34, .int 0, .int 1]),
  .inr (.inl (List.replicate 8 0)),
  .inr (.inl (List.replicate 8 0)),
  .inr (.inl (List.replicate 8 0)),
  .inr (.inl (List.replicate 8 0)),
  .inl (8, [.ref 28, .ref 29, .int 0]),
  .inr (.inl (List.replicate 50 0)),
  .inr (.inl (List.replicate 50 0)),
  .inl (8, [.ref 31, .ref 32, .int 0]),
  .inr (.inl (List.replicate 50 0)),
  .inr (.inl (List.replicate 50 0)),
  .inr (.inl (List.replicate 50 0)),
  .inr (.inl (List.replicate 20 0)),
  .inl (7, [.ref 1, .int 0, .ref 36, .ref 37, .ref 38, .ref 39, .int 0, .int 0, .int 1, .int 50, .int 0, .ref 40, .ref 43, .ref 46, .int 0, .ref 47, .int 0, .int 1]),
  .inr (.inl (List.replicate 8 0)),
  .inr (.inl (List.replicate 8 0)),
  .inr (.inl (List.replicate 8 0)),
  .inr (.inl (List.replicate 8 0)),
  .inl (8, [.ref 41, .ref 42, .int 0]),
  .inr (.inl (List.replicate 50 0)),
  .inr (.inl (List.replicate 50 0)),
  .inl (8, [.ref 44, .ref 45, .int 0]),
  .inr (.inl (List.replicate 50 0)),
  .inr (.inl (List.replicate 50 0)),
  .inr (.inl (List.replicate 50 0)),
  .inr (.inl (List.replicate 20 0)),
  .inl (9, [.ref 49, .int 0, .ref 1000100, .int 0, .int 0, .ref 50, .int 0]),
  .inr (.inl []),
  .inr (.inl (List.replicate 50 0)),
  .inl (10, [.ref 52, .int 0, .int 0, .int 0]),
  .inr (.inl (List.replicate 40 0)),
  .inr (.inl [0, 0, 0, 0, 0, 0]),
  .inr (.inr (1, [some 55, some 56, some 57, some 58])),
  .inr (.inl (List.replicate 40 0)),
  .inr (.inl (List.replicate 40 0)),
  .inr (.inl (List.replicate 40 0)),
  .inr (.inl (List.replicate 40 0)),
  .inr (.inl [0, 0, 0, 0]),
  .inr (.inl [0, 0, 0, 0]),
  .inr (.inl [0, 0, 0, 0, 0]),
  .inr (.inl [0, 0, 0, 0, 0])]
def lx_w2 : ab_W := [.inl (11, [.ref 1, .ref 9, .ref 22, .ref 35, .int 0, .ref 48, .ref 51, .ref 53, .ref 54, .ref 59, .ref 60, .ref 61, .ref 62]),
  .inr (.inr (0, [some 2, some 3, some 4, some 5, some 6, some 7, some 8])),
  .inl (0, []),
  .inl (1, []),
  .inl (2, []),
  .inl (3, []),
  .inl (4, []),
  .inl (5, []),
  .inl (6, []),
  .inl (7, [.ref 1, .int 0, .ref 10, .ref 11, .ref 12, .ref 13, .int 0, .int 0, .int 1, .int 50, .int 0, .ref 14, .ref 17, .ref 20, .int 0, .ref 21, .int 0, .int 1]),
  .inr (.inl (List.replicate 8 0)),
  .inr (.inl (List.replicate 8 0)),
  .inr (.inl (List.replicate 8 0)),
  .inr (.inl (List.replicate 8 0)),
  .inl (8, [.ref 15, .ref 16, .int 0]),
  .inr (.inl (List.replicate 50 0)),
  .inr (.inl (List.replicate 50 0)),
  .inl (8, [.ref 18, .ref 19, .int 0]),
  .inr (.inl (List.replicate 50 0)),
  .inr (.inl (List.replicate 50 0)),
  .inr (.inl (List.replicate 50 0)),
  .inr (.inl (List.replicate 20 0)),
  .inl (7, [.ref 1, .int 0, .ref 23, .ref 24, .ref 25, .ref 26, .int 0, .int 0, .int 1, .int 50, .int 0, .ref 27, .ref 30, .ref 33, .int 0, .ref 34, .int 0, .int 1]),
  .inr (.inl (List.replicate 8 0)),
  .inr (.inl (List.replicate 8 0)),
  .inr (.inl (List.replicate 8 0)),
  .inr (.inl (List.replicate 8 0)),
  .inl (8, [.ref 28, .ref 29, .int 0]),
  .inr (.inl (List.replicate 50 0)),
  .inr (.inl (List.replicate 50 0)),
  .inl (8, [.ref 31, .ref 32, .int 0]),
  .inr (.inl (List.replicate 50 0)),
  .inr (.inl (List.replicate 50 0)),
  .inr (.inl (List.replicate 50 0)),
  .inr (.inl (List.replicate 20 0)),
  .inl (7, [.ref 1, .int 0, .ref 36, .ref 37, .ref 38, .ref 39, .int 0, .int 0, .int 1, .int 50, .int 0, .ref 40, .ref 43, .ref 46, .int 0, .ref 47, .int 0, .int 1]),
  .inr (.inl (List.replicate 8 0)),
  .inr (.inl (List.replicate 8 0)),
  .inr (.inl (List.replicate 8 0)),
  .inr (.inl (List.replicate 8 0)),
  .inl (8, [.ref 41, .ref 42, .int 0]),
  .inr (.inl (List.replicate 50 0)),
  .inr (.inl (List.replicate 50 0)),
  .inl (8, [.ref 44, .ref 45, .int 0]),
  .inr (.inl (List.replicate 50 0)),
  .inr (.inl (List.replicate 50 0)),
  .inr (.inl (List.replicate 50 0)),
  .inr (.inl (List.replicate 20 0)),
  .inl (9, [.ref 49, .int 0, .ref 1000100, .int 0, .int 0, .ref 50, .int 0]),
  .inr (.inl []),
  .inr (.inl (List.replicate 50 0)),
  .inl (10, [.ref 52, .int 0, .int 0, .int 0]),
  .inr (.inl (List.replicate 40 0)),
  .inr (.inl [0, 0, 0, 0, 0, 0]),
  .inr (.inr (1, [some 55, some 56, some 57, some 58])),
  .inr (.inl (List.replicate 40 0)),
  .inr (.inl (List.replicate 40 0)),
  .inr (.inl (List.replicate 40 0)),
  .inr (.inl (List.replicate 40 0)),
  .inr (.inl [0, 0, 0, 0]),
  .inr (.inl [0, 0, 0, 0]),
  .inr (.inl [0, 0, 0, 0, 0]),
  .inr (.inl [0, 0, 0, 0, 0]),
  .inl (12, [.ref 64, .ref 65, .ref 66, .int 0, .ref 67, .ref 68, .ref 69, .ref 70, .ref 71, .int 0, .int 0, .int 0, .int 0, .int 0, .ref 72, .ref 73, .int 0, .ref 74, .int 0, .int 0, .ref 75, .int 0, .ref 76, .ref 77, .ref 78]),
  .inr (.inl (0 :: 1 :: 0 :: 1 :: 50 :: List.replicate 322 0)),
  .inr (.inl (List.replicate 327 0)),
  .inr (.inl (List.replicate 327 0)),
  .inr (.inl [0, 0, 0, 0, 0, 0]),
  .inr (.inl (List.replicate 50 0)),
  .inr (.inl (List.replicate 50 0)),
  .inr (.inl [0, 0, 0]),
  .inr (.inl (List.replicate 50 0)),
  .inr (.inl [0, 0, 0, 0, 0]),
  .inr (.inl [0, 0, 0, 0, 0]),
  .inr (.inl (List.replicate 625 0)),
  .inr (.inl (List.replicate 40 0)),
  .inr (.inl [0, 0, 0, 0]),
  .inr (.inl [0, 0, 0, 0]),
  .inr (.inl (List.replicate 160 0))]
def ab_eqc (a b : ab_C) : Bool := match a, b with
  | .inl o, .inl p => decide (o = p)
  | .inr (.inl x), .inr (.inl y) => decide (x = y)
  | .inr (.inr t), .inr (.inr u) => decide (t = u)
  | _, _ => false
theorem ab_eqc_of {a b : ab_C} (h : ab_eqc a b = true) : a = b := by
  unfold ab_eqc at h
  split at h
  · rw [of_decide_eq_true h]
  · rw [of_decide_eq_true h]
  · rw [of_decide_eq_true h]
  · cases h
def ab_eqw : ab_W → ab_W → Bool
  | [], [] => true
  | a :: l, b :: m => ab_eqc a b && ab_eqw l m
  | _, _ => false
theorem ab_eqw_of : ∀ {l m : ab_W}, ab_eqw l m = true → l = m
  | [], [], _ => rfl
  | a :: l, b :: m, h => by
    simp only [ab_eqw, Bool.and_eq_true] at h
    rw [ab_eqc_of h.1, ab_eqw_of h.2]
  | [], _ :: _, h => by cases h
  | _ :: _, [], h => by cases h
def ab_eqr (x : Option ab_R) (v : Option Value) (w : ab_W) : Bool := match x with
  | some r => decide (r.1 = v) && ab_eqw r.2 w
  | none => false
theorem ab_eqr_of {x : Option ab_R} {v : Option Value} {w : ab_W} (h : ab_eqr x v w = true) : x = some (v, w) := by
  unfold ab_eqr at h
  split at h
  · rename_i r
    rw [Bool.and_eq_true] at h
    rw [← ab_eqw_of h.2, ← of_decide_eq_true h.1]
  · cases h
theorem ab_new_mk {tb : ab_TB} {M : ab_M} {lk i cn sn : Nat} {L : ab_Lo} {st : List Value} {w : ab_W} {q : ab_N} {fs : List Value} (h1 : ab_nth tb.2.2.2.1 lk = some q) (h2 : ab_nth tb.2.2.2.2.2.2 q.2.2.1 = some fs) (h3 : (ab_wf L st w && Nat.ble (cn + 1) M.2.2.2.2.1 && Nat.ble (sn + fs.length) M.2.2.2.2.2.1) = true) : ab_new tb M (.new i) lk L st w cn sn = some (.ref w.length :: st, w ++ [.inl (q.2.2.1, fs)], cn + 1, sn + fs.length) := by
  simp only [ab_new, h1, h2, h3, cond_true]
set_option maxRecDepth 100000 in
theorem lx_i1 : ab_call tb [lx_above] 3000 20 73 [.ref 0] [.inl (11, [.null, .null, .null, .null, .int 0, .null, .null, .null, .null, .null, .null, .null, .null])] = some (none, lx_w1) := ab_eqr_of (by decide +kernel)
set_option maxRecDepth 100000 in
theorem lx_i2 : ab_call tb [lx_above] 3000 20 125 [.ref 63] (lx_w1 ++ [.inl (12, [.null, .null, .null, .int 0, .null, .null, .null, .null, .null, .int 0, .int 0, .int 0, .int 0, .int 0, .null, .null, .int 0, .null, .int 0, .int 0, .null, .int 0, .null, .null, .null])]) = some (none, lx_w2) := ab_eqr_of (by decide +kernel)
def lx_L : ab_Lo := [(3, .int 0), (2, .ref 63), (1, .ref 0), (0, .ref (ab_B + 1))]
set_option maxRecDepth 100000 in
set_option maxHeartbeats 4000000 in
theorem lx_pre {xs : List Int32} {r : ab_R} (k : ev_Run tb [lx_above] [lx_above, xs] lx_d tb_mL (18, lx_L, [], lx_w2, 79, 3295) r) : ev_Run tb [lx_above] [lx_above, xs] lx_d tb_mL (0, [(0, .ref (ab_B + 1))], [], [], 0, 0) r := by
  refine ev_new rfl rfl ?_
  refine ev_pure rfl rfl ?_
  refine ev_call rfl (fun _ => rfl) (ev_closed lx_i1 (by decide)) ?_
  refine ev_loc rfl rfl ?_
  refine ev_new rfl (ab_new_mk rfl rfl (by decide +kernel)) ?_
  refine ev_pure rfl rfl ?_
  refine ev_call rfl (fun _ => rfl) (ev_closed lx_i2 (by decide)) ?_
  refine ev_loc rfl rfl ?_
  refine ev_pure rfl rfl ?_
  refine ev_loc rfl rfl ?_
  exact k
/-! what holds between both objects there -/
def B0 (k : Nat) : Int32 := if k = 8 then nI 1 else if k = 9 then nI 50 else if k = 17 then nI 1 else nI 0
def R0 (k : Nat) : Int32 := if k = 1 then nI 1 else if k = 3 then nI 1 else if k = 4 then nI 50 else nI 0
def X0 (c k : Nat) : Int32 := if c = 9 then B0 k else if c = 22 then B0 k else if c = 35 then B0 k else if c = 64 then R0 k else nI 0
def Z0 (c k : Nat) : Int32 := if c = 48 then (if k = 0 then nI 49 else if k = 2 then nI 1000100 else nI 0) else nI 0
def J0 (i k : Nat) : Int32 := match i with
  | 0 => if okF k = true then B0 k else nI 0
  | _ => nI 0
theorem X0_ne {c : Nat} (h1 : c ≠ 9) (h2 : c ≠ 22) (h3 : c ≠ 35) (h4 : c ≠ 64) : X0 c = fun _ => nI 0 := by
  funext k
  unfold X0
  rw [if_neg h1, if_neg h2, if_neg h3, if_neg h4]
theorem R0_hi {k : Nat} (h : 5 ≤ k) : R0 k = nI 0 := by
  unfold R0
  rw [if_neg (by omega), if_neg (by omega), if_neg (by omega)]
theorem nN_0 : nN (nI 0) = 0 := nN_nI (by omega)
theorem X0_j9 : jx X0 9 = J0 := by
  funext i k
  match i with
  | 0 => exact (rfl : (if okF k = true then X0 9 k else 0) = if okF k = true then B0 k else nI 0)
  | 1 => exact (ite_self (nI 0) : (if k < 8 then nI 0 else nI 0) = nI 0)
  | 2 => exact (ite_self (nI 0) : (if k < 8 then nI 0 else nI 0) = nI 0)
  | 3 => exact (ite_self (nI 0) : (if k < 8 then nI 0 else nI 0) = nI 0)
  | 4 => exact (ite_self (nI 0) : (if k < 8 then nI 0 else nI 0) = nI 0)
  | 5 => exact (ite_self (nI 0) : (if k = 0 then nI 0 else nI 0) = nI 0)
  | 6 => exact (ite_self (nI 0) : (if k < nN (nI 0) then nI 0 else nI 0) = nI 0)
  | 7 => exact (ite_self (nI 0) : (if k = 0 then nI 0 else nI 0) = nI 0)
  | 8 => exact (ite_self (nI 0) : (if k < nN (nI 0) then nI 0 else nI 0) = nI 0)
  | 9 => exact (ite_self (nI 0) : (if k < 50 then nI 0 else nI 0) = nI 0)
  | 10 => exact (ite_self (nI 0) : (if k < 20 then nI 0 else nI 0) = nI 0)
  | i + 11 => rfl
theorem X0_j22 : jx X0 22 = J0 := by
  funext i k
  match i with
  | 0 => exact (rfl : (if okF k = true then X0 22 k else 0) = if okF k = true then B0 k else nI 0)
  | 1 => exact (ite_self (nI 0) : (if k < 8 then nI 0 else nI 0) = nI 0)
  | 2 => exact (ite_self (nI 0) : (if k < 8 then nI 0 else nI 0) = nI 0)
  | 3 => exact (ite_self (nI 0) : (if k < 8 then nI 0 else nI 0) = nI 0)
  | 4 => exact (ite_self (nI 0) : (if k < 8 then nI 0 else nI 0) = nI 0)
  | 5 => exact (ite_self (nI 0) : (if k = 0 then nI 0 else nI 0) = nI 0)
  | 6 => exact (ite_self (nI 0) : (if k < nN (nI 0) then nI 0 else nI 0) = nI 0)
  | 7 => exact (ite_self (nI 0) : (if k = 0 then nI 0 else nI 0) = nI 0)
  | 8 => exact (ite_self (nI 0) : (if k < nN (nI 0) then nI 0 else nI 0) = nI 0)
  | 9 => exact (ite_self (nI 0) : (if k < 50 then nI 0 else nI 0) = nI 0)
  | 10 => exact (ite_self (nI 0) : (if k < 20 then nI 0 else nI 0) = nI 0)
  | i + 11 => rfl
theorem R0_if {c : Prop} [Decidable c] {v : Int32} (h : v = nI 0) : (if c then v else 0) = nI 0 := by
  rw [h]
  exact (ite_self (nI 0) : (if c then nI 0 else nI 0) = nI 0)
theorem cM_0 : cM (nI 0) (nI 0) = nI 0 := by decide +kernel
theorem cM_R0 {p q : Nat} (hp : 5 ≤ p) (hq : 5 ≤ q) : cM (R0 p) (R0 q) = nI 0 := by
  rw [R0_hi hp, R0_hi hq]
  exact cM_0
theorem R0_jm : jm R0 = J0 := by
  funext i k
  match i with
  | 0 =>
    match k with
    | 0 => rfl
    | 1 => rfl
    | 2 => rfl
    | 3 => rfl
    | 4 => rfl
    | 5 => rfl
    | 6 =>
      show rB R0 11 (nN (nI 0)) = nI 0
      rw [nN_0]
      rfl
    | 7 =>
      show rB R0 12 (nN (nI 0)) = nI 0
      rw [nN_0]
      rfl
    | 8 => rfl
    | 9 => rfl
    | 10 => rfl
    | 11 => rfl
    | 12 => rfl
    | 13 => rfl
    | 14 => rfl
    | 15 => rfl
    | 16 => rfl
    | 17 => rfl
    | k + 18 => rfl
  | 1 => exact R0_if (R0_hi (by omega))
  | 2 => exact R0_if (R0_hi (by omega))
  | 3 => exact R0_if (R0_hi (by omega))
  | 4 => exact R0_if (R0_hi (by omega))
  | 5 => exact R0_if (R0_hi (by omega))
  | 6 => exact R0_if (c := k < nN (R0 125)) (cM_R0 (show 5 ≤ 126 + k by omega) (show 5 ≤ 176 + k by omega))
  | 7 => exact R0_if (R0_hi (by omega))
  | 8 => exact R0_if (c := k < nN (R0 226)) (cM_R0 (show 5 ≤ 227 + k by omega) (show 5 ≤ 277 + k by omega))
  | 9 => exact R0_if (R0_hi (by omega))
  | 10 => exact R0_if (R0_hi (by omega))
  | i + 11 => rfl
theorem wfC_0 {f : Nat → Int32} : wfC f (nN (nI 0)) := by
  rw [nN_0]
  exact ⟨by omega, fun h => absurd h (by omega), fun i h => absurd h (by omega)⟩
theorem J0_ij : IJ 99999 J0 :=
  ⟨isN.of (n := 0) (by omega) (by omega), fun _ => isN.of (n := 0) (by omega) (by omega), fun _ => isN.of (n := 0) (by omega) (by omega), fun _ => isN.of (n := 0) (by omega) (by omega), fun _ i h => absurd ((bt_0 i).symm.trans h) (by decide), fun i h => absurd ((bt_0 i).symm.trans h) (by decide), fun i h => absurd ((bt_0 i).symm.trans h) (by decide), Or.inl rfl, isN.of (n := 50) (by omega) (by omega), isN.of (n := 0) (by omega) (by omega), ⟨isN.of (n := 0) (by omega) (by omega), wfC_0⟩, ⟨isN.of (n := 0) (by omega) (by omega), wfC_0⟩, isN.of (n := 0) (by omega) (by omega), isN.of (n := 0) (by omega) (by omega), fun _ => isN.of (n := 0) (by omega) (by omega)⟩
theorem tOK_0 {p : Nat} (h : 5 ≤ p) : tOK R0 p := by
  intro k hk
  rw [R0_hi h, nN_0] at hk
  exact absurd hk (by omega)
theorem R0_rk : RK 99999 R0 := ⟨by rw [R0_jm]; exact J0_ij, fun i _ => ⟨Or.inl (R0_hi (by omega)), Or.inl (R0_hi (by omega))⟩, tOK_0 (by omega), tOK_0 (by omega)⟩
theorem X0_rel : Rel X0 := by
  refine ⟨R0_rk, ?_, ?_, Or.inl rfl, rfl, ⟨0, by omega, rfl, rfl, fun k hk => absurd hk (by omega)⟩, fun a ha => ?_⟩
  · rw [X0_j9]
    exact R0_jm.symm
  · rw [X0_j22]
    exact J0_ij
  · unfold SR
    rw [X0_ne (c := 60) (by omega) (by omega) (by omega) (by omega), X0_ne (c := 76) (by omega) (by omega) (by omega) (by omega), X0_ne (c := 59) (by omega) (by omega) (by omega) (by omega), X0_ne (c := 77) (by omega) (by omega) (by omega) (by omega), X0_ne (c := 55 + a) (by omega) (by omega) (by omega) (by omega), X0_ne (c := 78) (by omega) (by omega) (by omega) (by omega)]
    exact ⟨(by decide +kernel : sBits (nI 0) = true), rfl, ⟨0, by omega, rfl, rfl⟩, fun _ _ => ⟨(by decide +kernel : nI 0 = sLow (nI 0) (nI 0)), (by decide +kernel : nI 0 = yLow (nI 0) (nI 0))⟩⟩
set_option maxRecDepth 100000 in
theorem lx_w2_eq : lx_w2 = Wd X0 Z0 := ab_eqw_of (by decide +kernel)
/-- the abstract machine answers true on every script -/
def lx_true (xs : List Int32) : Prop := ∃ w : ab_W, ev_Run tb [lx_above] [lx_above, xs] lx_d tb_mL (0, [(0, .ref (ab_B + 1))], [], [], 0, 0) (some (.int 1), w)
theorem lx_all (xs : List Int32) (h : xs.length ≤ 3072) : lx_true xs := by
  obtain ⟨r, h1, w, rfl⟩ := lx_loop (xs := xs) (by omega) xs.length 0 X0 Z0 (by omega) (by omega) X0_rel
  refine ⟨w, lx_pre ?_⟩
  rw [lx_w2_eq]
  exact h1
end
