/-! THE LAW'S instructions decode; all that is asked of the tables (wip/gen/valid.py) -/
theorem ab_all1_cut {f : Nat → ab_I → Bool} : ∀ (k : Nat) {t : ab_T} {pc : Nat}, ab_all1 f (t.take k) pc = true → ab_all1 f (t.drop k) (pc + 16 * k) = true → ab_all1 f t pc = true
  | 0, t, pc, _, h => h
  | k + 1, [], pc, _, _ => rfl
  | k + 1, c :: t, pc, h1, h2 => by
    simp only [List.take_succ_cons, ab_all1, Bool.and_eq_true] at h1
    simp only [ab_all1, Bool.and_eq_true]
    refine ⟨h1.1, ab_all1_cut k h1.2 ?_⟩
    rw [show pc + 16 + 16 * k = pc + 16 * (k + 1) by omega]
    exact h2
theorem ab_all1_cutD {f : Nat → ab_I → Bool} {t : ab_T} (a k : Nat) (h1 : ab_all1 f ((t.drop a).take k) (16 * a) = true) (h2 : ab_all1 f (t.drop (a + k)) (16 * (a + k)) = true) : ab_all1 f (t.drop a) (16 * a) = true := by
  refine ab_all1_cut k h1 ?_
  rw [List.drop_drop, show 16 * a + 16 * k = 16 * (a + k) by omega]
  exact h2
set_option maxRecDepth 100000 in
theorem tb_eL0 : ab_all1 (ab_eOK tb lw_tw tb_mL) ((tb_tL.drop 0).take 6) (16 * 0) = true := by decide +kernel
set_option maxRecDepth 100000 in
theorem tb_eL6 : ab_all1 (ab_eOK tb lw_tw tb_mL) ((tb_tL.drop 6).take 6) (16 * 6) = true := by decide +kernel
set_option maxRecDepth 100000 in
theorem tb_eL12 : ab_all1 (ab_eOK tb lw_tw tb_mL) ((tb_tL.drop 12).take 6) (16 * 12) = true := by decide +kernel
set_option maxRecDepth 100000 in
theorem tb_eL18 : ab_all1 (ab_eOK tb lw_tw tb_mL) ((tb_tL.drop 18).take 6) (16 * 18) = true := by decide +kernel
set_option maxRecDepth 100000 in
theorem tb_eL24 : ab_all1 (ab_eOK tb lw_tw tb_mL) ((tb_tL.drop 24).take 6) (16 * 24) = true := by decide +kernel
set_option maxRecDepth 100000 in
theorem tb_eL30 : ab_all1 (ab_eOK tb lw_tw tb_mL) ((tb_tL.drop 30).take 6) (16 * 30) = true := by decide +kernel
set_option maxRecDepth 100000 in
theorem tb_eL36 : ab_all1 (ab_eOK tb lw_tw tb_mL) ((tb_tL.drop 36).take 6) (16 * 36) = true := by decide +kernel
set_option maxRecDepth 100000 in
theorem tb_eL42 : ab_all1 (ab_eOK tb lw_tw tb_mL) ((tb_tL.drop 42).take 6) (16 * 42) = true := by decide +kernel
set_option maxRecDepth 100000 in
theorem tb_eL48 : ab_all1 (ab_eOK tb lw_tw tb_mL) ((tb_tL.drop 48).take 6) (16 * 48) = true := by decide +kernel
set_option maxRecDepth 100000 in
theorem tb_eL54 : ab_all1 (ab_eOK tb lw_tw tb_mL) ((tb_tL.drop 54).take 6) (16 * 54) = true := by decide +kernel
set_option maxRecDepth 100000 in
theorem tb_eL60 : ab_all1 (ab_eOK tb lw_tw tb_mL) ((tb_tL.drop 60).take 6) (16 * 60) = true := by decide +kernel
set_option maxRecDepth 100000 in
theorem tb_eL66 : ab_all1 (ab_eOK tb lw_tw tb_mL) ((tb_tL.drop 66).take 6) (16 * 66) = true := by decide +kernel
set_option maxRecDepth 100000 in
theorem tb_eL72 : ab_all1 (ab_eOK tb lw_tw tb_mL) ((tb_tL.drop 72).take 6) (16 * 72) = true := by decide +kernel
set_option maxRecDepth 100000 in
theorem tb_eL78 : ab_all1 (ab_eOK tb lw_tw tb_mL) ((tb_tL.drop 78).take 6) (16 * 78) = true := by decide +kernel
theorem tb_eL : ab_all1 (ab_eOK tb lw_tw tb_mL) tb_tL 0 = true := by
  have h : ab_all1 (ab_eOK tb lw_tw tb_mL) (tb_tL.drop 0) (16 * 0) = true := by
    refine ab_all1_cutD 0 6 tb_eL0 ?_
    refine ab_all1_cutD 6 6 tb_eL6 ?_
    refine ab_all1_cutD 12 6 tb_eL12 ?_
    refine ab_all1_cutD 18 6 tb_eL18 ?_
    refine ab_all1_cutD 24 6 tb_eL24 ?_
    refine ab_all1_cutD 30 6 tb_eL30 ?_
    refine ab_all1_cutD 36 6 tb_eL36 ?_
    refine ab_all1_cutD 42 6 tb_eL42 ?_
    refine ab_all1_cutD 48 6 tb_eL48 ?_
    refine ab_all1_cutD 54 6 tb_eL54 ?_
    refine ab_all1_cutD 60 6 tb_eL60 ?_
    refine ab_all1_cutD 66 6 tb_eL66 ?_
    refine ab_all1_cutD 72 6 tb_eL72 ?_
    refine ab_all1_cutD 78 6 tb_eL78 ?_
    rw [List.drop_eq_nil_of_le (by decide +kernel)]
    rfl
  exact h
theorem tb_okE0 : ∀ M ∈ tb_M0, ab_all1 (ab_eOK tb lw_tw M) M.2.2.2.2.2.2.2 0 = true := fun M h => List.all_eq_true.mp tb_e0 M h
theorem tb_okE1 : ∀ M ∈ tb_M1, ab_all1 (ab_eOK tb lw_tw M) M.2.2.2.2.2.2.2 0 = true := fun M h => List.all_eq_true.mp tb_e1 M h
theorem tb_okE2 : ∀ M ∈ tb_M2, ab_all1 (ab_eOK tb lw_tw M) M.2.2.2.2.2.2.2 0 = true := fun M h => List.all_eq_true.mp tb_e2 M h
theorem tb_okE3 : ∀ M ∈ tb_M3, ab_all1 (ab_eOK tb lw_tw M) M.2.2.2.2.2.2.2 0 = true := fun M h => List.all_eq_true.mp tb_e3 M h
theorem tb_okE4 : ∀ M ∈ tb_M4, ab_all1 (ab_eOK tb lw_tw M) M.2.2.2.2.2.2.2 0 = true := fun M h => List.all_eq_true.mp tb_e4 M h
theorem tb_okE5 : ∀ M ∈ tb_M5, ab_all1 (ab_eOK tb lw_tw M) M.2.2.2.2.2.2.2 0 = true := fun M h => List.all_eq_true.mp tb_e5 M h
theorem tb_okE6 : ∀ M ∈ tb_M6, ab_all1 (ab_eOK tb lw_tw M) M.2.2.2.2.2.2.2 0 = true := fun M h => List.all_eq_true.mp tb_e6 M h
theorem tb_okE7 : ∀ M ∈ tb_M7, ab_all1 (ab_eOK tb lw_tw M) M.2.2.2.2.2.2.2 0 = true := fun M h => List.all_eq_true.mp tb_e7 M h
theorem tb_okE8 : ∀ M ∈ tb_M8, ab_all1 (ab_eOK tb lw_tw M) M.2.2.2.2.2.2.2 0 = true := fun M h => List.all_eq_true.mp tb_e8 M h
theorem tb_okE9 : ∀ M ∈ tb_M9, ab_all1 (ab_eOK tb lw_tw M) M.2.2.2.2.2.2.2 0 = true := fun M h => List.all_eq_true.mp tb_e9 M h
theorem tb_okE10 : ∀ M ∈ tb_M10, ab_all1 (ab_eOK tb lw_tw M) M.2.2.2.2.2.2.2 0 = true := fun M h => List.all_eq_true.mp tb_e10 M h
theorem tb_okE11 : ∀ M ∈ tb_M11, ab_all1 (ab_eOK tb lw_tw M) M.2.2.2.2.2.2.2 0 = true := fun M h => List.all_eq_true.mp tb_e11 M h
theorem tb_okE12 : ∀ M ∈ tb_M12, ab_all1 (ab_eOK tb lw_tw M) M.2.2.2.2.2.2.2 0 = true := fun M h => List.all_eq_true.mp tb_e12 M h
theorem tb_okE13 : ∀ M ∈ tb_M13, ab_all1 (ab_eOK tb lw_tw M) M.2.2.2.2.2.2.2 0 = true := fun M h => List.all_eq_true.mp tb_e13 M h
theorem tb_okE14 : ∀ M ∈ tb_M14, ab_all1 (ab_eOK tb lw_tw M) M.2.2.2.2.2.2.2 0 = true := fun M h => List.all_eq_true.mp tb_e14 M h
theorem tb_okE15 : ∀ M ∈ tb_M15, ab_all1 (ab_eOK tb lw_tw M) M.2.2.2.2.2.2.2 0 = true := fun M h => List.all_eq_true.mp tb_e15 M h
theorem tb_okE16 : ∀ M ∈ tb_M16, ab_all1 (ab_eOK tb lw_tw M) M.2.2.2.2.2.2.2 0 = true := fun M h => List.all_eq_true.mp tb_e16 M h
theorem tb_okE17 : ∀ M ∈ tb_M17, ab_all1 (ab_eOK tb lw_tw M) M.2.2.2.2.2.2.2 0 = true := fun M h => List.all_eq_true.mp tb_e17 M h
set_option maxRecDepth 100000 in
theorem tb_M_eq : tb_M = tb_M0 ++ (tb_M1 ++ (tb_M2 ++ (tb_M3 ++ (tb_M4 ++ (tb_M5 ++ (tb_M6 ++ (tb_M7 ++ (tb_M8 ++ (tb_M9 ++ (tb_M10 ++ (tb_M11 ++ (tb_M12 ++ (tb_M13 ++ (tb_M14 ++ (tb_M15 ++ (tb_M16 ++ (tb_M17))))))))))))))))) := rfl
theorem tb_okE : ∀ M ∈ tb_M, ab_all1 (ab_eOK tb lw_tw M) M.2.2.2.2.2.2.2 0 = true := by
  rw [tb_M_eq]
  exact List.forall_mem_append.mpr ⟨tb_okE0, List.forall_mem_append.mpr ⟨tb_okE1, List.forall_mem_append.mpr ⟨tb_okE2, List.forall_mem_append.mpr ⟨tb_okE3, List.forall_mem_append.mpr ⟨tb_okE4, List.forall_mem_append.mpr ⟨tb_okE5, List.forall_mem_append.mpr ⟨tb_okE6, List.forall_mem_append.mpr ⟨tb_okE7, List.forall_mem_append.mpr ⟨tb_okE8, List.forall_mem_append.mpr ⟨tb_okE9, List.forall_mem_append.mpr ⟨tb_okE10, List.forall_mem_append.mpr ⟨tb_okE11, List.forall_mem_append.mpr ⟨tb_okE12, List.forall_mem_append.mpr ⟨tb_okE13, List.forall_mem_append.mpr ⟨tb_okE14, List.forall_mem_append.mpr ⟨tb_okE15, List.forall_mem_append.mpr ⟨tb_okE16, tb_okE17⟩⟩⟩⟩⟩⟩⟩⟩⟩⟩⟩⟩⟩⟩⟩⟩⟩
set_option maxRecDepth 100000 in
theorem tb_v0 : ab_has lw_tw 3112 (Cond.native arraycopyName) = true := by decide +kernel
theorem tb_w0 : Cond.native arraycopyName ∈ lw_tbl := by
  rw [← lw_tw_eq]
  exact ab_has_mem tb_v0
set_option maxRecDepth 100000 in
theorem tb_v1 : ab_has lw_tw 3111 (Cond.static arraycopyName) = true := by decide +kernel
theorem tb_w1 : Cond.static arraycopyName ∈ lw_tbl := by
  rw [← lw_tw_eq]
  exact ab_has_mem tb_v1
set_option maxRecDepth 100000 in
theorem tb_v2 : ab_has lw_tw 1020 (Cond.initialized "java/lang/System") = true := by decide +kernel
theorem tb_w2 : Cond.initialized "java/lang/System" ∈ lw_tbl := by
  rw [← lw_tw_eq]
  exact ab_has_mem tb_v2
set_option maxRecDepth 100000 in
theorem tb_v3 : ab_has lw_tw 2106 (Cond.static Lib.Math.max.name) = true := by decide +kernel
theorem tb_w3 : Cond.static Lib.Math.max.name ∈ lw_tbl := by
  rw [← lw_tw_eq]
  exact ab_has_mem tb_v3
set_option maxRecDepth 100000 in
theorem tb_v4 : ab_has lw_tw 2085 (Cond.static Lib.Math.min.name) = true := by decide +kernel
theorem tb_w4 : Cond.static Lib.Math.min.name ∈ lw_tbl := by
  rw [← lw_tw_eq]
  exact ab_has_mem tb_v4
set_option maxRecDepth 100000 in
theorem tb_v5 : ab_has lw_tw 1014 (Cond.initialized "java/lang/Math") = true := by decide +kernel
theorem tb_w5 : Cond.initialized "java/lang/Math" ∈ lw_tbl := by
  rw [← lw_tw_eq]
  exact ab_has_mem tb_v5
set_option maxRecDepth 100000 in
theorem tb_v6 : ab_has lw_tw 2107 (Cond.code Lib.Math.max.name Lib.Math.max.code 2 (some .int)) = true := by decide +kernel
theorem tb_w6 : Cond.code Lib.Math.max.name Lib.Math.max.code 2 (some .int) ∈ lw_tbl := by
  rw [← lw_tw_eq]
  exact ab_has_mem tb_v6
set_option maxRecDepth 100000 in
theorem tb_v7 : ab_has lw_tw 2086 (Cond.code Lib.Math.min.name Lib.Math.min.code 2 (some .int)) = true := by decide +kernel
theorem tb_w7 : Cond.code Lib.Math.min.name Lib.Math.min.code 2 (some .int) ∈ lw_tbl := by
  rw [← lw_tw_eq]
  exact ab_has_mem tb_v7
set_option maxRecDepth 100000 in
theorem tb_v8 : ab_has lw_tw 1028 (Cond.instanceMethod Lib.objectInit) = true := by decide +kernel
theorem tb_w8 : Cond.instanceMethod Lib.objectInit ∈ lw_tbl := by
  rw [← lw_tw_eq]
  exact ab_has_mem tb_v8
set_option maxRecDepth 100000 in
theorem tb_v9 : ab_has lw_tw 1029 (Cond.code Lib.objectInit ⟨#[0xb1]⟩ 1 none) = true := by decide +kernel
theorem tb_w9 : Cond.code Lib.objectInit ⟨#[0xb1]⟩ 1 none ∈ lw_tbl := by
  rw [← lw_tw_eq]
  exact ab_has_mem tb_v9
set_option maxRecDepth 100000 in
theorem tb_v10 : ab_has lw_tw 1109 (Cond.arrayClass .int) = true := by decide +kernel
theorem tb_w10 : Cond.arrayClass .int ∈ lw_tbl := by
  rw [← lw_tw_eq]
  exact ab_has_mem tb_v10
set_option maxRecDepth 100000 in
theorem tb_cs1 : ab_has lw_tw 6184 (Cond.castable "ScrewLeft$Board" "ScrewLeft$Step") = true := by decide +kernel
set_option maxRecDepth 100000 in
theorem tb_cs2 : ab_has lw_tw 6185 (Cond.castable "ScrewLeft$Glued" "ScrewLeft$Step") = true := by decide +kernel
set_option maxRecDepth 100000 in
theorem tb_cs3 : ab_has lw_tw 6186 (Cond.castable "ScrewLeft$Held" "ScrewLeft$Step") = true := by decide +kernel
set_option maxRecDepth 100000 in
theorem tb_cs4 : ab_has lw_tw 6187 (Cond.castable "ScrewLeft$Alike" "ScrewLeft$Step") = true := by decide +kernel
set_option maxRecDepth 100000 in
theorem tb_cs5 : ab_has lw_tw 6188 (Cond.castable "ScrewLeft$Sealed" "ScrewLeft$Step") = true := by decide +kernel
set_option maxRecDepth 100000 in
theorem tb_cs6 : ab_has lw_tw 6189 (Cond.castable "ScrewLeft$Carried" "ScrewLeft$Step") = true := by decide +kernel
theorem tb_cast : ∀ i, i ≤ 6 → ∃ q, tb_cl[i]? = some q ∧ (q.1 = "ScrewLeft$Step" ∨ Cond.castable q.1 "ScrewLeft$Step" ∈ lw_tw.flatten)
  | 0, _ => ⟨_, rfl, Or.inl rfl⟩
  | 1, _ => ⟨_, rfl, Or.inr (ab_has_mem tb_cs1)⟩
  | 2, _ => ⟨_, rfl, Or.inr (ab_has_mem tb_cs2)⟩
  | 3, _ => ⟨_, rfl, Or.inr (ab_has_mem tb_cs3)⟩
  | 4, _ => ⟨_, rfl, Or.inr (ab_has_mem tb_cs4)⟩
  | 5, _ => ⟨_, rfl, Or.inr (ab_has_mem tb_cs5)⟩
  | 6, _ => ⟨_, rfl, Or.inr (ab_has_mem tb_cs6)⟩
  | i + 7, h => by omega
theorem tb_ok : ab_V tb lw_tw := ⟨tb_okC, tb_okF, tb_okG, tb_okK, tb_okM, tb_okE, ab_has_mem tb_v0, ab_has_mem tb_v1, ab_has_mem tb_v2, ab_has_mem tb_v3, ab_has_mem tb_v4, ab_has_mem tb_v5, ab_has_mem tb_v6, ab_has_mem tb_v7, ab_has_mem tb_v8, ab_has_mem tb_v9, ab_has_mem tb_v10, rfl, tb_cast⟩
