/-! THE LAW'S instructions decode; all that is asked of the tables (wip/gen/valid.py) -/
theorem ab_all1_cut {f : Nat → ab_I → Bool} : ∀ (k : Nat) {t : ab_T} {pc : Nat}, ab_all1 f (t.take k) pc = true → ab_all1 f (t.drop k) (pc + 16 * k) = true → ab_all1 f t pc = true
  | 0, t, pc, _, h => h
  | k + 1, [], pc, _, _ => rfl
  | k + 1, c :: t, pc, h1, h2 => by
    simp only [List.take_succ_cons, ab_all1, Bool.and_eq_true] at h1
    simp only [ab_all1, Bool.and_eq_true]
    refine ⟨h1.1, ab_all1_cut k h1.2 ?_⟩
    rw [show pc + 16 + 16 * k = pc + 16 * (k + 1) by omega]
    exact h2
theorem ab_all1_cutD {f : Nat → ab_I → Bool} {t : ab_T} (a k : Nat) (h1 : ab_all1 f ((t.drop a).take k) (16 * a) = true) (h2 : ab_all1 f (t.drop (a + k)) (16 * (a + k)) = true) : ab_all1 f (t.drop a) (16 * a) = true := by
  refine ab_all1_cut k h1 ?_
  rw [List.drop_drop, show 16 * a + 16 * k = 16 * (a + k) by omega]
  exact h2
set_option maxRecDepth 100000 in
theorem tb_eL0 : ab_all1 (ab_eOK tb lw_tw tb_mL) ((tb_tL.drop 0).take 4) (16 * 0) = true := by decide +kernel
set_option maxRecDepth 100000 in
theorem tb_eL4 : ab_all1 (ab_eOK tb lw_tw tb_mL) ((tb_tL.drop 4).take 4) (16 * 4) = true := by decide +kernel
set_option maxRecDepth 100000 in
theorem tb_eL8 : ab_all1 (ab_eOK tb lw_tw tb_mL) ((tb_tL.drop 8).take 4) (16 * 8) = true := by decide +kernel
set_option maxRecDepth 100000 in
theorem tb_eL12 : ab_all1 (ab_eOK tb lw_tw tb_mL) ((tb_tL.drop 12).take 4) (16 * 12) = true := by decide +kernel
set_option maxRecDepth 100000 in
theorem tb_eL16 : ab_all1 (ab_eOK tb lw_tw tb_mL) ((tb_tL.drop 16).take 4) (16 * 16) = true := by decide +kernel
set_option maxRecDepth 100000 in
theorem tb_eL20 : ab_all1 (ab_eOK tb lw_tw tb_mL) ((tb_tL.drop 20).take 4) (16 * 20) = true := by decide +kernel
set_option maxRecDepth 100000 in
theorem tb_eL24 : ab_all1 (ab_eOK tb lw_tw tb_mL) ((tb_tL.drop 24).take 4) (16 * 24) = true := by decide +kernel
set_option maxRecDepth 100000 in
theorem tb_eL28 : ab_all1 (ab_eOK tb lw_tw tb_mL) ((tb_tL.drop 28).take 4) (16 * 28) = true := by decide +kernel
set_option maxRecDepth 100000 in
theorem tb_eL32 : ab_all1 (ab_eOK tb lw_tw tb_mL) ((tb_tL.drop 32).take 4) (16 * 32) = true := by decide +kernel
set_option maxRecDepth 100000 in
theorem tb_eL36 : ab_all1 (ab_eOK tb lw_tw tb_mL) ((tb_tL.drop 36).take 4) (16 * 36) = true := by decide +kernel
set_option maxRecDepth 100000 in
theorem tb_eL40 : ab_all1 (ab_eOK tb lw_tw tb_mL) ((tb_tL.drop 40).take 4) (16 * 40) = true := by decide +kernel
set_option maxRecDepth 100000 in
theorem tb_eL44 : ab_all1 (ab_eOK tb lw_tw tb_mL) ((tb_tL.drop 44).take 4) (16 * 44) = true := by decide +kernel
set_option maxRecDepth 100000 in
theorem tb_eL48 : ab_all1 (ab_eOK tb lw_tw tb_mL) ((tb_tL.drop 48).take 4) (16 * 48) = true := by decide +kernel
set_option maxRecDepth 100000 in
theorem tb_eL52 : ab_all1 (ab_eOK tb lw_tw tb_mL) ((tb_tL.drop 52).take 4) (16 * 52) = true := by decide +kernel
set_option maxRecDepth 100000 in
theorem tb_eL56 : ab_all1 (ab_eOK tb lw_tw tb_mL) ((tb_tL.drop 56).take 4) (16 * 56) = true := by decide +kernel
set_option maxRecDepth 100000 in
theorem tb_eL60 : ab_all1 (ab_eOK tb lw_tw tb_mL) ((tb_tL.drop 60).take 4) (16 * 60) = true := by decide +kernel
set_option maxRecDepth 100000 in
theorem tb_eL64 : ab_all1 (ab_eOK tb lw_tw tb_mL) ((tb_tL.drop 64).take 4) (16 * 64) = true := by decide +kernel
set_option maxRecDepth 100000 in
theorem tb_eL68 : ab_all1 (ab_eOK tb lw_tw tb_mL) ((tb_tL.drop 68).take 4) (16 * 68) = true := by decide +kernel
set_option maxRecDepth 100000 in
theorem tb_eL72 : ab_all1 (ab_eOK tb lw_tw tb_mL) ((tb_tL.drop 72).take 4) (16 * 72) = true := by decide +kernel
set_option maxRecDepth 100000 in
theorem tb_eL76 : ab_all1 (ab_eOK tb lw_tw tb_mL) ((tb_tL.drop 76).take 4) (16 * 76) = true := by decide +kernel
theorem tb_eL : ab_all1 (ab_eOK tb lw_tw tb_mL) tb_tL 0 = true := by
  have h : ab_all1 (ab_eOK tb lw_tw tb_mL) (tb_tL.drop 0) (16 * 0) = true := by
    refine ab_all1_cutD 0 4 tb_eL0 ?_
    refine ab_all1_cutD 4 4 tb_eL4 ?_
    refine ab_all1_cutD 8 4 tb_eL8 ?_
    refine ab_all1_cutD 12 4 tb_eL12 ?_
    refine ab_all1_cutD 16 4 tb_eL16 ?_
    refine ab_all1_cutD 20 4 tb_eL20 ?_
    refine ab_all1_cutD 24 4 tb_eL24 ?_
    refine ab_all1_cutD 28 4 tb_eL28 ?_
    refine ab_all1_cutD 32 4 tb_eL32 ?_
    refine ab_all1_cutD 36 4 tb_eL36 ?_
    refine ab_all1_cutD 40 4 tb_eL40 ?_
    refine ab_all1_cutD 44 4 tb_eL44 ?_
    refine ab_all1_cutD 48 4 tb_eL48 ?_
    refine ab_all1_cutD 52 4 tb_eL52 ?_
    refine ab_all1_cutD 56 4 tb_eL56 ?_
    refine ab_all1_cutD 60 4 tb_eL60 ?_
    refine ab_all1_cutD 64 4 tb_eL64 ?_
    refine ab_all1_cutD 68 4 tb_eL68 ?_
    refine ab_all1_cutD 72 4 tb_eL72 ?_
    refine ab_all1_cutD 76 4 tb_eL76 ?_
    rw [List.drop_eq_nil_of_le (by decide +kernel)]
    rfl
  exact h
def tb_M0 : List ab_M := [tb_m0, tb_m1, tb_m2, tb_m3, tb_m4, tb_m5, tb_m6, tb_m7, tb_m8, tb_m9, tb_m10, tb_m11, tb_m12, tb_m13, tb_m14, tb_m15, tb_m16, tb_m17, tb_m18, tb_m19, tb_m20, tb_m21, tb_m22, tb_m23, tb_m24, tb_m25, tb_m26, tb_m27, tb_m28, tb_m29, tb_m30, tb_m31, tb_m32, tb_m33, tb_m34, tb_m35, tb_m36, tb_m37, tb_m38, tb_m39, tb_m40, tb_m41, tb_m42, tb_m43, tb_m44, tb_m45, tb_m46, tb_m47, tb_m48, tb_m49, tb_m50, tb_m51, tb_m52, tb_m53, tb_m54, tb_m55, tb_m56, tb_m57, tb_m58, tb_m59, tb_m60, tb_m61, tb_m62, tb_m63, tb_m64, tb_m65, tb_m66, tb_m67, tb_m68, tb_m69, tb_m70, tb_m71, tb_m72, tb_m73, tb_m74, tb_m75, tb_m76, tb_m77, tb_m78, tb_m79]
set_option maxRecDepth 100000 in
theorem tb_okE0 : ∀ M ∈ tb_M0, ab_all1 (ab_eOK tb lw_tw M) M.2.2.2.2.2.2.2 0 = true := List.forall_mem_cons.mpr ⟨tb_e0, List.forall_mem_cons.mpr ⟨tb_e1, List.forall_mem_cons.mpr ⟨tb_e2, List.forall_mem_cons.mpr ⟨tb_e3, List.forall_mem_cons.mpr ⟨tb_e4, List.forall_mem_cons.mpr ⟨tb_e5, List.forall_mem_cons.mpr ⟨tb_e6, List.forall_mem_cons.mpr ⟨tb_e7, List.forall_mem_cons.mpr ⟨tb_e8, List.forall_mem_cons.mpr ⟨tb_e9, List.forall_mem_cons.mpr ⟨tb_e10, List.forall_mem_cons.mpr ⟨tb_e11, List.forall_mem_cons.mpr ⟨tb_e12, List.forall_mem_cons.mpr ⟨tb_e13, List.forall_mem_cons.mpr ⟨tb_e14, List.forall_mem_cons.mpr ⟨tb_e15, List.forall_mem_cons.mpr ⟨tb_e16, List.forall_mem_cons.mpr ⟨tb_e17, List.forall_mem_cons.mpr ⟨tb_e18, List.forall_mem_cons.mpr ⟨tb_e19, List.forall_mem_cons.mpr ⟨tb_e20, List.forall_mem_cons.mpr ⟨tb_e21, List.forall_mem_cons.mpr ⟨tb_e22, List.forall_mem_cons.mpr ⟨tb_e23, List.forall_mem_cons.mpr ⟨tb_e24, List.forall_mem_cons.mpr ⟨tb_e25, List.forall_mem_cons.mpr ⟨tb_e26, List.forall_mem_cons.mpr ⟨tb_e27, List.forall_mem_cons.mpr ⟨tb_e28, List.forall_mem_cons.mpr ⟨tb_e29, List.forall_mem_cons.mpr ⟨tb_e30, List.forall_mem_cons.mpr ⟨tb_e31, List.forall_mem_cons.mpr ⟨tb_e32, List.forall_mem_cons.mpr ⟨tb_e33, List.forall_mem_cons.mpr ⟨tb_e34, List.forall_mem_cons.mpr ⟨tb_e35, List.forall_mem_cons.mpr ⟨tb_e36, List.forall_mem_cons.mpr ⟨tb_e37, List.forall_mem_cons.mpr ⟨tb_e38, List.forall_mem_cons.mpr ⟨tb_e39, List.forall_mem_cons.mpr ⟨tb_e40, List.forall_mem_cons.mpr ⟨tb_e41, List.forall_mem_cons.mpr ⟨tb_e42, List.forall_mem_cons.mpr ⟨tb_e43, List.forall_mem_cons.mpr ⟨tb_e44, List.forall_mem_cons.mpr ⟨tb_e45, List.forall_mem_cons.mpr ⟨tb_e46, List.forall_mem_cons.mpr ⟨tb_e47, List.forall_mem_cons.mpr ⟨tb_e48, List.forall_mem_cons.mpr ⟨tb_e49, List.forall_mem_cons.mpr ⟨tb_e50, List.forall_mem_cons.mpr ⟨tb_e51, List.forall_mem_cons.mpr ⟨tb_e52, List.forall_mem_cons.mpr ⟨tb_e53, List.forall_mem_cons.mpr ⟨tb_e54, List.forall_mem_cons.mpr ⟨tb_e55, List.forall_mem_cons.mpr ⟨tb_e56, List.forall_mem_cons.mpr ⟨tb_e57, List.forall_mem_cons.mpr ⟨tb_e58, List.forall_mem_cons.mpr ⟨tb_e59, List.forall_mem_cons.mpr ⟨tb_e60, List.forall_mem_cons.mpr ⟨tb_e61, List.forall_mem_cons.mpr ⟨tb_e62, List.forall_mem_cons.mpr ⟨tb_e63, List.forall_mem_cons.mpr ⟨tb_e64, List.forall_mem_cons.mpr ⟨tb_e65, List.forall_mem_cons.mpr ⟨tb_e66, List.forall_mem_cons.mpr ⟨tb_e67, List.forall_mem_cons.mpr ⟨tb_e68, List.forall_mem_cons.mpr ⟨tb_e69, List.forall_mem_cons.mpr ⟨tb_e70, List.forall_mem_cons.mpr ⟨tb_e71, List.forall_mem_cons.mpr ⟨tb_e72, List.forall_mem_cons.mpr ⟨tb_e73, List.forall_mem_cons.mpr ⟨tb_e74, List.forall_mem_cons.mpr ⟨tb_e75, List.forall_mem_cons.mpr ⟨tb_e76, List.forall_mem_cons.mpr ⟨tb_e77, List.forall_mem_cons.mpr ⟨tb_e78, List.forall_mem_cons.mpr ⟨tb_e79, fun _ h => absurd h List.not_mem_nil⟩⟩⟩⟩⟩⟩⟩⟩⟩⟩⟩⟩⟩⟩⟩⟩⟩⟩⟩⟩⟩⟩⟩⟩⟩⟩⟩⟩⟩⟩⟩⟩⟩⟩⟩⟩⟩⟩⟩⟩⟩⟩⟩⟩⟩⟩⟩⟩⟩⟩⟩⟩⟩⟩⟩⟩⟩⟩⟩⟩⟩⟩⟩⟩⟩⟩⟩⟩⟩⟩⟩⟩⟩⟩⟩⟩⟩⟩⟩⟩
def tb_M1 : List ab_M := [tb_m80, tb_m81, tb_m82, tb_m83, tb_m84, tb_m85, tb_m86, tb_m87, tb_m88, tb_m89, tb_m90, tb_m91, tb_m92, tb_m93, tb_m94, tb_m95, tb_m96, tb_m97, tb_m98, tb_m99, tb_m100, tb_m101, tb_m102, tb_m103, tb_m104, tb_m105, tb_m106, tb_m107, tb_m108, tb_m109, tb_m110, tb_m111, tb_m112, tb_m113, tb_m114, tb_m115, tb_m116, tb_m117, tb_m118, tb_m119, tb_m120, tb_m121, tb_m122, tb_m123, tb_m124, tb_m125, tb_m126, tb_m127, tb_m128, tb_m129, tb_m130, tb_m131, tb_m132, tb_m133, tb_m134, tb_m135, tb_m136, tb_m137, tb_m138, tb_m139, tb_m140, tb_m141, tb_m142, tb_m143, tb_m144, tb_m145, tb_m146, tb_m147, tb_m148, tb_m149, tb_m150, tb_m151, tb_m152, tb_m153, tb_m154, tb_m155, tb_m156, tb_m157, tb_m158, tb_m159]
set_option maxRecDepth 100000 in
theorem tb_okE1 : ∀ M ∈ tb_M1, ab_all1 (ab_eOK tb lw_tw M) M.2.2.2.2.2.2.2 0 = true := List.forall_mem_cons.mpr ⟨tb_e80, List.forall_mem_cons.mpr ⟨tb_e81, List.forall_mem_cons.mpr ⟨tb_e82, List.forall_mem_cons.mpr ⟨tb_e83, List.forall_mem_cons.mpr ⟨tb_e84, List.forall_mem_cons.mpr ⟨tb_e85, List.forall_mem_cons.mpr ⟨tb_e86, List.forall_mem_cons.mpr ⟨tb_e87, List.forall_mem_cons.mpr ⟨tb_e88, List.forall_mem_cons.mpr ⟨tb_e89, List.forall_mem_cons.mpr ⟨tb_e90, List.forall_mem_cons.mpr ⟨tb_e91, List.forall_mem_cons.mpr ⟨tb_e92, List.forall_mem_cons.mpr ⟨tb_e93, List.forall_mem_cons.mpr ⟨tb_e94, List.forall_mem_cons.mpr ⟨tb_e95, List.forall_mem_cons.mpr ⟨tb_e96, List.forall_mem_cons.mpr ⟨tb_e97, List.forall_mem_cons.mpr ⟨tb_e98, List.forall_mem_cons.mpr ⟨tb_e99, List.forall_mem_cons.mpr ⟨tb_e100, List.forall_mem_cons.mpr ⟨tb_e101, List.forall_mem_cons.mpr ⟨tb_e102, List.forall_mem_cons.mpr ⟨tb_e103, List.forall_mem_cons.mpr ⟨tb_e104, List.forall_mem_cons.mpr ⟨tb_e105, List.forall_mem_cons.mpr ⟨tb_e106, List.forall_mem_cons.mpr ⟨tb_e107, List.forall_mem_cons.mpr ⟨tb_e108, List.forall_mem_cons.mpr ⟨tb_e109, List.forall_mem_cons.mpr ⟨tb_e110, List.forall_mem_cons.mpr ⟨tb_e111, List.forall_mem_cons.mpr ⟨tb_e112, List.forall_mem_cons.mpr ⟨tb_e113, List.forall_mem_cons.mpr ⟨tb_e114, List.forall_mem_cons.mpr ⟨tb_e115, List.forall_mem_cons.mpr ⟨tb_e116, List.forall_mem_cons.mpr ⟨tb_e117, List.forall_mem_cons.mpr ⟨tb_e118, List.forall_mem_cons.mpr ⟨tb_e119, List.forall_mem_cons.mpr ⟨tb_e120, List.forall_mem_cons.mpr ⟨tb_e121, List.forall_mem_cons.mpr ⟨tb_e122, List.forall_mem_cons.mpr ⟨tb_e123, List.forall_mem_cons.mpr ⟨tb_e124, List.forall_mem_cons.mpr ⟨tb_e125, List.forall_mem_cons.mpr ⟨tb_e126, List.forall_mem_cons.mpr ⟨tb_e127, List.forall_mem_cons.mpr ⟨tb_e128, List.forall_mem_cons.mpr ⟨tb_e129, List.forall_mem_cons.mpr ⟨tb_e130, List.forall_mem_cons.mpr ⟨tb_e131, List.forall_mem_cons.mpr ⟨tb_e132, List.forall_mem_cons.mpr ⟨tb_e133, List.forall_mem_cons.mpr ⟨tb_e134, List.forall_mem_cons.mpr ⟨tb_e135, List.forall_mem_cons.mpr ⟨tb_e136, List.forall_mem_cons.mpr ⟨tb_e137, List.forall_mem_cons.mpr ⟨tb_e138, List.forall_mem_cons.mpr ⟨tb_e139, List.forall_mem_cons.mpr ⟨tb_e140, List.forall_mem_cons.mpr ⟨tb_e141, List.forall_mem_cons.mpr ⟨tb_e142, List.forall_mem_cons.mpr ⟨tb_e143, List.forall_mem_cons.mpr ⟨tb_e144, List.forall_mem_cons.mpr ⟨tb_e145, List.forall_mem_cons.mpr ⟨tb_e146, List.forall_mem_cons.mpr ⟨tb_e147, List.forall_mem_cons.mpr ⟨tb_e148, List.forall_mem_cons.mpr ⟨tb_e149, List.forall_mem_cons.mpr ⟨tb_e150, List.forall_mem_cons.mpr ⟨tb_e151, List.forall_mem_cons.mpr ⟨tb_e152, List.forall_mem_cons.mpr ⟨tb_e153, List.forall_mem_cons.mpr ⟨tb_e154, List.forall_mem_cons.mpr ⟨tb_e155, List.forall_mem_cons.mpr ⟨tb_e156, List.forall_mem_cons.mpr ⟨tb_e157, List.forall_mem_cons.mpr ⟨tb_e158, List.forall_mem_cons.mpr ⟨tb_e159, fun _ h => absurd h List.not_mem_nil⟩⟩⟩⟩⟩⟩⟩⟩⟩⟩⟩⟩⟩⟩⟩⟩⟩⟩⟩⟩⟩⟩⟩⟩⟩⟩⟩⟩⟩⟩⟩⟩⟩⟩⟩⟩⟩⟩⟩⟩⟩⟩⟩⟩⟩⟩⟩⟩⟩⟩⟩⟩⟩⟩⟩⟩⟩⟩⟩⟩⟩⟩⟩⟩⟩⟩⟩⟩⟩⟩⟩⟩⟩⟩⟩⟩⟩⟩⟩⟩
def tb_M2 : List ab_M := [tb_m160, tb_m161, tb_m162, tb_m163, tb_m164, tb_m165, tb_m166, tb_m167, tb_m168, tb_m169, tb_m170, tb_m171, tb_m172, tb_m173, tb_m174, tb_m175, tb_m176, tb_m177, tb_m178, tb_m179, tb_m180, tb_m181, tb_m182, tb_m183, tb_m184, tb_m185, tb_m186, tb_m187, tb_m188, tb_m189, tb_m190, tb_m191, tb_m192, tb_m193, tb_m194, tb_m195, tb_m196, tb_m197, tb_m198, tb_m199, tb_m200, tb_m201, tb_m202, tb_m203, tb_m204, tb_m205, tb_m206, tb_m207, tb_m208, tb_m209, tb_m210, tb_m211, tb_m212, tb_m213, tb_m214, tb_m215, tb_m216, tb_m217, tb_m218, tb_m219, tb_m220, tb_m221, tb_m222, tb_m223, tb_m224, tb_m225, tb_m226, tb_m227, tb_m228, tb_m229, tb_m230, tb_m231, tb_m232, tb_m233, tb_m234]
set_option maxRecDepth 100000 in
theorem tb_okE2 : ∀ M ∈ tb_M2, ab_all1 (ab_eOK tb lw_tw M) M.2.2.2.2.2.2.2 0 = true := List.forall_mem_cons.mpr ⟨tb_e160, List.forall_mem_cons.mpr ⟨tb_e161, List.forall_mem_cons.mpr ⟨tb_e162, List.forall_mem_cons.mpr ⟨tb_e163, List.forall_mem_cons.mpr ⟨tb_e164, List.forall_mem_cons.mpr ⟨tb_e165, List.forall_mem_cons.mpr ⟨tb_e166, List.forall_mem_cons.mpr ⟨tb_e167, List.forall_mem_cons.mpr ⟨tb_e168, List.forall_mem_cons.mpr ⟨tb_e169, List.forall_mem_cons.mpr ⟨tb_e170, List.forall_mem_cons.mpr ⟨tb_e171, List.forall_mem_cons.mpr ⟨tb_e172, List.forall_mem_cons.mpr ⟨tb_e173, List.forall_mem_cons.mpr ⟨tb_e174, List.forall_mem_cons.mpr ⟨tb_e175, List.forall_mem_cons.mpr ⟨tb_e176, List.forall_mem_cons.mpr ⟨tb_e177, List.forall_mem_cons.mpr ⟨tb_e178, List.forall_mem_cons.mpr ⟨tb_e179, List.forall_mem_cons.mpr ⟨tb_e180, List.forall_mem_cons.mpr ⟨tb_e181, List.forall_mem_cons.mpr ⟨tb_e182, List.forall_mem_cons.mpr ⟨tb_e183, List.forall_mem_cons.mpr ⟨tb_e184, List.forall_mem_cons.mpr ⟨tb_e185, List.forall_mem_cons.mpr ⟨tb_e186, List.forall_mem_cons.mpr ⟨tb_e187, List.forall_mem_cons.mpr ⟨tb_e188, List.forall_mem_cons.mpr ⟨tb_e189, List.forall_mem_cons.mpr ⟨tb_e190, List.forall_mem_cons.mpr ⟨tb_e191, List.forall_mem_cons.mpr ⟨tb_e192, List.forall_mem_cons.mpr ⟨tb_e193, List.forall_mem_cons.mpr ⟨tb_e194, List.forall_mem_cons.mpr ⟨tb_e195, List.forall_mem_cons.mpr ⟨tb_e196, List.forall_mem_cons.mpr ⟨tb_e197, List.forall_mem_cons.mpr ⟨tb_e198, List.forall_mem_cons.mpr ⟨tb_e199, List.forall_mem_cons.mpr ⟨tb_e200, List.forall_mem_cons.mpr ⟨tb_e201, List.forall_mem_cons.mpr ⟨tb_e202, List.forall_mem_cons.mpr ⟨tb_e203, List.forall_mem_cons.mpr ⟨tb_e204, List.forall_mem_cons.mpr ⟨tb_e205, List.forall_mem_cons.mpr ⟨tb_e206, List.forall_mem_cons.mpr ⟨tb_e207, List.forall_mem_cons.mpr ⟨tb_e208, List.forall_mem_cons.mpr ⟨tb_e209, List.forall_mem_cons.mpr ⟨tb_e210, List.forall_mem_cons.mpr ⟨tb_e211, List.forall_mem_cons.mpr ⟨tb_e212, List.forall_mem_cons.mpr ⟨tb_e213, List.forall_mem_cons.mpr ⟨tb_e214, List.forall_mem_cons.mpr ⟨tb_e215, List.forall_mem_cons.mpr ⟨tb_e216, List.forall_mem_cons.mpr ⟨tb_e217, List.forall_mem_cons.mpr ⟨tb_e218, List.forall_mem_cons.mpr ⟨tb_e219, List.forall_mem_cons.mpr ⟨tb_e220, List.forall_mem_cons.mpr ⟨tb_e221, List.forall_mem_cons.mpr ⟨tb_e222, List.forall_mem_cons.mpr ⟨tb_e223, List.forall_mem_cons.mpr ⟨tb_e224, List.forall_mem_cons.mpr ⟨tb_e225, List.forall_mem_cons.mpr ⟨tb_e226, List.forall_mem_cons.mpr ⟨tb_e227, List.forall_mem_cons.mpr ⟨tb_e228, List.forall_mem_cons.mpr ⟨tb_e229, List.forall_mem_cons.mpr ⟨tb_e230, List.forall_mem_cons.mpr ⟨tb_e231, List.forall_mem_cons.mpr ⟨tb_e232, List.forall_mem_cons.mpr ⟨tb_e233, List.forall_mem_cons.mpr ⟨tb_e234, fun _ h => absurd h List.not_mem_nil⟩⟩⟩⟩⟩⟩⟩⟩⟩⟩⟩⟩⟩⟩⟩⟩⟩⟩⟩⟩⟩⟩⟩⟩⟩⟩⟩⟩⟩⟩⟩⟩⟩⟩⟩⟩⟩⟩⟩⟩⟩⟩⟩⟩⟩⟩⟩⟩⟩⟩⟩⟩⟩⟩⟩⟩⟩⟩⟩⟩⟩⟩⟩⟩⟩⟩⟩⟩⟩⟩⟩⟩⟩⟩⟩
set_option maxRecDepth 100000 in
theorem tb_M_eq : tb_M = tb_M0 ++ (tb_M1 ++ (tb_M2)) := rfl
theorem tb_okE : ∀ M ∈ tb_M, ab_all1 (ab_eOK tb lw_tw M) M.2.2.2.2.2.2.2 0 = true := by
  rw [tb_M_eq]
  exact List.forall_mem_append.mpr ⟨tb_okE0, List.forall_mem_append.mpr ⟨tb_okE1, tb_okE2⟩⟩
set_option maxRecDepth 100000 in
theorem tb_w0 : Cond.native arraycopyName ∈ lw_tbl := by decide +kernel
set_option maxRecDepth 100000 in
theorem tb_w1 : Cond.static arraycopyName ∈ lw_tbl := by decide +kernel
set_option maxRecDepth 100000 in
theorem tb_w2 : Cond.initialized "java/lang/System" ∈ lw_tbl := by decide +kernel
set_option maxRecDepth 100000 in
theorem tb_w3 : Cond.static Lib.Math.max.name ∈ lw_tbl := by decide +kernel
set_option maxRecDepth 100000 in
theorem tb_w4 : Cond.static Lib.Math.min.name ∈ lw_tbl := by decide +kernel
set_option maxRecDepth 100000 in
theorem tb_w5 : Cond.initialized "java/lang/Math" ∈ lw_tbl := by decide +kernel
set_option maxRecDepth 100000 in
theorem tb_w6 : Cond.code Lib.Math.max.name Lib.Math.max.code 2 (some .int) ∈ lw_tbl := by decide +kernel
set_option maxRecDepth 100000 in
theorem tb_w7 : Cond.code Lib.Math.min.name Lib.Math.min.code 2 (some .int) ∈ lw_tbl := by decide +kernel
set_option maxRecDepth 100000 in
theorem tb_w8 : Cond.instanceMethod Lib.objectInit ∈ lw_tbl := by decide +kernel
set_option maxRecDepth 100000 in
theorem tb_w9 : Cond.code Lib.objectInit ⟨#[0xb1]⟩ 1 none ∈ lw_tbl := by decide +kernel
set_option maxRecDepth 100000 in
theorem tb_w10 : Cond.arrayClass .int ∈ lw_tbl := by decide +kernel
set_option maxRecDepth 100000 in
theorem tb_cs1 : Cond.castable "ScrewLeft$Board" "ScrewLeft$Step" ∈ lw_tbl := by decide +kernel
set_option maxRecDepth 100000 in
theorem tb_cs2 : Cond.castable "ScrewLeft$Glued" "ScrewLeft$Step" ∈ lw_tbl := by decide +kernel
set_option maxRecDepth 100000 in
theorem tb_cs3 : Cond.castable "ScrewLeft$Held" "ScrewLeft$Step" ∈ lw_tbl := by decide +kernel
set_option maxRecDepth 100000 in
theorem tb_cs4 : Cond.castable "ScrewLeft$Alike" "ScrewLeft$Step" ∈ lw_tbl := by decide +kernel
set_option maxRecDepth 100000 in
theorem tb_cs5 : Cond.castable "ScrewLeft$Sealed" "ScrewLeft$Step" ∈ lw_tbl := by decide +kernel
set_option maxRecDepth 100000 in
theorem tb_cs6 : Cond.castable "ScrewLeft$Carried" "ScrewLeft$Step" ∈ lw_tbl := by decide +kernel
theorem tb_cast : ∀ i, i ≤ 6 → ∃ q, tb_cl[i]? = some q ∧ (q.1 = "ScrewLeft$Step" ∨ Cond.castable q.1 "ScrewLeft$Step" ∈ lw_tbl)
  | 0, _ => ⟨_, rfl, Or.inl rfl⟩
  | 1, _ => ⟨_, rfl, Or.inr tb_cs1⟩
  | 2, _ => ⟨_, rfl, Or.inr tb_cs2⟩
  | 3, _ => ⟨_, rfl, Or.inr tb_cs3⟩
  | 4, _ => ⟨_, rfl, Or.inr tb_cs4⟩
  | 5, _ => ⟨_, rfl, Or.inr tb_cs5⟩
  | 6, _ => ⟨_, rfl, Or.inr tb_cs6⟩
  | i + 7, h => by omega
theorem tb_ok : ab_V tb lw_tw := ⟨by rw [lw_tw_eq]; exact tb_okC, tb_okF, tb_okG, tb_okK, tb_okM, tb_okE, by rw [lw_tw_eq]; exact tb_w0, by rw [lw_tw_eq]; exact tb_w1, by rw [lw_tw_eq]; exact tb_w2, by rw [lw_tw_eq]; exact tb_w3, by rw [lw_tw_eq]; exact tb_w4, by rw [lw_tw_eq]; exact tb_w5, by rw [lw_tw_eq]; exact tb_w6, by rw [lw_tw_eq]; exact tb_w7, by rw [lw_tw_eq]; exact tb_w8, by rw [lw_tw_eq]; exact tb_w9, by rw [lw_tw_eq]; exact tb_w10, rfl, by rw [lw_tw_eq]; exact tb_cast⟩
