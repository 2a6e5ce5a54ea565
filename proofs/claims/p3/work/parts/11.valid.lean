/-! THE TABLES HOLD, by the kernel (wip/gen/valid.py) -/
theorem ab_allcut {α : Type} {f : α → Bool} {l : List α} (a k : Nat) (h1 : ((l.drop a).take k).all f = true) (h2 : (l.drop (a + k)).all f = true) : (l.drop a).all f = true := by
  rw [← List.take_append_drop k (l.drop a), List.all_append, h1, List.drop_drop, h2]
  rfl
theorem ab_allend {α : Type} {f : α → Bool} {l : List α} (a : Nat) (h : l.length ≤ a) : (l.drop a).all f = true := by
  rw [List.drop_eq_nil_of_le h]
  rfl
set_option maxRecDepth 100000 in
theorem tb_c0 : ab_clOK lw_tbl ("ScrewLeft$Step", tb_T tb_f0, 0) := by unfold ab_clOK; decide +kernel
set_option maxRecDepth 100000 in
theorem tb_c1 : ab_clOK lw_tbl ("ScrewLeft$Board", tb_T tb_f1, 0) := by unfold ab_clOK; decide +kernel
set_option maxRecDepth 100000 in
theorem tb_c2 : ab_clOK lw_tbl ("ScrewLeft$Glued", tb_T tb_f2, 0) := by unfold ab_clOK; decide +kernel
set_option maxRecDepth 100000 in
theorem tb_c3 : ab_clOK lw_tbl ("ScrewLeft$Held", tb_T tb_f3, 0) := by unfold ab_clOK; decide +kernel
set_option maxRecDepth 100000 in
theorem tb_c4 : ab_clOK lw_tbl ("ScrewLeft$Alike", tb_T tb_f4, 0) := by unfold ab_clOK; decide +kernel
set_option maxRecDepth 100000 in
theorem tb_c5 : ab_clOK lw_tbl ("ScrewLeft$Sealed", tb_T tb_f5, 0) := by unfold ab_clOK; decide +kernel
set_option maxRecDepth 100000 in
theorem tb_c6 : ab_clOK lw_tbl ("ScrewLeft$Carried", tb_T tb_f6, 0) := by unfold ab_clOK; decide +kernel
set_option maxRecDepth 100000 in
theorem tb_c7 : ab_clOK lw_tbl ("ScrewLeft$Job", tb_T tb_f7, 18) := by unfold ab_clOK; decide +kernel
set_option maxRecDepth 100000 in
theorem tb_c8 : ab_clOK lw_tbl ("ScrewLeft$Text", tb_T tb_f8, 3) := by unfold ab_clOK; decide +kernel
set_option maxRecDepth 100000 in
theorem tb_c9 : ab_clOK lw_tbl ("ScrewLeft$Reader", tb_T tb_f9, 7) := by unfold ab_clOK; decide +kernel
set_option maxRecDepth 100000 in
theorem tb_c10 : ab_clOK lw_tbl ("ScrewLeft$Voice", tb_T tb_f10, 4) := by unfold ab_clOK; decide +kernel
set_option maxRecDepth 100000 in
theorem tb_c11 : ab_clOK lw_tbl ("ScrewLeft", tb_T tb_f11, 13) := by unfold ab_clOK; decide +kernel
set_option maxRecDepth 100000 in
theorem tb_c12 : ab_clOK lw_tbl ("ScrewLeftModel", tb_T tb_f12, 25) := by unfold ab_clOK; decide +kernel
theorem tb_okC : ∀ q ∈ tb_cl, ab_clOK lw_tbl q := List.forall_mem_cons.mpr ⟨tb_c0, List.forall_mem_cons.mpr ⟨tb_c1, List.forall_mem_cons.mpr ⟨tb_c2, List.forall_mem_cons.mpr ⟨tb_c3, List.forall_mem_cons.mpr ⟨tb_c4, List.forall_mem_cons.mpr ⟨tb_c5, List.forall_mem_cons.mpr ⟨tb_c6, List.forall_mem_cons.mpr ⟨tb_c7, List.forall_mem_cons.mpr ⟨tb_c8, List.forall_mem_cons.mpr ⟨tb_c9, List.forall_mem_cons.mpr ⟨tb_c10, List.forall_mem_cons.mpr ⟨tb_c11, List.forall_mem_cons.mpr ⟨tb_c12, fun _ h => absurd h List.not_mem_nil⟩⟩⟩⟩⟩⟩⟩⟩⟩⟩⟩⟩⟩
set_option maxRecDepth 100000 in
theorem tb_okF_0 : ((tb_F.drop 0).take 12).all (ab_flOK tb lw_tw) = true := by decide +kernel
set_option maxRecDepth 100000 in
theorem tb_okF_12 : ((tb_F.drop 12).take 12).all (ab_flOK tb lw_tw) = true := by decide +kernel
set_option maxRecDepth 100000 in
theorem tb_okF_24 : ((tb_F.drop 24).take 12).all (ab_flOK tb lw_tw) = true := by decide +kernel
set_option maxRecDepth 100000 in
theorem tb_okF_36 : ((tb_F.drop 36).take 12).all (ab_flOK tb lw_tw) = true := by decide +kernel
set_option maxRecDepth 100000 in
theorem tb_okF_48 : ((tb_F.drop 48).take 12).all (ab_flOK tb lw_tw) = true := by decide +kernel
set_option maxRecDepth 100000 in
theorem tb_okF_60 : ((tb_F.drop 60).take 12).all (ab_flOK tb lw_tw) = true := by decide +kernel
set_option maxRecDepth 100000 in
theorem tb_okF_72 : ((tb_F.drop 72).take 12).all (ab_flOK tb lw_tw) = true := by decide +kernel
set_option maxRecDepth 100000 in
theorem tb_okF_84 : ((tb_F.drop 84).take 12).all (ab_flOK tb lw_tw) = true := by decide +kernel
theorem tb_okF : tb_F.all (ab_flOK tb lw_tw) = true := by
  rw [← List.drop_zero (l := tb_F)]
  refine ab_allcut 0 12 tb_okF_0 ?_
  refine ab_allcut 12 12 tb_okF_12 ?_
  refine ab_allcut 24 12 tb_okF_24 ?_
  refine ab_allcut 36 12 tb_okF_36 ?_
  refine ab_allcut 48 12 tb_okF_48 ?_
  refine ab_allcut 60 12 tb_okF_60 ?_
  refine ab_allcut 72 12 tb_okF_72 ?_
  refine ab_allcut 84 12 tb_okF_84 ?_
  exact ab_allend 96 (by decide +kernel)
set_option maxRecDepth 100000 in
theorem tb_okG_0 : ((tb_G.drop 0).take 12).all (ab_glOK tb lw_tw) = true := by decide +kernel
set_option maxRecDepth 100000 in
theorem tb_okG_12 : ((tb_G.drop 12).take 12).all (ab_glOK tb lw_tw) = true := by decide +kernel
set_option maxRecDepth 100000 in
theorem tb_okG_24 : ((tb_G.drop 24).take 12).all (ab_glOK tb lw_tw) = true := by decide +kernel
set_option maxRecDepth 100000 in
theorem tb_okG_36 : ((tb_G.drop 36).take 12).all (ab_glOK tb lw_tw) = true := by decide +kernel
set_option maxRecDepth 100000 in
theorem tb_okG_48 : ((tb_G.drop 48).take 12).all (ab_glOK tb lw_tw) = true := by decide +kernel
set_option maxRecDepth 100000 in
theorem tb_okG_60 : ((tb_G.drop 60).take 12).all (ab_glOK tb lw_tw) = true := by decide +kernel
set_option maxRecDepth 100000 in
theorem tb_okG_72 : ((tb_G.drop 72).take 12).all (ab_glOK tb lw_tw) = true := by decide +kernel
set_option maxRecDepth 100000 in
theorem tb_okG_84 : ((tb_G.drop 84).take 12).all (ab_glOK tb lw_tw) = true := by decide +kernel
set_option maxRecDepth 100000 in
theorem tb_okG_96 : ((tb_G.drop 96).take 12).all (ab_glOK tb lw_tw) = true := by decide +kernel
set_option maxRecDepth 100000 in
theorem tb_okG_108 : ((tb_G.drop 108).take 12).all (ab_glOK tb lw_tw) = true := by decide +kernel
set_option maxRecDepth 100000 in
theorem tb_okG_120 : ((tb_G.drop 120).take 12).all (ab_glOK tb lw_tw) = true := by decide +kernel
set_option maxRecDepth 100000 in
theorem tb_okG_132 : ((tb_G.drop 132).take 12).all (ab_glOK tb lw_tw) = true := by decide +kernel
set_option maxRecDepth 100000 in
theorem tb_okG_144 : ((tb_G.drop 144).take 12).all (ab_glOK tb lw_tw) = true := by decide +kernel
set_option maxRecDepth 100000 in
theorem tb_okG_156 : ((tb_G.drop 156).take 12).all (ab_glOK tb lw_tw) = true := by decide +kernel
set_option maxRecDepth 100000 in
theorem tb_okG_168 : ((tb_G.drop 168).take 12).all (ab_glOK tb lw_tw) = true := by decide +kernel
set_option maxRecDepth 100000 in
theorem tb_okG_180 : ((tb_G.drop 180).take 12).all (ab_glOK tb lw_tw) = true := by decide +kernel
set_option maxRecDepth 100000 in
theorem tb_okG_192 : ((tb_G.drop 192).take 12).all (ab_glOK tb lw_tw) = true := by decide +kernel
set_option maxRecDepth 100000 in
theorem tb_okG_204 : ((tb_G.drop 204).take 12).all (ab_glOK tb lw_tw) = true := by decide +kernel
set_option maxRecDepth 100000 in
theorem tb_okG_216 : ((tb_G.drop 216).take 12).all (ab_glOK tb lw_tw) = true := by decide +kernel
set_option maxRecDepth 100000 in
theorem tb_okG_228 : ((tb_G.drop 228).take 12).all (ab_glOK tb lw_tw) = true := by decide +kernel
set_option maxRecDepth 100000 in
theorem tb_okG_240 : ((tb_G.drop 240).take 12).all (ab_glOK tb lw_tw) = true := by decide +kernel
set_option maxRecDepth 100000 in
theorem tb_okG_252 : ((tb_G.drop 252).take 12).all (ab_glOK tb lw_tw) = true := by decide +kernel
set_option maxRecDepth 100000 in
theorem tb_okG_264 : ((tb_G.drop 264).take 12).all (ab_glOK tb lw_tw) = true := by decide +kernel
set_option maxRecDepth 100000 in
theorem tb_okG_276 : ((tb_G.drop 276).take 12).all (ab_glOK tb lw_tw) = true := by decide +kernel
theorem tb_okG : tb_G.all (ab_glOK tb lw_tw) = true := by
  rw [← List.drop_zero (l := tb_G)]
  refine ab_allcut 0 12 tb_okG_0 ?_
  refine ab_allcut 12 12 tb_okG_12 ?_
  refine ab_allcut 24 12 tb_okG_24 ?_
  refine ab_allcut 36 12 tb_okG_36 ?_
  refine ab_allcut 48 12 tb_okG_48 ?_
  refine ab_allcut 60 12 tb_okG_60 ?_
  refine ab_allcut 72 12 tb_okG_72 ?_
  refine ab_allcut 84 12 tb_okG_84 ?_
  refine ab_allcut 96 12 tb_okG_96 ?_
  refine ab_allcut 108 12 tb_okG_108 ?_
  refine ab_allcut 120 12 tb_okG_120 ?_
  refine ab_allcut 132 12 tb_okG_132 ?_
  refine ab_allcut 144 12 tb_okG_144 ?_
  refine ab_allcut 156 12 tb_okG_156 ?_
  refine ab_allcut 168 12 tb_okG_168 ?_
  refine ab_allcut 180 12 tb_okG_180 ?_
  refine ab_allcut 192 12 tb_okG_192 ?_
  refine ab_allcut 204 12 tb_okG_204 ?_
  refine ab_allcut 216 12 tb_okG_216 ?_
  refine ab_allcut 228 12 tb_okG_228 ?_
  refine ab_allcut 240 12 tb_okG_240 ?_
  refine ab_allcut 252 12 tb_okG_252 ?_
  refine ab_allcut 264 12 tb_okG_264 ?_
  refine ab_allcut 276 12 tb_okG_276 ?_
  exact ab_allend 288 (by decide +kernel)
set_option maxRecDepth 100000 in
theorem tb_okK_0 : ((tb_K.drop 0).take 12).all (ab_klOK lw_tw) = true := by decide +kernel
set_option maxRecDepth 100000 in
theorem tb_okK_12 : ((tb_K.drop 12).take 12).all (ab_klOK lw_tw) = true := by decide +kernel
theorem tb_okK : tb_K.all (ab_klOK lw_tw) = true := by
  rw [← List.drop_zero (l := tb_K)]
  refine ab_allcut 0 12 tb_okK_0 ?_
  refine ab_allcut 12 12 tb_okK_12 ?_
  exact ab_allend 24 (by decide +kernel)
set_option maxRecDepth 100000 in
theorem tb_okM_0 : ((tb_M.drop 0).take 12).all (ab_mOK lw_tw) = true := by decide +kernel
set_option maxRecDepth 100000 in
theorem tb_okM_12 : ((tb_M.drop 12).take 12).all (ab_mOK lw_tw) = true := by decide +kernel
set_option maxRecDepth 100000 in
theorem tb_okM_24 : ((tb_M.drop 24).take 12).all (ab_mOK lw_tw) = true := by decide +kernel
set_option maxRecDepth 100000 in
theorem tb_okM_36 : ((tb_M.drop 36).take 12).all (ab_mOK lw_tw) = true := by decide +kernel
set_option maxRecDepth 100000 in
theorem tb_okM_48 : ((tb_M.drop 48).take 12).all (ab_mOK lw_tw) = true := by decide +kernel
set_option maxRecDepth 100000 in
theorem tb_okM_60 : ((tb_M.drop 60).take 12).all (ab_mOK lw_tw) = true := by decide +kernel
set_option maxRecDepth 100000 in
theorem tb_okM_72 : ((tb_M.drop 72).take 12).all (ab_mOK lw_tw) = true := by decide +kernel
set_option maxRecDepth 100000 in
theorem tb_okM_84 : ((tb_M.drop 84).take 12).all (ab_mOK lw_tw) = true := by decide +kernel
set_option maxRecDepth 100000 in
theorem tb_okM_96 : ((tb_M.drop 96).take 12).all (ab_mOK lw_tw) = true := by decide +kernel
set_option maxRecDepth 100000 in
theorem tb_okM_108 : ((tb_M.drop 108).take 12).all (ab_mOK lw_tw) = true := by decide +kernel
set_option maxRecDepth 100000 in
theorem tb_okM_120 : ((tb_M.drop 120).take 12).all (ab_mOK lw_tw) = true := by decide +kernel
set_option maxRecDepth 100000 in
theorem tb_okM_132 : ((tb_M.drop 132).take 12).all (ab_mOK lw_tw) = true := by decide +kernel
set_option maxRecDepth 100000 in
theorem tb_okM_144 : ((tb_M.drop 144).take 12).all (ab_mOK lw_tw) = true := by decide +kernel
set_option maxRecDepth 100000 in
theorem tb_okM_156 : ((tb_M.drop 156).take 12).all (ab_mOK lw_tw) = true := by decide +kernel
set_option maxRecDepth 100000 in
theorem tb_okM_168 : ((tb_M.drop 168).take 12).all (ab_mOK lw_tw) = true := by decide +kernel
set_option maxRecDepth 100000 in
theorem tb_okM_180 : ((tb_M.drop 180).take 12).all (ab_mOK lw_tw) = true := by decide +kernel
set_option maxRecDepth 100000 in
theorem tb_okM_192 : ((tb_M.drop 192).take 12).all (ab_mOK lw_tw) = true := by decide +kernel
set_option maxRecDepth 100000 in
theorem tb_okM_204 : ((tb_M.drop 204).take 12).all (ab_mOK lw_tw) = true := by decide +kernel
set_option maxRecDepth 100000 in
theorem tb_okM_216 : ((tb_M.drop 216).take 12).all (ab_mOK lw_tw) = true := by decide +kernel
set_option maxRecDepth 100000 in
theorem tb_okM_228 : ((tb_M.drop 228).take 12).all (ab_mOK lw_tw) = true := by decide +kernel
theorem tb_okM : tb_M.all (ab_mOK lw_tw) = true := by
  rw [← List.drop_zero (l := tb_M)]
  refine ab_allcut 0 12 tb_okM_0 ?_
  refine ab_allcut 12 12 tb_okM_12 ?_
  refine ab_allcut 24 12 tb_okM_24 ?_
  refine ab_allcut 36 12 tb_okM_36 ?_
  refine ab_allcut 48 12 tb_okM_48 ?_
  refine ab_allcut 60 12 tb_okM_60 ?_
  refine ab_allcut 72 12 tb_okM_72 ?_
  refine ab_allcut 84 12 tb_okM_84 ?_
  refine ab_allcut 96 12 tb_okM_96 ?_
  refine ab_allcut 108 12 tb_okM_108 ?_
  refine ab_allcut 120 12 tb_okM_120 ?_
  refine ab_allcut 132 12 tb_okM_132 ?_
  refine ab_allcut 144 12 tb_okM_144 ?_
  refine ab_allcut 156 12 tb_okM_156 ?_
  refine ab_allcut 168 12 tb_okM_168 ?_
  refine ab_allcut 180 12 tb_okM_180 ?_
  refine ab_allcut 192 12 tb_okM_192 ?_
  refine ab_allcut 204 12 tb_okM_204 ?_
  refine ab_allcut 216 12 tb_okM_216 ?_
  refine ab_allcut 228 12 tb_okM_228 ?_
  exact ab_allend 240 (by decide +kernel)
