/-! THE TABLES HOLD, by the kernel (wip/gen/valid.py) -/
theorem ab_allcut {α : Type} {f : α → Bool} {l : List α} (a k : Nat) (h1 : ((l.drop a).take k).all f = true) (h2 : (l.drop (a + k)).all f = true) : (l.drop a).all f = true := by
  rw [← List.take_append_drop k (l.drop a), List.all_append, h1, List.drop_drop, h2]
  rfl
theorem ab_allend {α : Type} {f : α → Bool} {l : List α} (a : Nat) (h : l.length ≤ a) : (l.drop a).all f = true := by
  rw [List.drop_eq_nil_of_le h]
  rfl
theorem ab_lyOK {ts : List (List Cond)} {C : String} {T : u_T} (is : List Nat) (h : (List.range is.length).all (fun k => ab_has ts ((ab_nth is k).getD 0) (u_lay C T k)) = true) : ∀ w ∈ u_ws C T is.length, w ∈ ts.flatten := by
  intro w hw
  unfold u_ws at hw
  obtain ⟨k, hk, e⟩ := List.mem_map.mp hw
  rw [← e]
  exact ab_has_mem (List.all_eq_true.mp h k hk)
theorem ab_and2 {a b : Bool} (h : (a && b) = true) : a = true ∧ b = true := by
  rw [Bool.and_eq_true] at h
  exact h
set_option maxRecDepth 100000 in
theorem tb_cl0 : (List.range ([] : List Nat).length).all (fun k => ab_has lw_tw ((ab_nth ([] : List Nat) k).getD 0) (u_lay "ScrewLeft$Step" (tb_T tb_f0) k)) = true := by decide +kernel
set_option maxRecDepth 100000 in
theorem tb_cd0 : (∀ a, a < 0 → ∀ b, b < 0 → a ≠ b → (tb_T tb_f0 a).2.1 ≠ (tb_T tb_f0 b).2.1) ∧ (∀ k, k < 0 → (parseFieldDescriptor (tb_T tb_f0 k).2.2.1).isSome = true) := by decide +kernel
set_option maxRecDepth 100000 in
theorem tb_ci0 : (ab_has lw_tw 1037 (Cond.instantiable "ScrewLeft$Step" 0) && ab_has lw_tw 1002 (Cond.initialized "ScrewLeft$Step")) = true := by decide +kernel
theorem tb_c0 : ab_clOK lw_tw.flatten ("ScrewLeft$Step", tb_T tb_f0, 0) :=
  ⟨ab_lyOK ([] : List Nat) tb_cl0, tb_cd0.1, tb_cd0.2, ab_has_mem (ab_and2 tb_ci0).1, ab_has_mem (ab_and2 tb_ci0).2⟩
set_option maxRecDepth 100000 in
theorem tb_cl1 : (List.range ([] : List Nat).length).all (fun k => ab_has lw_tw ((ab_nth ([] : List Nat) k).getD 0) (u_lay "ScrewLeft$Board" (tb_T tb_f1) k)) = true := by decide +kernel
set_option maxRecDepth 100000 in
theorem tb_cd1 : (∀ a, a < 0 → ∀ b, b < 0 → a ≠ b → (tb_T tb_f1 a).2.1 ≠ (tb_T tb_f1 b).2.1) ∧ (∀ k, k < 0 → (parseFieldDescriptor (tb_T tb_f1 k).2.2.1).isSome = true) := by decide +kernel
set_option maxRecDepth 100000 in
theorem tb_ci1 : (ab_has lw_tw 1044 (Cond.instantiable "ScrewLeft$Board" 0) && ab_has lw_tw 1003 (Cond.initialized "ScrewLeft$Board")) = true := by decide +kernel
theorem tb_c1 : ab_clOK lw_tw.flatten ("ScrewLeft$Board", tb_T tb_f1, 0) :=
  ⟨ab_lyOK ([] : List Nat) tb_cl1, tb_cd1.1, tb_cd1.2, ab_has_mem (ab_and2 tb_ci1).1, ab_has_mem (ab_and2 tb_ci1).2⟩
set_option maxRecDepth 100000 in
theorem tb_cl2 : (List.range ([] : List Nat).length).all (fun k => ab_has lw_tw ((ab_nth ([] : List Nat) k).getD 0) (u_lay "ScrewLeft$Glued" (tb_T tb_f2) k)) = true := by decide +kernel
set_option maxRecDepth 100000 in
theorem tb_cd2 : (∀ a, a < 0 → ∀ b, b < 0 → a ≠ b → (tb_T tb_f2 a).2.1 ≠ (tb_T tb_f2 b).2.1) ∧ (∀ k, k < 0 → (parseFieldDescriptor (tb_T tb_f2 k).2.2.1).isSome = true) := by decide +kernel
set_option maxRecDepth 100000 in
theorem tb_ci2 : (ab_has lw_tw 1051 (Cond.instantiable "ScrewLeft$Glued" 0) && ab_has lw_tw 1004 (Cond.initialized "ScrewLeft$Glued")) = true := by decide +kernel
theorem tb_c2 : ab_clOK lw_tw.flatten ("ScrewLeft$Glued", tb_T tb_f2, 0) :=
  ⟨ab_lyOK ([] : List Nat) tb_cl2, tb_cd2.1, tb_cd2.2, ab_has_mem (ab_and2 tb_ci2).1, ab_has_mem (ab_and2 tb_ci2).2⟩
set_option maxRecDepth 100000 in
theorem tb_cl3 : (List.range ([] : List Nat).length).all (fun k => ab_has lw_tw ((ab_nth ([] : List Nat) k).getD 0) (u_lay "ScrewLeft$Held" (tb_T tb_f3) k)) = true := by decide +kernel
set_option maxRecDepth 100000 in
theorem tb_cd3 : (∀ a, a < 0 → ∀ b, b < 0 → a ≠ b → (tb_T tb_f3 a).2.1 ≠ (tb_T tb_f3 b).2.1) ∧ (∀ k, k < 0 → (parseFieldDescriptor (tb_T tb_f3 k).2.2.1).isSome = true) := by decide +kernel
set_option maxRecDepth 100000 in
theorem tb_ci3 : (ab_has lw_tw 1058 (Cond.instantiable "ScrewLeft$Held" 0) && ab_has lw_tw 1005 (Cond.initialized "ScrewLeft$Held")) = true := by decide +kernel
theorem tb_c3 : ab_clOK lw_tw.flatten ("ScrewLeft$Held", tb_T tb_f3, 0) :=
  ⟨ab_lyOK ([] : List Nat) tb_cl3, tb_cd3.1, tb_cd3.2, ab_has_mem (ab_and2 tb_ci3).1, ab_has_mem (ab_and2 tb_ci3).2⟩
set_option maxRecDepth 100000 in
theorem tb_cl4 : (List.range ([] : List Nat).length).all (fun k => ab_has lw_tw ((ab_nth ([] : List Nat) k).getD 0) (u_lay "ScrewLeft$Alike" (tb_T tb_f4) k)) = true := by decide +kernel
set_option maxRecDepth 100000 in
theorem tb_cd4 : (∀ a, a < 0 → ∀ b, b < 0 → a ≠ b → (tb_T tb_f4 a).2.1 ≠ (tb_T tb_f4 b).2.1) ∧ (∀ k, k < 0 → (parseFieldDescriptor (tb_T tb_f4 k).2.2.1).isSome = true) := by decide +kernel
set_option maxRecDepth 100000 in
theorem tb_ci4 : (ab_has lw_tw 1065 (Cond.instantiable "ScrewLeft$Alike" 0) && ab_has lw_tw 1006 (Cond.initialized "ScrewLeft$Alike")) = true := by decide +kernel
theorem tb_c4 : ab_clOK lw_tw.flatten ("ScrewLeft$Alike", tb_T tb_f4, 0) :=
  ⟨ab_lyOK ([] : List Nat) tb_cl4, tb_cd4.1, tb_cd4.2, ab_has_mem (ab_and2 tb_ci4).1, ab_has_mem (ab_and2 tb_ci4).2⟩
set_option maxRecDepth 100000 in
theorem tb_cl5 : (List.range ([] : List Nat).length).all (fun k => ab_has lw_tw ((ab_nth ([] : List Nat) k).getD 0) (u_lay "ScrewLeft$Sealed" (tb_T tb_f5) k)) = true := by decide +kernel
set_option maxRecDepth 100000 in
theorem tb_cd5 : (∀ a, a < 0 → ∀ b, b < 0 → a ≠ b → (tb_T tb_f5 a).2.1 ≠ (tb_T tb_f5 b).2.1) ∧ (∀ k, k < 0 → (parseFieldDescriptor (tb_T tb_f5 k).2.2.1).isSome = true) := by decide +kernel
set_option maxRecDepth 100000 in
theorem tb_ci5 : (ab_has lw_tw 1072 (Cond.instantiable "ScrewLeft$Sealed" 0) && ab_has lw_tw 1007 (Cond.initialized "ScrewLeft$Sealed")) = true := by decide +kernel
theorem tb_c5 : ab_clOK lw_tw.flatten ("ScrewLeft$Sealed", tb_T tb_f5, 0) :=
  ⟨ab_lyOK ([] : List Nat) tb_cl5, tb_cd5.1, tb_cd5.2, ab_has_mem (ab_and2 tb_ci5).1, ab_has_mem (ab_and2 tb_ci5).2⟩
set_option maxRecDepth 100000 in
theorem tb_cl6 : (List.range ([] : List Nat).length).all (fun k => ab_has lw_tw ((ab_nth ([] : List Nat) k).getD 0) (u_lay "ScrewLeft$Carried" (tb_T tb_f6) k)) = true := by decide +kernel
set_option maxRecDepth 100000 in
theorem tb_cd6 : (∀ a, a < 0 → ∀ b, b < 0 → a ≠ b → (tb_T tb_f6 a).2.1 ≠ (tb_T tb_f6 b).2.1) ∧ (∀ k, k < 0 → (parseFieldDescriptor (tb_T tb_f6 k).2.2.1).isSome = true) := by decide +kernel
set_option maxRecDepth 100000 in
theorem tb_ci6 : (ab_has lw_tw 1079 (Cond.instantiable "ScrewLeft$Carried" 0) && ab_has lw_tw 1008 (Cond.initialized "ScrewLeft$Carried")) = true := by decide +kernel
theorem tb_c6 : ab_clOK lw_tw.flatten ("ScrewLeft$Carried", tb_T tb_f6, 0) :=
  ⟨ab_lyOK ([] : List Nat) tb_cl6, tb_cd6.1, tb_cd6.2, ab_has_mem (ab_and2 tb_ci6).1, ab_has_mem (ab_and2 tb_ci6).2⟩
set_option maxRecDepth 100000 in
theorem tb_cl7 : (List.range ([1145, 1147, 1149, 1151, 1153, 1155, 1157, 1159, 1161, 1163, 1165, 1167, 1169, 1171, 1173, 1175, 1177, 1179] : List Nat).length).all (fun k => ab_has lw_tw ((ab_nth ([1145, 1147, 1149, 1151, 1153, 1155, 1157, 1159, 1161, 1163, 1165, 1167, 1169, 1171, 1173, 1175, 1177, 1179] : List Nat) k).getD 0) (u_lay "ScrewLeft$Job" (tb_T tb_f7) k)) = true := by decide +kernel
set_option maxRecDepth 100000 in
theorem tb_cd7 : (∀ a, a < 18 → ∀ b, b < 18 → a ≠ b → (tb_T tb_f7 a).2.1 ≠ (tb_T tb_f7 b).2.1) ∧ (∀ k, k < 18 → (parseFieldDescriptor (tb_T tb_f7 k).2.2.1).isSome = true) := by decide +kernel
set_option maxRecDepth 100000 in
theorem tb_ci7 : (ab_has lw_tw 1086 (Cond.instantiable "ScrewLeft$Job" 18) && ab_has lw_tw 1009 (Cond.initialized "ScrewLeft$Job")) = true := by decide +kernel
theorem tb_c7 : ab_clOK lw_tw.flatten ("ScrewLeft$Job", tb_T tb_f7, 18) :=
  ⟨ab_lyOK ([1145, 1147, 1149, 1151, 1153, 1155, 1157, 1159, 1161, 1163, 1165, 1167, 1169, 1171, 1173, 1175, 1177, 1179] : List Nat) tb_cl7, tb_cd7.1, tb_cd7.2, ab_has_mem (ab_and2 tb_ci7).1, ab_has_mem (ab_and2 tb_ci7).2⟩
set_option maxRecDepth 100000 in
theorem tb_cl8 : (List.range ([1102, 1104, 1106] : List Nat).length).all (fun k => ab_has lw_tw ((ab_nth ([1102, 1104, 1106] : List Nat) k).getD 0) (u_lay "ScrewLeft$Text" (tb_T tb_f8) k)) = true := by decide +kernel
set_option maxRecDepth 100000 in
theorem tb_cd8 : (∀ a, a < 3 → ∀ b, b < 3 → a ≠ b → (tb_T tb_f8 a).2.1 ≠ (tb_T tb_f8 b).2.1) ∧ (∀ k, k < 3 → (parseFieldDescriptor (tb_T tb_f8 k).2.2.1).isSome = true) := by decide +kernel
set_option maxRecDepth 100000 in
theorem tb_ci8 : (ab_has lw_tw 1092 (Cond.instantiable "ScrewLeft$Text" 3) && ab_has lw_tw 1010 (Cond.initialized "ScrewLeft$Text")) = true := by decide +kernel
theorem tb_c8 : ab_clOK lw_tw.flatten ("ScrewLeft$Text", tb_T tb_f8, 3) :=
  ⟨ab_lyOK ([1102, 1104, 1106] : List Nat) tb_cl8, tb_cd8.1, tb_cd8.2, ab_has_mem (ab_and2 tb_ci8).1, ab_has_mem (ab_and2 tb_ci8).2⟩
set_option maxRecDepth 100000 in
theorem tb_cl9 : (List.range ([1198, 1200, 1202, 1204, 1206, 1208, 1210] : List Nat).length).all (fun k => ab_has lw_tw ((ab_nth ([1198, 1200, 1202, 1204, 1206, 1208, 1210] : List Nat) k).getD 0) (u_lay "ScrewLeft$Reader" (tb_T tb_f9) k)) = true := by decide +kernel
set_option maxRecDepth 100000 in
theorem tb_cd9 : (∀ a, a < 7 → ∀ b, b < 7 → a ≠ b → (tb_T tb_f9 a).2.1 ≠ (tb_T tb_f9 b).2.1) ∧ (∀ k, k < 7 → (parseFieldDescriptor (tb_T tb_f9 k).2.2.1).isSome = true) := by decide +kernel
set_option maxRecDepth 100000 in
theorem tb_ci9 : (ab_has lw_tw 1183 (Cond.instantiable "ScrewLeft$Reader" 7) && ab_has lw_tw 1011 (Cond.initialized "ScrewLeft$Reader")) = true := by decide +kernel
theorem tb_c9 : ab_clOK lw_tw.flatten ("ScrewLeft$Reader", tb_T tb_f9, 7) :=
  ⟨ab_lyOK ([1198, 1200, 1202, 1204, 1206, 1208, 1210] : List Nat) tb_cl9, tb_cd9.1, tb_cd9.2, ab_has_mem (ab_and2 tb_ci9).1, ab_has_mem (ab_and2 tb_ci9).2⟩
set_option maxRecDepth 100000 in
theorem tb_cl10 : (List.range ([1229, 1231, 1233, 1235] : List Nat).length).all (fun k => ab_has lw_tw ((ab_nth ([1229, 1231, 1233, 1235] : List Nat) k).getD 0) (u_lay "ScrewLeft$Voice" (tb_T tb_f10) k)) = true := by decide +kernel
set_option maxRecDepth 100000 in
theorem tb_cd10 : (∀ a, a < 4 → ∀ b, b < 4 → a ≠ b → (tb_T tb_f10 a).2.1 ≠ (tb_T tb_f10 b).2.1) ∧ (∀ k, k < 4 → (parseFieldDescriptor (tb_T tb_f10 k).2.2.1).isSome = true) := by decide +kernel
set_option maxRecDepth 100000 in
theorem tb_ci10 : (ab_has lw_tw 1215 (Cond.instantiable "ScrewLeft$Voice" 4) && ab_has lw_tw 1012 (Cond.initialized "ScrewLeft$Voice")) = true := by decide +kernel
theorem tb_c10 : ab_clOK lw_tw.flatten ("ScrewLeft$Voice", tb_T tb_f10, 4) :=
  ⟨ab_lyOK ([1229, 1231, 1233, 1235] : List Nat) tb_cl10, tb_cd10.1, tb_cd10.2, ab_has_mem (ab_and2 tb_ci10).1, ab_has_mem (ab_and2 tb_ci10).2⟩
set_option maxRecDepth 100000 in
theorem tb_cl11 : (List.range ([2013, 2015, 2017, 2019, 2021, 2023, 2025, 2027, 2029, 2031, 2033, 2035, 2037] : List Nat).length).all (fun k => ab_has lw_tw ((ab_nth ([2013, 2015, 2017, 2019, 2021, 2023, 2025, 2027, 2029, 2031, 2033, 2035, 2037] : List Nat) k).getD 0) (u_lay "ScrewLeft" (tb_T tb_f11) k)) = true := by decide +kernel
set_option maxRecDepth 100000 in
theorem tb_cd11 : (∀ a, a < 13 → ∀ b, b < 13 → a ≠ b → (tb_T tb_f11 a).2.1 ≠ (tb_T tb_f11 b).2.1) ∧ (∀ k, k < 13 → (parseFieldDescriptor (tb_T tb_f11 k).2.2.1).isSome = true) := by decide +kernel
set_option maxRecDepth 100000 in
theorem tb_ci11 : (ab_has lw_tw 1023 (Cond.instantiable "ScrewLeft" 13) && ab_has lw_tw 1001 (Cond.initialized "ScrewLeft")) = true := by decide +kernel
theorem tb_c11 : ab_clOK lw_tw.flatten ("ScrewLeft", tb_T tb_f11, 13) :=
  ⟨ab_lyOK ([2013, 2015, 2017, 2019, 2021, 2023, 2025, 2027, 2029, 2031, 2033, 2035, 2037] : List Nat) tb_cl11, tb_cd11.1, tb_cd11.2, ab_has_mem (ab_and2 tb_ci11).1, ab_has_mem (ab_and2 tb_ci11).2⟩
set_option maxRecDepth 100000 in
theorem tb_cl12 : (List.range ([4197, 4199, 4201, 4203, 4205, 4207, 4209, 4211, 4213, 4215, 4217, 4219, 4221, 4223, 4225, 4227, 4229, 4231, 4233, 4235, 4237, 4239, 5001, 5003, 5005] : List Nat).length).all (fun k => ab_has lw_tw ((ab_nth ([4197, 4199, 4201, 4203, 4205, 4207, 4209, 4211, 4213, 4215, 4217, 4219, 4221, 4223, 4225, 4227, 4229, 4231, 4233, 4235, 4237, 4239, 5001, 5003, 5005] : List Nat) k).getD 0) (u_lay "ScrewLeftModel" (tb_T tb_f12) k)) = true := by decide +kernel
set_option maxRecDepth 100000 in
theorem tb_cd12 : (∀ a, a < 25 → ∀ b, b < 25 → a ≠ b → (tb_T tb_f12 a).2.1 ≠ (tb_T tb_f12 b).2.1) ∧ (∀ k, k < 25 → (parseFieldDescriptor (tb_T tb_f12 k).2.2.1).isSome = true) := by decide +kernel
set_option maxRecDepth 100000 in
theorem tb_ci12 : (ab_has lw_tw 4167 (Cond.instantiable "ScrewLeftModel" 25) && ab_has lw_tw 1013 (Cond.initialized "ScrewLeftModel")) = true := by decide +kernel
theorem tb_c12 : ab_clOK lw_tw.flatten ("ScrewLeftModel", tb_T tb_f12, 25) :=
  ⟨ab_lyOK ([4197, 4199, 4201, 4203, 4205, 4207, 4209, 4211, 4213, 4215, 4217, 4219, 4221, 4223, 4225, 4227, 4229, 4231, 4233, 4235, 4237, 4239, 5001, 5003, 5005] : List Nat) tb_cl12, tb_cd12.1, tb_cd12.2, ab_has_mem (ab_and2 tb_ci12).1, ab_has_mem (ab_and2 tb_ci12).2⟩
theorem tb_okC : ∀ q ∈ tb_cl, ab_clOK lw_tw.flatten q := List.forall_mem_cons.mpr ⟨tb_c0, List.forall_mem_cons.mpr ⟨tb_c1, List.forall_mem_cons.mpr ⟨tb_c2, List.forall_mem_cons.mpr ⟨tb_c3, List.forall_mem_cons.mpr ⟨tb_c4, List.forall_mem_cons.mpr ⟨tb_c5, List.forall_mem_cons.mpr ⟨tb_c6, List.forall_mem_cons.mpr ⟨tb_c7, List.forall_mem_cons.mpr ⟨tb_c8, List.forall_mem_cons.mpr ⟨tb_c9, List.forall_mem_cons.mpr ⟨tb_c10, List.forall_mem_cons.mpr ⟨tb_c11, List.forall_mem_cons.mpr ⟨tb_c12, fun _ h => absurd h List.not_mem_nil⟩⟩⟩⟩⟩⟩⟩⟩⟩⟩⟩⟩⟩
