/-! the methods of the tables: their words are the printed ones, by rfl (wip/gen/valid.py) -/
def ab_word (ts : List (List Cond)) (i : Nat) : Option Cond := match ab_nth ts (i / 1000) with
  | some l => ab_nth l (i % 1000)
  | none => none
theorem ab_has_of {ts : List (List Cond)} {i : Nat} {w : Cond} (h : ab_word ts i = some w) : ab_has ts i w = true := by
  unfold ab_word at h
  split at h
  · rename_i l hl
    have e : ab_has ts i w = decide (w = w) := by
      unfold ab_has
      simp only [hl, h]
    rw [e]
    exact decide_eq_true rfl
  · cases h
def ab_pl (c : String) : Bool := ab_plain c && plainName c
theorem ab_mOK_of {ts : List (List Cond)} {M : ab_M} (h1 : ab_word ts M.2.2.2.2.2.2.1.1 = some (.code M.1 M.2.1 M.2.2.1 M.2.2.2.1)) (h2 : ab_word ts M.2.2.2.2.2.2.1.2.2 = some (.initialized M.1.cls)) (h3 : Nat.ble M.2.2.1 45 = true) (h4 : ab_pl M.1.cls = true) : ab_mOK ts M = true := by
  unfold ab_pl at h4
  rw [Bool.and_eq_true] at h4
  unfold ab_mOK
  rw [ab_has_of h1, ab_has_of h2, h3, h4.1, h4.2]
  rfl
set_option maxRecDepth 100000 in
theorem tb_pl0 : ab_pl "ScrewLeft$Step" = true := by decide +kernel
set_option maxRecDepth 100000 in
theorem tb_pl1 : ab_pl "ScrewLeft$Board" = true := by decide +kernel
set_option maxRecDepth 100000 in
theorem tb_pl2 : ab_pl "ScrewLeft$Glued" = true := by decide +kernel
set_option maxRecDepth 100000 in
theorem tb_pl3 : ab_pl "ScrewLeft$Held" = true := by decide +kernel
set_option maxRecDepth 100000 in
theorem tb_pl4 : ab_pl "ScrewLeft$Alike" = true := by decide +kernel
set_option maxRecDepth 100000 in
theorem tb_pl5 : ab_pl "ScrewLeft$Sealed" = true := by decide +kernel
set_option maxRecDepth 100000 in
theorem tb_pl6 : ab_pl "ScrewLeft$Carried" = true := by decide +kernel
set_option maxRecDepth 100000 in
theorem tb_pl7 : ab_pl "ScrewLeft$Job" = true := by decide +kernel
set_option maxRecDepth 100000 in
theorem tb_pl8 : ab_pl "ScrewLeft$Text" = true := by decide +kernel
set_option maxRecDepth 100000 in
theorem tb_pl9 : ab_pl "ScrewLeft$Reader" = true := by decide +kernel
set_option maxRecDepth 100000 in
theorem tb_pl10 : ab_pl "ScrewLeft$Voice" = true := by decide +kernel
set_option maxRecDepth 100000 in
theorem tb_pl11 : ab_pl "ScrewLeft" = true := by decide +kernel
set_option maxRecDepth 100000 in
theorem tb_pl12 : ab_pl "ScrewLeftModel" = true := by decide +kernel
set_option maxRecDepth 100000 in
theorem tb_pl13 : ab_pl "java/lang/Integer" = true := by decide +kernel
set_option maxRecDepth 100000 in
theorem tb_pl14 : ab_pl "java/lang/String" = true := by decide +kernel
set_option maxRecDepth 100000 in
theorem tb_pl15 : ab_pl "java/lang/StringLatin1" = true := by decide +kernel
set_option maxRecDepth 100000 in
theorem tb_okM_0 : ab_mOK lw_tw tb_m0 = true := ab_mOK_of rfl rfl rfl tb_pl0
set_option maxRecDepth 100000 in
theorem tb_okM_1 : ab_mOK lw_tw tb_m1 = true := ab_mOK_of rfl rfl rfl tb_pl0
set_option maxRecDepth 100000 in
theorem tb_okM_2 : ab_mOK lw_tw tb_m2 = true := ab_mOK_of rfl rfl rfl tb_pl0
set_option maxRecDepth 100000 in
theorem tb_okM_3 : ab_mOK lw_tw tb_m3 = true := ab_mOK_of rfl rfl rfl tb_pl0
set_option maxRecDepth 100000 in
theorem tb_okM_4 : ab_mOK lw_tw tb_m4 = true := ab_mOK_of rfl rfl rfl tb_pl0
set_option maxRecDepth 100000 in
theorem tb_okM_5 : ab_mOK lw_tw tb_m5 = true := ab_mOK_of rfl rfl rfl tb_pl0
set_option maxRecDepth 100000 in
theorem tb_okM_6 : ab_mOK lw_tw tb_m6 = true := ab_mOK_of rfl rfl rfl tb_pl0
set_option maxRecDepth 100000 in
theorem tb_okM_7 : ab_mOK lw_tw tb_m7 = true := ab_mOK_of rfl rfl rfl tb_pl0
set_option maxRecDepth 100000 in
theorem tb_okM_8 : ab_mOK lw_tw tb_m8 = true := ab_mOK_of rfl rfl rfl tb_pl0
set_option maxRecDepth 100000 in
theorem tb_okM_9 : ab_mOK lw_tw tb_m9 = true := ab_mOK_of rfl rfl rfl tb_pl1
set_option maxRecDepth 100000 in
theorem tb_okM_10 : ab_mOK lw_tw tb_m10 = true := ab_mOK_of rfl rfl rfl tb_pl1
set_option maxRecDepth 100000 in
theorem tb_okM_11 : ab_mOK lw_tw tb_m11 = true := ab_mOK_of rfl rfl rfl tb_pl1
set_option maxRecDepth 100000 in
theorem tb_okM_12 : ab_mOK lw_tw tb_m12 = true := ab_mOK_of rfl rfl rfl tb_pl2
set_option maxRecDepth 100000 in
theorem tb_okM_13 : ab_mOK lw_tw tb_m13 = true := ab_mOK_of rfl rfl rfl tb_pl2
set_option maxRecDepth 100000 in
theorem tb_okM_14 : ab_mOK lw_tw tb_m14 = true := ab_mOK_of rfl rfl rfl tb_pl2
set_option maxRecDepth 100000 in
theorem tb_okM_15 : ab_mOK lw_tw tb_m15 = true := ab_mOK_of rfl rfl rfl tb_pl2
set_option maxRecDepth 100000 in
theorem tb_okM_16 : ab_mOK lw_tw tb_m16 = true := ab_mOK_of rfl rfl rfl tb_pl3
set_option maxRecDepth 100000 in
theorem tb_okM_17 : ab_mOK lw_tw tb_m17 = true := ab_mOK_of rfl rfl rfl tb_pl3
set_option maxRecDepth 100000 in
theorem tb_okM_18 : ab_mOK lw_tw tb_m18 = true := ab_mOK_of rfl rfl rfl tb_pl3
set_option maxRecDepth 100000 in
theorem tb_okM_19 : ab_mOK lw_tw tb_m19 = true := ab_mOK_of rfl rfl rfl tb_pl3
set_option maxRecDepth 100000 in
theorem tb_okM_20 : ab_mOK lw_tw tb_m20 = true := ab_mOK_of rfl rfl rfl tb_pl4
set_option maxRecDepth 100000 in
theorem tb_okM_21 : ab_mOK lw_tw tb_m21 = true := ab_mOK_of rfl rfl rfl tb_pl4
set_option maxRecDepth 100000 in
theorem tb_okM_22 : ab_mOK lw_tw tb_m22 = true := ab_mOK_of rfl rfl rfl tb_pl4
set_option maxRecDepth 100000 in
theorem tb_okM_23 : ab_mOK lw_tw tb_m23 = true := ab_mOK_of rfl rfl rfl tb_pl5
set_option maxRecDepth 100000 in
theorem tb_okM_24 : ab_mOK lw_tw tb_m24 = true := ab_mOK_of rfl rfl rfl tb_pl5
set_option maxRecDepth 100000 in
theorem tb_okM_25 : ab_mOK lw_tw tb_m25 = true := ab_mOK_of rfl rfl rfl tb_pl5
set_option maxRecDepth 100000 in
theorem tb_okM_26 : ab_mOK lw_tw tb_m26 = true := ab_mOK_of rfl rfl rfl tb_pl6
set_option maxRecDepth 100000 in
theorem tb_okM_27 : ab_mOK lw_tw tb_m27 = true := ab_mOK_of rfl rfl rfl tb_pl6
set_option maxRecDepth 100000 in
theorem tb_okM_28 : ab_mOK lw_tw tb_m28 = true := ab_mOK_of rfl rfl rfl tb_pl6
set_option maxRecDepth 100000 in
theorem tb_okM_29 : ab_mOK lw_tw tb_m29 = true := ab_mOK_of rfl rfl rfl tb_pl6
set_option maxRecDepth 100000 in
theorem tb_okM_30 : ab_mOK lw_tw tb_m30 = true := ab_mOK_of rfl rfl rfl tb_pl6
set_option maxRecDepth 100000 in
theorem tb_okM_31 : ab_mOK lw_tw tb_m31 = true := ab_mOK_of rfl rfl rfl tb_pl7
set_option maxRecDepth 100000 in
theorem tb_okM_32 : ab_mOK lw_tw tb_m32 = true := ab_mOK_of rfl rfl rfl tb_pl7
set_option maxRecDepth 100000 in
theorem tb_okM_33 : ab_mOK lw_tw tb_m33 = true := ab_mOK_of rfl rfl rfl tb_pl7
set_option maxRecDepth 100000 in
theorem tb_okM_34 : ab_mOK lw_tw tb_m34 = true := ab_mOK_of rfl rfl rfl tb_pl7
set_option maxRecDepth 100000 in
theorem tb_okM_35 : ab_mOK lw_tw tb_m35 = true := ab_mOK_of rfl rfl rfl tb_pl7
set_option maxRecDepth 100000 in
theorem tb_okM_36 : ab_mOK lw_tw tb_m36 = true := ab_mOK_of rfl rfl rfl tb_pl7
set_option maxRecDepth 100000 in
theorem tb_okM_37 : ab_mOK lw_tw tb_m37 = true := ab_mOK_of rfl rfl rfl tb_pl7
set_option maxRecDepth 100000 in
theorem tb_okM_38 : ab_mOK lw_tw tb_m38 = true := ab_mOK_of rfl rfl rfl tb_pl7
set_option maxRecDepth 100000 in
theorem tb_okM_39 : ab_mOK lw_tw tb_m39 = true := ab_mOK_of rfl rfl rfl tb_pl7
set_option maxRecDepth 100000 in
theorem tb_okM_40 : ab_mOK lw_tw tb_m40 = true := ab_mOK_of rfl rfl rfl tb_pl7
set_option maxRecDepth 100000 in
theorem tb_okM_41 : ab_mOK lw_tw tb_m41 = true := ab_mOK_of rfl rfl rfl tb_pl7
set_option maxRecDepth 100000 in
theorem tb_okM_42 : ab_mOK lw_tw tb_m42 = true := ab_mOK_of rfl rfl rfl tb_pl7
set_option maxRecDepth 100000 in
theorem tb_okM_43 : ab_mOK lw_tw tb_m43 = true := ab_mOK_of rfl rfl rfl tb_pl7
set_option maxRecDepth 100000 in
theorem tb_okM_44 : ab_mOK lw_tw tb_m44 = true := ab_mOK_of rfl rfl rfl tb_pl7
set_option maxRecDepth 100000 in
theorem tb_okM_45 : ab_mOK lw_tw tb_m45 = true := ab_mOK_of rfl rfl rfl tb_pl7
set_option maxRecDepth 100000 in
theorem tb_okM_46 : ab_mOK lw_tw tb_m46 = true := ab_mOK_of rfl rfl rfl tb_pl7
set_option maxRecDepth 100000 in
theorem tb_okM_47 : ab_mOK lw_tw tb_m47 = true := ab_mOK_of rfl rfl rfl tb_pl7
set_option maxRecDepth 100000 in
theorem tb_okM_48 : ab_mOK lw_tw tb_m48 = true := ab_mOK_of rfl rfl rfl tb_pl7
set_option maxRecDepth 100000 in
theorem tb_okM_49 : ab_mOK lw_tw tb_m49 = true := ab_mOK_of rfl rfl rfl tb_pl7
set_option maxRecDepth 100000 in
theorem tb_okM_50 : ab_mOK lw_tw tb_m50 = true := ab_mOK_of rfl rfl rfl tb_pl7
set_option maxRecDepth 100000 in
theorem tb_okM_51 : ab_mOK lw_tw tb_m51 = true := ab_mOK_of rfl rfl rfl tb_pl7
set_option maxRecDepth 100000 in
theorem tb_okM_52 : ab_mOK lw_tw tb_m52 = true := ab_mOK_of rfl rfl rfl tb_pl7
set_option maxRecDepth 100000 in
theorem tb_okM_53 : ab_mOK lw_tw tb_m53 = true := ab_mOK_of rfl rfl rfl tb_pl7
set_option maxRecDepth 100000 in
theorem tb_okM_54 : ab_mOK lw_tw tb_m54 = true := ab_mOK_of rfl rfl rfl tb_pl8
set_option maxRecDepth 100000 in
theorem tb_okM_55 : ab_mOK lw_tw tb_m55 = true := ab_mOK_of rfl rfl rfl tb_pl8
set_option maxRecDepth 100000 in
theorem tb_okM_56 : ab_mOK lw_tw tb_m56 = true := ab_mOK_of rfl rfl rfl tb_pl8
set_option maxRecDepth 100000 in
theorem tb_okM_57 : ab_mOK lw_tw tb_m57 = true := ab_mOK_of rfl rfl rfl tb_pl8
set_option maxRecDepth 100000 in
theorem tb_okM_58 : ab_mOK lw_tw tb_m58 = true := ab_mOK_of rfl rfl rfl tb_pl8
set_option maxRecDepth 100000 in
theorem tb_okM_59 : ab_mOK lw_tw tb_m59 = true := ab_mOK_of rfl rfl rfl tb_pl8
set_option maxRecDepth 100000 in
theorem tb_okM_60 : ab_mOK lw_tw tb_m60 = true := ab_mOK_of rfl rfl rfl tb_pl9
set_option maxRecDepth 100000 in
theorem tb_okM_61 : ab_mOK lw_tw tb_m61 = true := ab_mOK_of rfl rfl rfl tb_pl9
set_option maxRecDepth 100000 in
theorem tb_okM_62 : ab_mOK lw_tw tb_m62 = true := ab_mOK_of rfl rfl rfl tb_pl9
set_option maxRecDepth 100000 in
theorem tb_okM_63 : ab_mOK lw_tw tb_m63 = true := ab_mOK_of rfl rfl rfl tb_pl9
set_option maxRecDepth 100000 in
theorem tb_okM_64 : ab_mOK lw_tw tb_m64 = true := ab_mOK_of rfl rfl rfl tb_pl9
set_option maxRecDepth 100000 in
theorem tb_okM_65 : ab_mOK lw_tw tb_m65 = true := ab_mOK_of rfl rfl rfl tb_pl9
set_option maxRecDepth 100000 in
theorem tb_okM_66 : ab_mOK lw_tw tb_m66 = true := ab_mOK_of rfl rfl rfl tb_pl9
set_option maxRecDepth 100000 in
theorem tb_okM_67 : ab_mOK lw_tw tb_m67 = true := ab_mOK_of rfl rfl rfl tb_pl9
set_option maxRecDepth 100000 in
theorem tb_okM_68 : ab_mOK lw_tw tb_m68 = true := ab_mOK_of rfl rfl rfl tb_pl9
set_option maxRecDepth 100000 in
theorem tb_okM_69 : ab_mOK lw_tw tb_m69 = true := ab_mOK_of rfl rfl rfl tb_pl9
set_option maxRecDepth 100000 in
theorem tb_okM_70 : ab_mOK lw_tw tb_m70 = true := ab_mOK_of rfl rfl rfl tb_pl10
set_option maxRecDepth 100000 in
theorem tb_okM_71 : ab_mOK lw_tw tb_m71 = true := ab_mOK_of rfl rfl rfl tb_pl10
set_option maxRecDepth 100000 in
theorem tb_okM_72 : ab_mOK lw_tw tb_m72 = true := ab_mOK_of rfl rfl rfl tb_pl10
set_option maxRecDepth 100000 in
theorem tb_okM_73 : ab_mOK lw_tw tb_m73 = true := ab_mOK_of rfl rfl rfl tb_pl11
set_option maxRecDepth 100000 in
theorem tb_okM_74 : ab_mOK lw_tw tb_m74 = true := ab_mOK_of rfl rfl rfl tb_pl11
set_option maxRecDepth 100000 in
theorem tb_okM_75 : ab_mOK lw_tw tb_m75 = true := ab_mOK_of rfl rfl rfl tb_pl11
set_option maxRecDepth 100000 in
theorem tb_okM_76 : ab_mOK lw_tw tb_m76 = true := ab_mOK_of rfl rfl rfl tb_pl11
set_option maxRecDepth 100000 in
theorem tb_okM_77 : ab_mOK lw_tw tb_m77 = true := ab_mOK_of rfl rfl rfl tb_pl11
set_option maxRecDepth 100000 in
theorem tb_okM_78 : ab_mOK lw_tw tb_m78 = true := ab_mOK_of rfl rfl rfl tb_pl11
set_option maxRecDepth 100000 in
theorem tb_okM_79 : ab_mOK lw_tw tb_m79 = true := ab_mOK_of rfl rfl rfl tb_pl11
set_option maxRecDepth 100000 in
theorem tb_okM_80 : ab_mOK lw_tw tb_m80 = true := ab_mOK_of rfl rfl rfl tb_pl11
set_option maxRecDepth 100000 in
theorem tb_okM_81 : ab_mOK lw_tw tb_m81 = true := ab_mOK_of rfl rfl rfl tb_pl11
set_option maxRecDepth 100000 in
theorem tb_okM_82 : ab_mOK lw_tw tb_m82 = true := ab_mOK_of rfl rfl rfl tb_pl11
set_option maxRecDepth 100000 in
theorem tb_okM_83 : ab_mOK lw_tw tb_m83 = true := ab_mOK_of rfl rfl rfl tb_pl11
set_option maxRecDepth 100000 in
theorem tb_okM_84 : ab_mOK lw_tw tb_m84 = true := ab_mOK_of rfl rfl rfl tb_pl11
set_option maxRecDepth 100000 in
theorem tb_okM_85 : ab_mOK lw_tw tb_m85 = true := ab_mOK_of rfl rfl rfl tb_pl11
set_option maxRecDepth 100000 in
theorem tb_okM_86 : ab_mOK lw_tw tb_m86 = true := ab_mOK_of rfl rfl rfl tb_pl11
set_option maxRecDepth 100000 in
theorem tb_okM_87 : ab_mOK lw_tw tb_m87 = true := ab_mOK_of rfl rfl rfl tb_pl11
set_option maxRecDepth 100000 in
theorem tb_okM_88 : ab_mOK lw_tw tb_m88 = true := ab_mOK_of rfl rfl rfl tb_pl11
set_option maxRecDepth 100000 in
theorem tb_okM_89 : ab_mOK lw_tw tb_m89 = true := ab_mOK_of rfl rfl rfl tb_pl11
set_option maxRecDepth 100000 in
theorem tb_okM_90 : ab_mOK lw_tw tb_m90 = true := ab_mOK_of rfl rfl rfl tb_pl11
set_option maxRecDepth 100000 in
theorem tb_okM_91 : ab_mOK lw_tw tb_m91 = true := ab_mOK_of rfl rfl rfl tb_pl11
set_option maxRecDepth 100000 in
theorem tb_okM_92 : ab_mOK lw_tw tb_m92 = true := ab_mOK_of rfl rfl rfl tb_pl11
set_option maxRecDepth 100000 in
theorem tb_okM_93 : ab_mOK lw_tw tb_m93 = true := ab_mOK_of rfl rfl rfl tb_pl11
set_option maxRecDepth 100000 in
theorem tb_okM_94 : ab_mOK lw_tw tb_m94 = true := ab_mOK_of rfl rfl rfl tb_pl11
set_option maxRecDepth 100000 in
theorem tb_okM_95 : ab_mOK lw_tw tb_m95 = true := ab_mOK_of rfl rfl rfl tb_pl11
set_option maxRecDepth 100000 in
theorem tb_okM_96 : ab_mOK lw_tw tb_m96 = true := ab_mOK_of rfl rfl rfl tb_pl11
set_option maxRecDepth 100000 in
theorem tb_okM_97 : ab_mOK lw_tw tb_m97 = true := ab_mOK_of rfl rfl rfl tb_pl11
set_option maxRecDepth 100000 in
theorem tb_okM_98 : ab_mOK lw_tw tb_m98 = true := ab_mOK_of rfl rfl rfl tb_pl11
set_option maxRecDepth 100000 in
theorem tb_okM_99 : ab_mOK lw_tw tb_m99 = true := ab_mOK_of rfl rfl rfl tb_pl11
set_option maxRecDepth 100000 in
theorem tb_okM_100 : ab_mOK lw_tw tb_m100 = true := ab_mOK_of rfl rfl rfl tb_pl11
set_option maxRecDepth 100000 in
theorem tb_okM_101 : ab_mOK lw_tw tb_m101 = true := ab_mOK_of rfl rfl rfl tb_pl11
set_option maxRecDepth 100000 in
theorem tb_okM_102 : ab_mOK lw_tw tb_m102 = true := ab_mOK_of rfl rfl rfl tb_pl11
set_option maxRecDepth 100000 in
theorem tb_okM_103 : ab_mOK lw_tw tb_m103 = true := ab_mOK_of rfl rfl rfl tb_pl11
set_option maxRecDepth 100000 in
theorem tb_okM_104 : ab_mOK lw_tw tb_m104 = true := ab_mOK_of rfl rfl rfl tb_pl11
set_option maxRecDepth 100000 in
theorem tb_okM_105 : ab_mOK lw_tw tb_m105 = true := ab_mOK_of rfl rfl rfl tb_pl11
set_option maxRecDepth 100000 in
theorem tb_okM_106 : ab_mOK lw_tw tb_m106 = true := ab_mOK_of rfl rfl rfl tb_pl11
set_option maxRecDepth 100000 in
theorem tb_okM_107 : ab_mOK lw_tw tb_m107 = true := ab_mOK_of rfl rfl rfl tb_pl11
set_option maxRecDepth 100000 in
theorem tb_okM_108 : ab_mOK lw_tw tb_m108 = true := ab_mOK_of rfl rfl rfl tb_pl11
set_option maxRecDepth 100000 in
theorem tb_okM_109 : ab_mOK lw_tw tb_m109 = true := ab_mOK_of rfl rfl rfl tb_pl11
set_option maxRecDepth 100000 in
theorem tb_okM_110 : ab_mOK lw_tw tb_m110 = true := ab_mOK_of rfl rfl rfl tb_pl11
set_option maxRecDepth 100000 in
theorem tb_okM_111 : ab_mOK lw_tw tb_m111 = true := ab_mOK_of rfl rfl rfl tb_pl11
set_option maxRecDepth 100000 in
theorem tb_okM_112 : ab_mOK lw_tw tb_m112 = true := ab_mOK_of rfl rfl rfl tb_pl11
set_option maxRecDepth 100000 in
theorem tb_okM_113 : ab_mOK lw_tw tb_m113 = true := ab_mOK_of rfl rfl rfl tb_pl11
set_option maxRecDepth 100000 in
theorem tb_okM_114 : ab_mOK lw_tw tb_m114 = true := ab_mOK_of rfl rfl rfl tb_pl11
set_option maxRecDepth 100000 in
theorem tb_okM_115 : ab_mOK lw_tw tb_m115 = true := ab_mOK_of rfl rfl rfl tb_pl11
set_option maxRecDepth 100000 in
theorem tb_okM_116 : ab_mOK lw_tw tb_m116 = true := ab_mOK_of rfl rfl rfl tb_pl11
set_option maxRecDepth 100000 in
theorem tb_okM_117 : ab_mOK lw_tw tb_m117 = true := ab_mOK_of rfl rfl rfl tb_pl11
set_option maxRecDepth 100000 in
theorem tb_okM_118 : ab_mOK lw_tw tb_m118 = true := ab_mOK_of rfl rfl rfl tb_pl11
set_option maxRecDepth 100000 in
theorem tb_okM_119 : ab_mOK lw_tw tb_m119 = true := ab_mOK_of rfl rfl rfl tb_pl11
set_option maxRecDepth 100000 in
theorem tb_okM_120 : ab_mOK lw_tw tb_m120 = true := ab_mOK_of rfl rfl rfl tb_pl11
set_option maxRecDepth 100000 in
theorem tb_okM_121 : ab_mOK lw_tw tb_m121 = true := ab_mOK_of rfl rfl rfl tb_pl11
set_option maxRecDepth 100000 in
theorem tb_okM_122 : ab_mOK lw_tw tb_m122 = true := ab_mOK_of rfl rfl rfl tb_pl11
set_option maxRecDepth 100000 in
theorem tb_okM_123 : ab_mOK lw_tw tb_m123 = true := ab_mOK_of rfl rfl rfl tb_pl11
set_option maxRecDepth 100000 in
theorem tb_okM_124 : ab_mOK lw_tw tb_m124 = true := ab_mOK_of rfl rfl rfl tb_pl11
set_option maxRecDepth 100000 in
theorem tb_okM_125 : ab_mOK lw_tw tb_m125 = true := ab_mOK_of rfl rfl rfl tb_pl12
set_option maxRecDepth 100000 in
theorem tb_okM_126 : ab_mOK lw_tw tb_m126 = true := ab_mOK_of rfl rfl rfl tb_pl12
set_option maxRecDepth 100000 in
theorem tb_okM_127 : ab_mOK lw_tw tb_m127 = true := ab_mOK_of rfl rfl rfl tb_pl12
set_option maxRecDepth 100000 in
theorem tb_okM_128 : ab_mOK lw_tw tb_m128 = true := ab_mOK_of rfl rfl rfl tb_pl12
set_option maxRecDepth 100000 in
theorem tb_okM_129 : ab_mOK lw_tw tb_m129 = true := ab_mOK_of rfl rfl rfl tb_pl12
set_option maxRecDepth 100000 in
theorem tb_okM_130 : ab_mOK lw_tw tb_m130 = true := ab_mOK_of rfl rfl rfl tb_pl12
set_option maxRecDepth 100000 in
theorem tb_okM_131 : ab_mOK lw_tw tb_m131 = true := ab_mOK_of rfl rfl rfl tb_pl12
set_option maxRecDepth 100000 in
theorem tb_okM_132 : ab_mOK lw_tw tb_m132 = true := ab_mOK_of rfl rfl rfl tb_pl12
set_option maxRecDepth 100000 in
theorem tb_okM_133 : ab_mOK lw_tw tb_m133 = true := ab_mOK_of rfl rfl rfl tb_pl12
set_option maxRecDepth 100000 in
theorem tb_okM_134 : ab_mOK lw_tw tb_m134 = true := ab_mOK_of rfl rfl rfl tb_pl12
set_option maxRecDepth 100000 in
theorem tb_okM_135 : ab_mOK lw_tw tb_m135 = true := ab_mOK_of rfl rfl rfl tb_pl12
set_option maxRecDepth 100000 in
theorem tb_okM_136 : ab_mOK lw_tw tb_m136 = true := ab_mOK_of rfl rfl rfl tb_pl12
set_option maxRecDepth 100000 in
theorem tb_okM_137 : ab_mOK lw_tw tb_m137 = true := ab_mOK_of rfl rfl rfl tb_pl12
set_option maxRecDepth 100000 in
theorem tb_okM_138 : ab_mOK lw_tw tb_m138 = true := ab_mOK_of rfl rfl rfl tb_pl12
set_option maxRecDepth 100000 in
theorem tb_okM_139 : ab_mOK lw_tw tb_m139 = true := ab_mOK_of rfl rfl rfl tb_pl12
set_option maxRecDepth 100000 in
theorem tb_okM_140 : ab_mOK lw_tw tb_m140 = true := ab_mOK_of rfl rfl rfl tb_pl12
set_option maxRecDepth 100000 in
theorem tb_okM_141 : ab_mOK lw_tw tb_m141 = true := ab_mOK_of rfl rfl rfl tb_pl12
set_option maxRecDepth 100000 in
theorem tb_okM_142 : ab_mOK lw_tw tb_m142 = true := ab_mOK_of rfl rfl rfl tb_pl12
set_option maxRecDepth 100000 in
theorem tb_okM_143 : ab_mOK lw_tw tb_m143 = true := ab_mOK_of rfl rfl rfl tb_pl12
set_option maxRecDepth 100000 in
theorem tb_okM_144 : ab_mOK lw_tw tb_m144 = true := ab_mOK_of rfl rfl rfl tb_pl12
set_option maxRecDepth 100000 in
theorem tb_okM_145 : ab_mOK lw_tw tb_m145 = true := ab_mOK_of rfl rfl rfl tb_pl12
set_option maxRecDepth 100000 in
theorem tb_okM_146 : ab_mOK lw_tw tb_m146 = true := ab_mOK_of rfl rfl rfl tb_pl12
set_option maxRecDepth 100000 in
theorem tb_okM_147 : ab_mOK lw_tw tb_m147 = true := ab_mOK_of rfl rfl rfl tb_pl12
set_option maxRecDepth 100000 in
theorem tb_okM_148 : ab_mOK lw_tw tb_m148 = true := ab_mOK_of rfl rfl rfl tb_pl12
set_option maxRecDepth 100000 in
theorem tb_okM_149 : ab_mOK lw_tw tb_m149 = true := ab_mOK_of rfl rfl rfl tb_pl12
set_option maxRecDepth 100000 in
theorem tb_okM_150 : ab_mOK lw_tw tb_m150 = true := ab_mOK_of rfl rfl rfl tb_pl12
set_option maxRecDepth 100000 in
theorem tb_okM_151 : ab_mOK lw_tw tb_m151 = true := ab_mOK_of rfl rfl rfl tb_pl12
set_option maxRecDepth 100000 in
theorem tb_okM_152 : ab_mOK lw_tw tb_m152 = true := ab_mOK_of rfl rfl rfl tb_pl12
set_option maxRecDepth 100000 in
theorem tb_okM_153 : ab_mOK lw_tw tb_m153 = true := ab_mOK_of rfl rfl rfl tb_pl12
set_option maxRecDepth 100000 in
theorem tb_okM_154 : ab_mOK lw_tw tb_m154 = true := ab_mOK_of rfl rfl rfl tb_pl12
set_option maxRecDepth 100000 in
theorem tb_okM_155 : ab_mOK lw_tw tb_m155 = true := ab_mOK_of rfl rfl rfl tb_pl12
set_option maxRecDepth 100000 in
theorem tb_okM_156 : ab_mOK lw_tw tb_m156 = true := ab_mOK_of rfl rfl rfl tb_pl12
set_option maxRecDepth 100000 in
theorem tb_okM_157 : ab_mOK lw_tw tb_m157 = true := ab_mOK_of rfl rfl rfl tb_pl12
set_option maxRecDepth 100000 in
theorem tb_okM_158 : ab_mOK lw_tw tb_m158 = true := ab_mOK_of rfl rfl rfl tb_pl12
set_option maxRecDepth 100000 in
theorem tb_okM_159 : ab_mOK lw_tw tb_m159 = true := ab_mOK_of rfl rfl rfl tb_pl12
set_option maxRecDepth 100000 in
theorem tb_okM_160 : ab_mOK lw_tw tb_m160 = true := ab_mOK_of rfl rfl rfl tb_pl12
set_option maxRecDepth 100000 in
theorem tb_okM_161 : ab_mOK lw_tw tb_m161 = true := ab_mOK_of rfl rfl rfl tb_pl12
set_option maxRecDepth 100000 in
theorem tb_okM_162 : ab_mOK lw_tw tb_m162 = true := ab_mOK_of rfl rfl rfl tb_pl12
set_option maxRecDepth 100000 in
theorem tb_okM_163 : ab_mOK lw_tw tb_m163 = true := ab_mOK_of rfl rfl rfl tb_pl12
set_option maxRecDepth 100000 in
theorem tb_okM_164 : ab_mOK lw_tw tb_m164 = true := ab_mOK_of rfl rfl rfl tb_pl12
set_option maxRecDepth 100000 in
theorem tb_okM_165 : ab_mOK lw_tw tb_m165 = true := ab_mOK_of rfl rfl rfl tb_pl12
set_option maxRecDepth 100000 in
theorem tb_okM_166 : ab_mOK lw_tw tb_m166 = true := ab_mOK_of rfl rfl rfl tb_pl12
set_option maxRecDepth 100000 in
theorem tb_okM_167 : ab_mOK lw_tw tb_m167 = true := ab_mOK_of rfl rfl rfl tb_pl12
set_option maxRecDepth 100000 in
theorem tb_okM_168 : ab_mOK lw_tw tb_m168 = true := ab_mOK_of rfl rfl rfl tb_pl12
set_option maxRecDepth 100000 in
theorem tb_okM_169 : ab_mOK lw_tw tb_m169 = true := ab_mOK_of rfl rfl rfl tb_pl12
set_option maxRecDepth 100000 in
theorem tb_okM_170 : ab_mOK lw_tw tb_m170 = true := ab_mOK_of rfl rfl rfl tb_pl12
set_option maxRecDepth 100000 in
theorem tb_okM_171 : ab_mOK lw_tw tb_m171 = true := ab_mOK_of rfl rfl rfl tb_pl12
set_option maxRecDepth 100000 in
theorem tb_okM_172 : ab_mOK lw_tw tb_m172 = true := ab_mOK_of rfl rfl rfl tb_pl12
set_option maxRecDepth 100000 in
theorem tb_okM_173 : ab_mOK lw_tw tb_m173 = true := ab_mOK_of rfl rfl rfl tb_pl12
set_option maxRecDepth 100000 in
theorem tb_okM_174 : ab_mOK lw_tw tb_m174 = true := ab_mOK_of rfl rfl rfl tb_pl12
set_option maxRecDepth 100000 in
theorem tb_okM_175 : ab_mOK lw_tw tb_m175 = true := ab_mOK_of rfl rfl rfl tb_pl12
set_option maxRecDepth 100000 in
theorem tb_okM_176 : ab_mOK lw_tw tb_m176 = true := ab_mOK_of rfl rfl rfl tb_pl12
set_option maxRecDepth 100000 in
theorem tb_okM_177 : ab_mOK lw_tw tb_m177 = true := ab_mOK_of rfl rfl rfl tb_pl12
set_option maxRecDepth 100000 in
theorem tb_okM_178 : ab_mOK lw_tw tb_m178 = true := ab_mOK_of rfl rfl rfl tb_pl12
set_option maxRecDepth 100000 in
theorem tb_okM_179 : ab_mOK lw_tw tb_m179 = true := ab_mOK_of rfl rfl rfl tb_pl12
set_option maxRecDepth 100000 in
theorem tb_okM_180 : ab_mOK lw_tw tb_m180 = true := ab_mOK_of rfl rfl rfl tb_pl12
set_option maxRecDepth 100000 in
theorem tb_okM_181 : ab_mOK lw_tw tb_m181 = true := ab_mOK_of rfl rfl rfl tb_pl12
set_option maxRecDepth 100000 in
theorem tb_okM_182 : ab_mOK lw_tw tb_m182 = true := ab_mOK_of rfl rfl rfl tb_pl12
set_option maxRecDepth 100000 in
theorem tb_okM_183 : ab_mOK lw_tw tb_m183 = true := ab_mOK_of rfl rfl rfl tb_pl12
set_option maxRecDepth 100000 in
theorem tb_okM_184 : ab_mOK lw_tw tb_m184 = true := ab_mOK_of rfl rfl rfl tb_pl12
set_option maxRecDepth 100000 in
theorem tb_okM_185 : ab_mOK lw_tw tb_m185 = true := ab_mOK_of rfl rfl rfl tb_pl12
set_option maxRecDepth 100000 in
theorem tb_okM_186 : ab_mOK lw_tw tb_m186 = true := ab_mOK_of rfl rfl rfl tb_pl12
set_option maxRecDepth 100000 in
theorem tb_okM_187 : ab_mOK lw_tw tb_m187 = true := ab_mOK_of rfl rfl rfl tb_pl12
set_option maxRecDepth 100000 in
theorem tb_okM_188 : ab_mOK lw_tw tb_m188 = true := ab_mOK_of rfl rfl rfl tb_pl12
set_option maxRecDepth 100000 in
theorem tb_okM_189 : ab_mOK lw_tw tb_m189 = true := ab_mOK_of rfl rfl rfl tb_pl12
set_option maxRecDepth 100000 in
theorem tb_okM_190 : ab_mOK lw_tw tb_m190 = true := ab_mOK_of rfl rfl rfl tb_pl12
set_option maxRecDepth 100000 in
theorem tb_okM_191 : ab_mOK lw_tw tb_m191 = true := ab_mOK_of rfl rfl rfl tb_pl12
set_option maxRecDepth 100000 in
theorem tb_okM_192 : ab_mOK lw_tw tb_m192 = true := ab_mOK_of rfl rfl rfl tb_pl12
set_option maxRecDepth 100000 in
theorem tb_okM_193 : ab_mOK lw_tw tb_m193 = true := ab_mOK_of rfl rfl rfl tb_pl12
set_option maxRecDepth 100000 in
theorem tb_okM_194 : ab_mOK lw_tw tb_m194 = true := ab_mOK_of rfl rfl rfl tb_pl12
set_option maxRecDepth 100000 in
theorem tb_okM_195 : ab_mOK lw_tw tb_m195 = true := ab_mOK_of rfl rfl rfl tb_pl12
set_option maxRecDepth 100000 in
theorem tb_okM_196 : ab_mOK lw_tw tb_m196 = true := ab_mOK_of rfl rfl rfl tb_pl12
set_option maxRecDepth 100000 in
theorem tb_okM_197 : ab_mOK lw_tw tb_m197 = true := ab_mOK_of rfl rfl rfl tb_pl12
set_option maxRecDepth 100000 in
theorem tb_okM_198 : ab_mOK lw_tw tb_m198 = true := ab_mOK_of rfl rfl rfl tb_pl12
set_option maxRecDepth 100000 in
theorem tb_okM_199 : ab_mOK lw_tw tb_m199 = true := ab_mOK_of rfl rfl rfl tb_pl12
set_option maxRecDepth 100000 in
theorem tb_okM_200 : ab_mOK lw_tw tb_m200 = true := ab_mOK_of rfl rfl rfl tb_pl12
set_option maxRecDepth 100000 in
theorem tb_okM_201 : ab_mOK lw_tw tb_m201 = true := ab_mOK_of rfl rfl rfl tb_pl12
set_option maxRecDepth 100000 in
theorem tb_okM_202 : ab_mOK lw_tw tb_m202 = true := ab_mOK_of rfl rfl rfl tb_pl12
set_option maxRecDepth 100000 in
theorem tb_okM_203 : ab_mOK lw_tw tb_m203 = true := ab_mOK_of rfl rfl rfl tb_pl12
set_option maxRecDepth 100000 in
theorem tb_okM_204 : ab_mOK lw_tw tb_m204 = true := ab_mOK_of rfl rfl rfl tb_pl12
set_option maxRecDepth 100000 in
theorem tb_okM_205 : ab_mOK lw_tw tb_m205 = true := ab_mOK_of rfl rfl rfl tb_pl12
set_option maxRecDepth 100000 in
theorem tb_okM_206 : ab_mOK lw_tw tb_m206 = true := ab_mOK_of rfl rfl rfl tb_pl12
set_option maxRecDepth 100000 in
theorem tb_okM_207 : ab_mOK lw_tw tb_m207 = true := ab_mOK_of rfl rfl rfl tb_pl12
set_option maxRecDepth 100000 in
theorem tb_okM_208 : ab_mOK lw_tw tb_m208 = true := ab_mOK_of rfl rfl rfl tb_pl12
set_option maxRecDepth 100000 in
theorem tb_okM_209 : ab_mOK lw_tw tb_m209 = true := ab_mOK_of rfl rfl rfl tb_pl12
set_option maxRecDepth 100000 in
theorem tb_okM_210 : ab_mOK lw_tw tb_m210 = true := ab_mOK_of rfl rfl rfl tb_pl12
set_option maxRecDepth 100000 in
theorem tb_okM_211 : ab_mOK lw_tw tb_m211 = true := ab_mOK_of rfl rfl rfl tb_pl12
set_option maxRecDepth 100000 in
theorem tb_okM_212 : ab_mOK lw_tw tb_m212 = true := ab_mOK_of rfl rfl rfl tb_pl12
set_option maxRecDepth 100000 in
theorem tb_okM_213 : ab_mOK lw_tw tb_m213 = true := ab_mOK_of rfl rfl rfl tb_pl12
set_option maxRecDepth 100000 in
theorem tb_okM_214 : ab_mOK lw_tw tb_m214 = true := ab_mOK_of rfl rfl rfl tb_pl12
set_option maxRecDepth 100000 in
theorem tb_okM_215 : ab_mOK lw_tw tb_m215 = true := ab_mOK_of rfl rfl rfl tb_pl12
set_option maxRecDepth 100000 in
theorem tb_okM_216 : ab_mOK lw_tw tb_m216 = true := ab_mOK_of rfl rfl rfl tb_pl12
set_option maxRecDepth 100000 in
theorem tb_okM_217 : ab_mOK lw_tw tb_m217 = true := ab_mOK_of rfl rfl rfl tb_pl12
set_option maxRecDepth 100000 in
theorem tb_okM_218 : ab_mOK lw_tw tb_m218 = true := ab_mOK_of rfl rfl rfl tb_pl12
set_option maxRecDepth 100000 in
theorem tb_okM_219 : ab_mOK lw_tw tb_m219 = true := ab_mOK_of rfl rfl rfl tb_pl12
set_option maxRecDepth 100000 in
theorem tb_okM_220 : ab_mOK lw_tw tb_m220 = true := ab_mOK_of rfl rfl rfl tb_pl12
set_option maxRecDepth 100000 in
theorem tb_okM_221 : ab_mOK lw_tw tb_m221 = true := ab_mOK_of rfl rfl rfl tb_pl12
set_option maxRecDepth 100000 in
theorem tb_okM_222 : ab_mOK lw_tw tb_m222 = true := ab_mOK_of rfl rfl rfl tb_pl12
set_option maxRecDepth 100000 in
theorem tb_okM_223 : ab_mOK lw_tw tb_m223 = true := ab_mOK_of rfl rfl rfl tb_pl12
set_option maxRecDepth 100000 in
theorem tb_okM_224 : ab_mOK lw_tw tb_m224 = true := ab_mOK_of rfl rfl rfl tb_pl12
set_option maxRecDepth 100000 in
theorem tb_okM_225 : ab_mOK lw_tw tb_m225 = true := ab_mOK_of rfl rfl rfl tb_pl12
set_option maxRecDepth 100000 in
theorem tb_okM_226 : ab_mOK lw_tw tb_m226 = true := ab_mOK_of rfl rfl rfl tb_pl13
set_option maxRecDepth 100000 in
theorem tb_okM_227 : ab_mOK lw_tw tb_m227 = true := ab_mOK_of rfl rfl rfl tb_pl14
set_option maxRecDepth 100000 in
theorem tb_okM_228 : ab_mOK lw_tw tb_m228 = true := ab_mOK_of rfl rfl rfl tb_pl14
set_option maxRecDepth 100000 in
theorem tb_okM_229 : ab_mOK lw_tw tb_m229 = true := ab_mOK_of rfl rfl rfl tb_pl14
set_option maxRecDepth 100000 in
theorem tb_okM_230 : ab_mOK lw_tw tb_m230 = true := ab_mOK_of rfl rfl rfl tb_pl14
set_option maxRecDepth 100000 in
theorem tb_okM_231 : ab_mOK lw_tw tb_m231 = true := ab_mOK_of rfl rfl rfl tb_pl14
set_option maxRecDepth 100000 in
theorem tb_okM_232 : ab_mOK lw_tw tb_m232 = true := ab_mOK_of rfl rfl rfl tb_pl15
set_option maxRecDepth 100000 in
theorem tb_okM_233 : ab_mOK lw_tw tb_m233 = true := ab_mOK_of rfl rfl rfl tb_pl15
set_option maxRecDepth 100000 in
theorem tb_okM_234 : ab_mOK lw_tw tb_m234 = true := ab_mOK_of rfl rfl rfl tb_pl15
theorem tb_okMg0 : ∀ M ∈ [tb_m0, tb_m1, tb_m2, tb_m3, tb_m4, tb_m5, tb_m6, tb_m7, tb_m8, tb_m9, tb_m10, tb_m11, tb_m12, tb_m13, tb_m14, tb_m15, tb_m16, tb_m17, tb_m18, tb_m19, tb_m20, tb_m21, tb_m22, tb_m23, tb_m24, tb_m25, tb_m26, tb_m27, tb_m28, tb_m29], ab_mOK lw_tw M = true := List.forall_mem_cons.mpr ⟨tb_okM_0, List.forall_mem_cons.mpr ⟨tb_okM_1, List.forall_mem_cons.mpr ⟨tb_okM_2, List.forall_mem_cons.mpr ⟨tb_okM_3, List.forall_mem_cons.mpr ⟨tb_okM_4, List.forall_mem_cons.mpr ⟨tb_okM_5, List.forall_mem_cons.mpr ⟨tb_okM_6, List.forall_mem_cons.mpr ⟨tb_okM_7, List.forall_mem_cons.mpr ⟨tb_okM_8, List.forall_mem_cons.mpr ⟨tb_okM_9, List.forall_mem_cons.mpr ⟨tb_okM_10, List.forall_mem_cons.mpr ⟨tb_okM_11, List.forall_mem_cons.mpr ⟨tb_okM_12, List.forall_mem_cons.mpr ⟨tb_okM_13, List.forall_mem_cons.mpr ⟨tb_okM_14, List.forall_mem_cons.mpr ⟨tb_okM_15, List.forall_mem_cons.mpr ⟨tb_okM_16, List.forall_mem_cons.mpr ⟨tb_okM_17, List.forall_mem_cons.mpr ⟨tb_okM_18, List.forall_mem_cons.mpr ⟨tb_okM_19, List.forall_mem_cons.mpr ⟨tb_okM_20, List.forall_mem_cons.mpr ⟨tb_okM_21, List.forall_mem_cons.mpr ⟨tb_okM_22, List.forall_mem_cons.mpr ⟨tb_okM_23, List.forall_mem_cons.mpr ⟨tb_okM_24, List.forall_mem_cons.mpr ⟨tb_okM_25, List.forall_mem_cons.mpr ⟨tb_okM_26, List.forall_mem_cons.mpr ⟨tb_okM_27, List.forall_mem_cons.mpr ⟨tb_okM_28, List.forall_mem_cons.mpr ⟨tb_okM_29, fun _ h => absurd h List.not_mem_nil⟩⟩⟩⟩⟩⟩⟩⟩⟩⟩⟩⟩⟩⟩⟩⟩⟩⟩⟩⟩⟩⟩⟩⟩⟩⟩⟩⟩⟩⟩
theorem tb_okMg1 : ∀ M ∈ [tb_m30, tb_m31, tb_m32, tb_m33, tb_m34, tb_m35, tb_m36, tb_m37, tb_m38, tb_m39, tb_m40, tb_m41, tb_m42, tb_m43, tb_m44, tb_m45, tb_m46, tb_m47, tb_m48, tb_m49, tb_m50, tb_m51, tb_m52, tb_m53, tb_m54, tb_m55, tb_m56, tb_m57, tb_m58, tb_m59], ab_mOK lw_tw M = true := List.forall_mem_cons.mpr ⟨tb_okM_30, List.forall_mem_cons.mpr ⟨tb_okM_31, List.forall_mem_cons.mpr ⟨tb_okM_32, List.forall_mem_cons.mpr ⟨tb_okM_33, List.forall_mem_cons.mpr ⟨tb_okM_34, List.forall_mem_cons.mpr ⟨tb_okM_35, List.forall_mem_cons.mpr ⟨tb_okM_36, List.forall_mem_cons.mpr ⟨tb_okM_37, List.forall_mem_cons.mpr ⟨tb_okM_38, List.forall_mem_cons.mpr ⟨tb_okM_39, List.forall_mem_cons.mpr ⟨tb_okM_40, List.forall_mem_cons.mpr ⟨tb_okM_41, List.forall_mem_cons.mpr ⟨tb_okM_42, List.forall_mem_cons.mpr ⟨tb_okM_43, List.forall_mem_cons.mpr ⟨tb_okM_44, List.forall_mem_cons.mpr ⟨tb_okM_45, List.forall_mem_cons.mpr ⟨tb_okM_46, List.forall_mem_cons.mpr ⟨tb_okM_47, List.forall_mem_cons.mpr ⟨tb_okM_48, List.forall_mem_cons.mpr ⟨tb_okM_49, List.forall_mem_cons.mpr ⟨tb_okM_50, List.forall_mem_cons.mpr ⟨tb_okM_51, List.forall_mem_cons.mpr ⟨tb_okM_52, List.forall_mem_cons.mpr ⟨tb_okM_53, List.forall_mem_cons.mpr ⟨tb_okM_54, List.forall_mem_cons.mpr ⟨tb_okM_55, List.forall_mem_cons.mpr ⟨tb_okM_56, List.forall_mem_cons.mpr ⟨tb_okM_57, List.forall_mem_cons.mpr ⟨tb_okM_58, List.forall_mem_cons.mpr ⟨tb_okM_59, fun _ h => absurd h List.not_mem_nil⟩⟩⟩⟩⟩⟩⟩⟩⟩⟩⟩⟩⟩⟩⟩⟩⟩⟩⟩⟩⟩⟩⟩⟩⟩⟩⟩⟩⟩⟩
theorem tb_okMg2 : ∀ M ∈ [tb_m60, tb_m61, tb_m62, tb_m63, tb_m64, tb_m65, tb_m66, tb_m67, tb_m68, tb_m69, tb_m70, tb_m71, tb_m72, tb_m73, tb_m74, tb_m75, tb_m76, tb_m77, tb_m78, tb_m79, tb_m80, tb_m81, tb_m82, tb_m83, tb_m84, tb_m85, tb_m86, tb_m87, tb_m88, tb_m89], ab_mOK lw_tw M = true := List.forall_mem_cons.mpr ⟨tb_okM_60, List.forall_mem_cons.mpr ⟨tb_okM_61, List.forall_mem_cons.mpr ⟨tb_okM_62, List.forall_mem_cons.mpr ⟨tb_okM_63, List.forall_mem_cons.mpr ⟨tb_okM_64, List.forall_mem_cons.mpr ⟨tb_okM_65, List.forall_mem_cons.mpr ⟨tb_okM_66, List.forall_mem_cons.mpr ⟨tb_okM_67, List.forall_mem_cons.mpr ⟨tb_okM_68, List.forall_mem_cons.mpr ⟨tb_okM_69, List.forall_mem_cons.mpr ⟨tb_okM_70, List.forall_mem_cons.mpr ⟨tb_okM_71, List.forall_mem_cons.mpr ⟨tb_okM_72, List.forall_mem_cons.mpr ⟨tb_okM_73, List.forall_mem_cons.mpr ⟨tb_okM_74, List.forall_mem_cons.mpr ⟨tb_okM_75, List.forall_mem_cons.mpr ⟨tb_okM_76, List.forall_mem_cons.mpr ⟨tb_okM_77, List.forall_mem_cons.mpr ⟨tb_okM_78, List.forall_mem_cons.mpr ⟨tb_okM_79, List.forall_mem_cons.mpr ⟨tb_okM_80, List.forall_mem_cons.mpr ⟨tb_okM_81, List.forall_mem_cons.mpr ⟨tb_okM_82, List.forall_mem_cons.mpr ⟨tb_okM_83, List.forall_mem_cons.mpr ⟨tb_okM_84, List.forall_mem_cons.mpr ⟨tb_okM_85, List.forall_mem_cons.mpr ⟨tb_okM_86, List.forall_mem_cons.mpr ⟨tb_okM_87, List.forall_mem_cons.mpr ⟨tb_okM_88, List.forall_mem_cons.mpr ⟨tb_okM_89, fun _ h => absurd h List.not_mem_nil⟩⟩⟩⟩⟩⟩⟩⟩⟩⟩⟩⟩⟩⟩⟩⟩⟩⟩⟩⟩⟩⟩⟩⟩⟩⟩⟩⟩⟩⟩
theorem tb_okMg3 : ∀ M ∈ [tb_m90, tb_m91, tb_m92, tb_m93, tb_m94, tb_m95, tb_m96, tb_m97, tb_m98, tb_m99, tb_m100, tb_m101, tb_m102, tb_m103, tb_m104, tb_m105, tb_m106, tb_m107, tb_m108, tb_m109, tb_m110, tb_m111, tb_m112, tb_m113, tb_m114, tb_m115, tb_m116, tb_m117, tb_m118, tb_m119], ab_mOK lw_tw M = true := List.forall_mem_cons.mpr ⟨tb_okM_90, List.forall_mem_cons.mpr ⟨tb_okM_91, List.forall_mem_cons.mpr ⟨tb_okM_92, List.forall_mem_cons.mpr ⟨tb_okM_93, List.forall_mem_cons.mpr ⟨tb_okM_94, List.forall_mem_cons.mpr ⟨tb_okM_95, List.forall_mem_cons.mpr ⟨tb_okM_96, List.forall_mem_cons.mpr ⟨tb_okM_97, List.forall_mem_cons.mpr ⟨tb_okM_98, List.forall_mem_cons.mpr ⟨tb_okM_99, List.forall_mem_cons.mpr ⟨tb_okM_100, List.forall_mem_cons.mpr ⟨tb_okM_101, List.forall_mem_cons.mpr ⟨tb_okM_102, List.forall_mem_cons.mpr ⟨tb_okM_103, List.forall_mem_cons.mpr ⟨tb_okM_104, List.forall_mem_cons.mpr ⟨tb_okM_105, List.forall_mem_cons.mpr ⟨tb_okM_106, List.forall_mem_cons.mpr ⟨tb_okM_107, List.forall_mem_cons.mpr ⟨tb_okM_108, List.forall_mem_cons.mpr ⟨tb_okM_109, List.forall_mem_cons.mpr ⟨tb_okM_110, List.forall_mem_cons.mpr ⟨tb_okM_111, List.forall_mem_cons.mpr ⟨tb_okM_112, List.forall_mem_cons.mpr ⟨tb_okM_113, List.forall_mem_cons.mpr ⟨tb_okM_114, List.forall_mem_cons.mpr ⟨tb_okM_115, List.forall_mem_cons.mpr ⟨tb_okM_116, List.forall_mem_cons.mpr ⟨tb_okM_117, List.forall_mem_cons.mpr ⟨tb_okM_118, List.forall_mem_cons.mpr ⟨tb_okM_119, fun _ h => absurd h List.not_mem_nil⟩⟩⟩⟩⟩⟩⟩⟩⟩⟩⟩⟩⟩⟩⟩⟩⟩⟩⟩⟩⟩⟩⟩⟩⟩⟩⟩⟩⟩⟩
theorem tb_okMg4 : ∀ M ∈ [tb_m120, tb_m121, tb_m122, tb_m123, tb_m124, tb_m125, tb_m126, tb_m127, tb_m128, tb_m129, tb_m130, tb_m131, tb_m132, tb_m133, tb_m134, tb_m135, tb_m136, tb_m137, tb_m138, tb_m139, tb_m140, tb_m141, tb_m142, tb_m143, tb_m144, tb_m145, tb_m146, tb_m147, tb_m148, tb_m149], ab_mOK lw_tw M = true := List.forall_mem_cons.mpr ⟨tb_okM_120, List.forall_mem_cons.mpr ⟨tb_okM_121, List.forall_mem_cons.mpr ⟨tb_okM_122, List.forall_mem_cons.mpr ⟨tb_okM_123, List.forall_mem_cons.mpr ⟨tb_okM_124, List.forall_mem_cons.mpr ⟨tb_okM_125, List.forall_mem_cons.mpr ⟨tb_okM_126, List.forall_mem_cons.mpr ⟨tb_okM_127, List.forall_mem_cons.mpr ⟨tb_okM_128, List.forall_mem_cons.mpr ⟨tb_okM_129, List.forall_mem_cons.mpr ⟨tb_okM_130, List.forall_mem_cons.mpr ⟨tb_okM_131, List.forall_mem_cons.mpr ⟨tb_okM_132, List.forall_mem_cons.mpr ⟨tb_okM_133, List.forall_mem_cons.mpr ⟨tb_okM_134, List.forall_mem_cons.mpr ⟨tb_okM_135, List.forall_mem_cons.mpr ⟨tb_okM_136, List.forall_mem_cons.mpr ⟨tb_okM_137, List.forall_mem_cons.mpr ⟨tb_okM_138, List.forall_mem_cons.mpr ⟨tb_okM_139, List.forall_mem_cons.mpr ⟨tb_okM_140, List.forall_mem_cons.mpr ⟨tb_okM_141, List.forall_mem_cons.mpr ⟨tb_okM_142, List.forall_mem_cons.mpr ⟨tb_okM_143, List.forall_mem_cons.mpr ⟨tb_okM_144, List.forall_mem_cons.mpr ⟨tb_okM_145, List.forall_mem_cons.mpr ⟨tb_okM_146, List.forall_mem_cons.mpr ⟨tb_okM_147, List.forall_mem_cons.mpr ⟨tb_okM_148, List.forall_mem_cons.mpr ⟨tb_okM_149, fun _ h => absurd h List.not_mem_nil⟩⟩⟩⟩⟩⟩⟩⟩⟩⟩⟩⟩⟩⟩⟩⟩⟩⟩⟩⟩⟩⟩⟩⟩⟩⟩⟩⟩⟩⟩
theorem tb_okMg5 : ∀ M ∈ [tb_m150, tb_m151, tb_m152, tb_m153, tb_m154, tb_m155, tb_m156, tb_m157, tb_m158, tb_m159, tb_m160, tb_m161, tb_m162, tb_m163, tb_m164, tb_m165, tb_m166, tb_m167, tb_m168, tb_m169, tb_m170, tb_m171, tb_m172, tb_m173, tb_m174, tb_m175, tb_m176, tb_m177, tb_m178, tb_m179], ab_mOK lw_tw M = true := List.forall_mem_cons.mpr ⟨tb_okM_150, List.forall_mem_cons.mpr ⟨tb_okM_151, List.forall_mem_cons.mpr ⟨tb_okM_152, List.forall_mem_cons.mpr ⟨tb_okM_153, List.forall_mem_cons.mpr ⟨tb_okM_154, List.forall_mem_cons.mpr ⟨tb_okM_155, List.forall_mem_cons.mpr ⟨tb_okM_156, List.forall_mem_cons.mpr ⟨tb_okM_157, List.forall_mem_cons.mpr ⟨tb_okM_158, List.forall_mem_cons.mpr ⟨tb_okM_159, List.forall_mem_cons.mpr ⟨tb_okM_160, List.forall_mem_cons.mpr ⟨tb_okM_161, List.forall_mem_cons.mpr ⟨tb_okM_162, List.forall_mem_cons.mpr ⟨tb_okM_163, List.forall_mem_cons.mpr ⟨tb_okM_164, List.forall_mem_cons.mpr ⟨tb_okM_165, List.forall_mem_cons.mpr ⟨tb_okM_166, List.forall_mem_cons.mpr ⟨tb_okM_167, List.forall_mem_cons.mpr ⟨tb_okM_168, List.forall_mem_cons.mpr ⟨tb_okM_169, List.forall_mem_cons.mpr ⟨tb_okM_170, List.forall_mem_cons.mpr ⟨tb_okM_171, List.forall_mem_cons.mpr ⟨tb_okM_172, List.forall_mem_cons.mpr ⟨tb_okM_173, List.forall_mem_cons.mpr ⟨tb_okM_174, List.forall_mem_cons.mpr ⟨tb_okM_175, List.forall_mem_cons.mpr ⟨tb_okM_176, List.forall_mem_cons.mpr ⟨tb_okM_177, List.forall_mem_cons.mpr ⟨tb_okM_178, List.forall_mem_cons.mpr ⟨tb_okM_179, fun _ h => absurd h List.not_mem_nil⟩⟩⟩⟩⟩⟩⟩⟩⟩⟩⟩⟩⟩⟩⟩⟩⟩⟩⟩⟩⟩⟩⟩⟩⟩⟩⟩⟩⟩⟩
theorem tb_okMg6 : ∀ M ∈ [tb_m180, tb_m181, tb_m182, tb_m183, tb_m184, tb_m185, tb_m186, tb_m187, tb_m188, tb_m189, tb_m190, tb_m191, tb_m192, tb_m193, tb_m194, tb_m195, tb_m196, tb_m197, tb_m198, tb_m199, tb_m200, tb_m201, tb_m202, tb_m203, tb_m204, tb_m205, tb_m206, tb_m207, tb_m208, tb_m209], ab_mOK lw_tw M = true := List.forall_mem_cons.mpr ⟨tb_okM_180, List.forall_mem_cons.mpr ⟨tb_okM_181, List.forall_mem_cons.mpr ⟨tb_okM_182, List.forall_mem_cons.mpr ⟨tb_okM_183, List.forall_mem_cons.mpr ⟨tb_okM_184, List.forall_mem_cons.mpr ⟨tb_okM_185, List.forall_mem_cons.mpr ⟨tb_okM_186, List.forall_mem_cons.mpr ⟨tb_okM_187, List.forall_mem_cons.mpr ⟨tb_okM_188, List.forall_mem_cons.mpr ⟨tb_okM_189, List.forall_mem_cons.mpr ⟨tb_okM_190, List.forall_mem_cons.mpr ⟨tb_okM_191, List.forall_mem_cons.mpr ⟨tb_okM_192, List.forall_mem_cons.mpr ⟨tb_okM_193, List.forall_mem_cons.mpr ⟨tb_okM_194, List.forall_mem_cons.mpr ⟨tb_okM_195, List.forall_mem_cons.mpr ⟨tb_okM_196, List.forall_mem_cons.mpr ⟨tb_okM_197, List.forall_mem_cons.mpr ⟨tb_okM_198, List.forall_mem_cons.mpr ⟨tb_okM_199, List.forall_mem_cons.mpr ⟨tb_okM_200, List.forall_mem_cons.mpr ⟨tb_okM_201, List.forall_mem_cons.mpr ⟨tb_okM_202, List.forall_mem_cons.mpr ⟨tb_okM_203, List.forall_mem_cons.mpr ⟨tb_okM_204, List.forall_mem_cons.mpr ⟨tb_okM_205, List.forall_mem_cons.mpr ⟨tb_okM_206, List.forall_mem_cons.mpr ⟨tb_okM_207, List.forall_mem_cons.mpr ⟨tb_okM_208, List.forall_mem_cons.mpr ⟨tb_okM_209, fun _ h => absurd h List.not_mem_nil⟩⟩⟩⟩⟩⟩⟩⟩⟩⟩⟩⟩⟩⟩⟩⟩⟩⟩⟩⟩⟩⟩⟩⟩⟩⟩⟩⟩⟩⟩
theorem tb_okMg7 : ∀ M ∈ [tb_m210, tb_m211, tb_m212, tb_m213, tb_m214, tb_m215, tb_m216, tb_m217, tb_m218, tb_m219, tb_m220, tb_m221, tb_m222, tb_m223, tb_m224, tb_m225, tb_m226, tb_m227, tb_m228, tb_m229, tb_m230, tb_m231, tb_m232, tb_m233, tb_m234], ab_mOK lw_tw M = true := List.forall_mem_cons.mpr ⟨tb_okM_210, List.forall_mem_cons.mpr ⟨tb_okM_211, List.forall_mem_cons.mpr ⟨tb_okM_212, List.forall_mem_cons.mpr ⟨tb_okM_213, List.forall_mem_cons.mpr ⟨tb_okM_214, List.forall_mem_cons.mpr ⟨tb_okM_215, List.forall_mem_cons.mpr ⟨tb_okM_216, List.forall_mem_cons.mpr ⟨tb_okM_217, List.forall_mem_cons.mpr ⟨tb_okM_218, List.forall_mem_cons.mpr ⟨tb_okM_219, List.forall_mem_cons.mpr ⟨tb_okM_220, List.forall_mem_cons.mpr ⟨tb_okM_221, List.forall_mem_cons.mpr ⟨tb_okM_222, List.forall_mem_cons.mpr ⟨tb_okM_223, List.forall_mem_cons.mpr ⟨tb_okM_224, List.forall_mem_cons.mpr ⟨tb_okM_225, List.forall_mem_cons.mpr ⟨tb_okM_226, List.forall_mem_cons.mpr ⟨tb_okM_227, List.forall_mem_cons.mpr ⟨tb_okM_228, List.forall_mem_cons.mpr ⟨tb_okM_229, List.forall_mem_cons.mpr ⟨tb_okM_230, List.forall_mem_cons.mpr ⟨tb_okM_231, List.forall_mem_cons.mpr ⟨tb_okM_232, List.forall_mem_cons.mpr ⟨tb_okM_233, List.forall_mem_cons.mpr ⟨tb_okM_234, fun _ h => absurd h List.not_mem_nil⟩⟩⟩⟩⟩⟩⟩⟩⟩⟩⟩⟩⟩⟩⟩⟩⟩⟩⟩⟩⟩⟩⟩⟩⟩
set_option maxRecDepth 100000 in
theorem tb_M_eqg : tb_M = [tb_m0, tb_m1, tb_m2, tb_m3, tb_m4, tb_m5, tb_m6, tb_m7, tb_m8, tb_m9, tb_m10, tb_m11, tb_m12, tb_m13, tb_m14, tb_m15, tb_m16, tb_m17, tb_m18, tb_m19, tb_m20, tb_m21, tb_m22, tb_m23, tb_m24, tb_m25, tb_m26, tb_m27, tb_m28, tb_m29] ++ ([tb_m30, tb_m31, tb_m32, tb_m33, tb_m34, tb_m35, tb_m36, tb_m37, tb_m38, tb_m39, tb_m40, tb_m41, tb_m42, tb_m43, tb_m44, tb_m45, tb_m46, tb_m47, tb_m48, tb_m49, tb_m50, tb_m51, tb_m52, tb_m53, tb_m54, tb_m55, tb_m56, tb_m57, tb_m58, tb_m59] ++ ([tb_m60, tb_m61, tb_m62, tb_m63, tb_m64, tb_m65, tb_m66, tb_m67, tb_m68, tb_m69, tb_m70, tb_m71, tb_m72, tb_m73, tb_m74, tb_m75, tb_m76, tb_m77, tb_m78, tb_m79, tb_m80, tb_m81, tb_m82, tb_m83, tb_m84, tb_m85, tb_m86, tb_m87, tb_m88, tb_m89] ++ ([tb_m90, tb_m91, tb_m92, tb_m93, tb_m94, tb_m95, tb_m96, tb_m97, tb_m98, tb_m99, tb_m100, tb_m101, tb_m102, tb_m103, tb_m104, tb_m105, tb_m106, tb_m107, tb_m108, tb_m109, tb_m110, tb_m111, tb_m112, tb_m113, tb_m114, tb_m115, tb_m116, tb_m117, tb_m118, tb_m119] ++ ([tb_m120, tb_m121, tb_m122, tb_m123, tb_m124, tb_m125, tb_m126, tb_m127, tb_m128, tb_m129, tb_m130, tb_m131, tb_m132, tb_m133, tb_m134, tb_m135, tb_m136, tb_m137, tb_m138, tb_m139, tb_m140, tb_m141, tb_m142, tb_m143, tb_m144, tb_m145, tb_m146, tb_m147, tb_m148, tb_m149] ++ ([tb_m150, tb_m151, tb_m152, tb_m153, tb_m154, tb_m155, tb_m156, tb_m157, tb_m158, tb_m159, tb_m160, tb_m161, tb_m162, tb_m163, tb_m164, tb_m165, tb_m166, tb_m167, tb_m168, tb_m169, tb_m170, tb_m171, tb_m172, tb_m173, tb_m174, tb_m175, tb_m176, tb_m177, tb_m178, tb_m179] ++ ([tb_m180, tb_m181, tb_m182, tb_m183, tb_m184, tb_m185, tb_m186, tb_m187, tb_m188, tb_m189, tb_m190, tb_m191, tb_m192, tb_m193, tb_m194, tb_m195, tb_m196, tb_m197, tb_m198, tb_m199, tb_m200, tb_m201, tb_m202, tb_m203, tb_m204, tb_m205, tb_m206, tb_m207, tb_m208, tb_m209] ++ ([tb_m210, tb_m211, tb_m212, tb_m213, tb_m214, tb_m215, tb_m216, tb_m217, tb_m218, tb_m219, tb_m220, tb_m221, tb_m222, tb_m223, tb_m224, tb_m225, tb_m226, tb_m227, tb_m228, tb_m229, tb_m230, tb_m231, tb_m232, tb_m233, tb_m234]))))))) := rfl
theorem tb_okM : tb_M.all (ab_mOK lw_tw) = true := by
  rw [List.all_eq_true, tb_M_eqg]
  exact List.forall_mem_append.mpr ⟨tb_okMg0, List.forall_mem_append.mpr ⟨tb_okMg1, List.forall_mem_append.mpr ⟨tb_okMg2, List.forall_mem_append.mpr ⟨tb_okMg3, List.forall_mem_append.mpr ⟨tb_okMg4, List.forall_mem_append.mpr ⟨tb_okMg5, List.forall_mem_append.mpr ⟨tb_okMg6, tb_okMg7⟩⟩⟩⟩⟩⟩⟩
