/-! EVERY INSTRUCTION DECODES as the tables say, by the kernel (wip/gen/valid.py) -/
def tb_M0 : List ab_M := [tb_m0, tb_m1, tb_m2, tb_m3, tb_m4, tb_m5, tb_m6, tb_m7, tb_m8, tb_m9, tb_m10, tb_m11, tb_m12, tb_m13, tb_m14, tb_m15]
set_option maxRecDepth 100000 in
theorem tb_e0 : tb_M0.all (fun M => ab_all1 (ab_eOK tb lw_tw M) M.2.2.2.2.2.2.2 0) = true := by decide +kernel
def tb_M1 : List ab_M := [tb_m16, tb_m17, tb_m18, tb_m19, tb_m20, tb_m21, tb_m22, tb_m23, tb_m24, tb_m25, tb_m26, tb_m27, tb_m28, tb_m29, tb_m30, tb_m31]
set_option maxRecDepth 100000 in
theorem tb_e1 : tb_M1.all (fun M => ab_all1 (ab_eOK tb lw_tw M) M.2.2.2.2.2.2.2 0) = true := by decide +kernel
def tb_M2 : List ab_M := [tb_m32, tb_m33, tb_m34, tb_m35, tb_m36, tb_m37, tb_m38, tb_m39, tb_m40, tb_m41, tb_m42, tb_m43, tb_m44, tb_m45, tb_m46, tb_m47]
set_option maxRecDepth 100000 in
theorem tb_e2 : tb_M2.all (fun M => ab_all1 (ab_eOK tb lw_tw M) M.2.2.2.2.2.2.2 0) = true := by decide +kernel
def tb_M3 : List ab_M := [tb_m48, tb_m49, tb_m50, tb_m51, tb_m52, tb_m53, tb_m54, tb_m55, tb_m56, tb_m57, tb_m58, tb_m59, tb_m60]
set_option maxRecDepth 100000 in
theorem tb_e3 : tb_M3.all (fun M => ab_all1 (ab_eOK tb lw_tw M) M.2.2.2.2.2.2.2 0) = true := by decide +kernel
def tb_M4 : List ab_M := [tb_m61, tb_m62, tb_m63, tb_m64, tb_m65, tb_m66, tb_m67, tb_m68, tb_m69, tb_m70, tb_m71, tb_m72, tb_m73, tb_m74]
set_option maxRecDepth 100000 in
theorem tb_e4 : tb_M4.all (fun M => ab_all1 (ab_eOK tb lw_tw M) M.2.2.2.2.2.2.2 0) = true := by decide +kernel
def tb_M5 : List ab_M := [tb_m75, tb_m76, tb_m77, tb_m78, tb_m79, tb_m80, tb_m81, tb_m82, tb_m83, tb_m84, tb_m85, tb_m86]
set_option maxRecDepth 100000 in
theorem tb_e5 : tb_M5.all (fun M => ab_all1 (ab_eOK tb lw_tw M) M.2.2.2.2.2.2.2 0) = true := by decide +kernel
def tb_M6 : List ab_M := [tb_m87, tb_m88, tb_m89, tb_m90, tb_m91, tb_m92, tb_m93, tb_m94, tb_m95, tb_m96]
set_option maxRecDepth 100000 in
theorem tb_e6 : tb_M6.all (fun M => ab_all1 (ab_eOK tb lw_tw M) M.2.2.2.2.2.2.2 0) = true := by decide +kernel
def tb_M7 : List ab_M := [tb_m97, tb_m98, tb_m99, tb_m100, tb_m101, tb_m102, tb_m103, tb_m104, tb_m105, tb_m106]
set_option maxRecDepth 100000 in
theorem tb_e7 : tb_M7.all (fun M => ab_all1 (ab_eOK tb lw_tw M) M.2.2.2.2.2.2.2 0) = true := by decide +kernel
def tb_M8 : List ab_M := [tb_m107, tb_m108, tb_m109, tb_m110, tb_m111, tb_m112, tb_m113, tb_m114, tb_m115, tb_m116, tb_m117]
set_option maxRecDepth 100000 in
theorem tb_e8 : tb_M8.all (fun M => ab_all1 (ab_eOK tb lw_tw M) M.2.2.2.2.2.2.2 0) = true := by decide +kernel
def tb_M9 : List ab_M := [tb_m118, tb_m119, tb_m120, tb_m121, tb_m122, tb_m123, tb_m124, tb_m125, tb_m126, tb_m127, tb_m128, tb_m129, tb_m130]
set_option maxRecDepth 100000 in
theorem tb_e9 : tb_M9.all (fun M => ab_all1 (ab_eOK tb lw_tw M) M.2.2.2.2.2.2.2 0) = true := by decide +kernel
def tb_M10 : List ab_M := [tb_m131, tb_m132, tb_m133, tb_m134, tb_m135, tb_m136, tb_m137, tb_m138, tb_m139, tb_m140, tb_m141, tb_m142, tb_m143]
set_option maxRecDepth 100000 in
theorem tb_e10 : tb_M10.all (fun M => ab_all1 (ab_eOK tb lw_tw M) M.2.2.2.2.2.2.2 0) = true := by decide +kernel
def tb_M11 : List ab_M := [tb_m144, tb_m145, tb_m146, tb_m147, tb_m148, tb_m149, tb_m150, tb_m151, tb_m152]
set_option maxRecDepth 100000 in
theorem tb_e11 : tb_M11.all (fun M => ab_all1 (ab_eOK tb lw_tw M) M.2.2.2.2.2.2.2 0) = true := by decide +kernel
def tb_M12 : List ab_M := [tb_m153, tb_m154, tb_m155, tb_m156, tb_m157, tb_m158, tb_m159, tb_m160, tb_m161, tb_m162, tb_m163, tb_m164, tb_m165, tb_m166, tb_m167]
set_option maxRecDepth 100000 in
theorem tb_e12 : tb_M12.all (fun M => ab_all1 (ab_eOK tb lw_tw M) M.2.2.2.2.2.2.2 0) = true := by decide +kernel
def tb_M13 : List ab_M := [tb_m168, tb_m169, tb_m170, tb_m171, tb_m172, tb_m173, tb_m174, tb_m175, tb_m176, tb_m177, tb_m178, tb_m179, tb_m180, tb_m181, tb_m182, tb_m183]
set_option maxRecDepth 100000 in
theorem tb_e13 : tb_M13.all (fun M => ab_all1 (ab_eOK tb lw_tw M) M.2.2.2.2.2.2.2 0) = true := by decide +kernel
def tb_M14 : List ab_M := [tb_m184, tb_m185, tb_m186, tb_m187, tb_m188, tb_m189, tb_m190, tb_m191, tb_m192, tb_m193, tb_m194, tb_m195, tb_m196]
set_option maxRecDepth 100000 in
theorem tb_e14 : tb_M14.all (fun M => ab_all1 (ab_eOK tb lw_tw M) M.2.2.2.2.2.2.2 0) = true := by decide +kernel
def tb_M15 : List ab_M := [tb_m197, tb_m198, tb_m199, tb_m200, tb_m201, tb_m202, tb_m203, tb_m204, tb_m205, tb_m206, tb_m207, tb_m208, tb_m209, tb_m210, tb_m211, tb_m212]
set_option maxRecDepth 100000 in
theorem tb_e15 : tb_M15.all (fun M => ab_all1 (ab_eOK tb lw_tw M) M.2.2.2.2.2.2.2 0) = true := by decide +kernel
def tb_M16 : List ab_M := [tb_m213, tb_m214, tb_m215, tb_m216, tb_m217, tb_m218, tb_m219, tb_m220, tb_m221, tb_m222, tb_m223]
set_option maxRecDepth 100000 in
theorem tb_e16 : tb_M16.all (fun M => ab_all1 (ab_eOK tb lw_tw M) M.2.2.2.2.2.2.2 0) = true := by decide +kernel
def tb_M17 : List ab_M := [tb_m224, tb_m225, tb_m226, tb_m227, tb_m228, tb_m229, tb_m230, tb_m231, tb_m232, tb_m233, tb_m234]
set_option maxRecDepth 100000 in
theorem tb_e17 : tb_M17.all (fun M => ab_all1 (ab_eOK tb lw_tw M) M.2.2.2.2.2.2.2 0) = true := by decide +kernel
