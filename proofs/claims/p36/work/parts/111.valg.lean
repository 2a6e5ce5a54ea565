/-! the links and constants of the tables, by the kernel (wip/gen/valid.py) -/
set_option maxRecDepth 100000 in
theorem tb_okF_0 : ((tb_F.drop 0).take 48).all (ab_flOK tb lw_tw) = true := by decide +kernel
set_option maxRecDepth 100000 in
theorem tb_okF_48 : ((tb_F.drop 48).take 48).all (ab_flOK tb lw_tw) = true := by decide +kernel
theorem tb_okF : tb_F.all (ab_flOK tb lw_tw) = true := by
  rw [← List.drop_zero (l := tb_F)]
  refine ab_allcut 0 48 tb_okF_0 ?_
  refine ab_allcut 48 48 tb_okF_48 ?_
  exact ab_allend 96 (by decide +kernel)
set_option maxRecDepth 100000 in
theorem tb_okG_0 : ((tb_G.drop 0).take 28).all (ab_glOK tb lw_tw) = true := by decide +kernel
set_option maxRecDepth 100000 in
theorem tb_okG_28 : ((tb_G.drop 28).take 28).all (ab_glOK tb lw_tw) = true := by decide +kernel
set_option maxRecDepth 100000 in
theorem tb_okG_56 : ((tb_G.drop 56).take 28).all (ab_glOK tb lw_tw) = true := by decide +kernel
set_option maxRecDepth 100000 in
theorem tb_okG_84 : ((tb_G.drop 84).take 28).all (ab_glOK tb lw_tw) = true := by decide +kernel
set_option maxRecDepth 100000 in
theorem tb_okG_112 : ((tb_G.drop 112).take 28).all (ab_glOK tb lw_tw) = true := by decide +kernel
set_option maxRecDepth 100000 in
theorem tb_okG_140 : ((tb_G.drop 140).take 28).all (ab_glOK tb lw_tw) = true := by decide +kernel
set_option maxRecDepth 100000 in
theorem tb_okG_168 : ((tb_G.drop 168).take 28).all (ab_glOK tb lw_tw) = true := by decide +kernel
set_option maxRecDepth 100000 in
theorem tb_okG_196 : ((tb_G.drop 196).take 28).all (ab_glOK tb lw_tw) = true := by decide +kernel
set_option maxRecDepth 100000 in
theorem tb_okG_224 : ((tb_G.drop 224).take 28).all (ab_glOK tb lw_tw) = true := by decide +kernel
set_option maxRecDepth 100000 in
theorem tb_okG_252 : ((tb_G.drop 252).take 28).all (ab_glOK tb lw_tw) = true := by decide +kernel
theorem tb_okG : tb_G.all (ab_glOK tb lw_tw) = true := by
  rw [← List.drop_zero (l := tb_G)]
  refine ab_allcut 0 28 tb_okG_0 ?_
  refine ab_allcut 28 28 tb_okG_28 ?_
  refine ab_allcut 56 28 tb_okG_56 ?_
  refine ab_allcut 84 28 tb_okG_84 ?_
  refine ab_allcut 112 28 tb_okG_112 ?_
  refine ab_allcut 140 28 tb_okG_140 ?_
  refine ab_allcut 168 28 tb_okG_168 ?_
  refine ab_allcut 196 28 tb_okG_196 ?_
  refine ab_allcut 224 28 tb_okG_224 ?_
  refine ab_allcut 252 28 tb_okG_252 ?_
  exact ab_allend 280 (by decide +kernel)
set_option maxRecDepth 100000 in
theorem tb_okK_0 : ((tb_K.drop 0).take 24).all (ab_klOK lw_tw) = true := by decide +kernel
theorem tb_okK : tb_K.all (ab_klOK lw_tw) = true := by
  rw [← List.drop_zero (l := tb_K)]
  refine ab_allcut 0 24 tb_okK_0 ?_
  exact ab_allend 24 (by decide +kernel)
