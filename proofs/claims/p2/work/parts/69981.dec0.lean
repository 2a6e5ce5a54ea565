/-! EVERY INSTRUCTION DECODES as the tables say, by the kernel (wip/gen/valid.py) -/
set_option maxRecDepth 100000 in
theorem tb_e0 : ab_all1 (ab_eOK tb lw_tw tb_m0) tb_t0 0 = true := by decide +kernel
set_option maxRecDepth 100000 in
theorem tb_e1 : ab_all1 (ab_eOK tb lw_tw tb_m1) tb_t1 0 = true := by decide +kernel
set_option maxRecDepth 100000 in
theorem tb_e2 : ab_all1 (ab_eOK tb lw_tw tb_m2) tb_t2 0 = true := by decide +kernel
set_option maxRecDepth 100000 in
theorem tb_e3 : ab_all1 (ab_eOK tb lw_tw tb_m3) tb_t3 0 = true := by decide +kernel
set_option maxRecDepth 100000 in
theorem tb_e4 : ab_all1 (ab_eOK tb lw_tw tb_m4) tb_t4 0 = true := by decide +kernel
set_option maxRecDepth 100000 in
theorem tb_e5 : ab_all1 (ab_eOK tb lw_tw tb_m5) tb_t5 0 = true := by decide +kernel
set_option maxRecDepth 100000 in
theorem tb_e6 : ab_all1 (ab_eOK tb lw_tw tb_m6) tb_t6 0 = true := by decide +kernel
set_option maxRecDepth 100000 in
theorem tb_e7 : ab_all1 (ab_eOK tb lw_tw tb_m7) tb_t7 0 = true := by decide +kernel
set_option maxRecDepth 100000 in
theorem tb_e8 : ab_all1 (ab_eOK tb lw_tw tb_m8) tb_t8 0 = true := by decide +kernel
set_option maxRecDepth 100000 in
theorem tb_e9 : ab_all1 (ab_eOK tb lw_tw tb_m9) tb_t9 0 = true := by decide +kernel
set_option maxRecDepth 100000 in
theorem tb_e10 : ab_all1 (ab_eOK tb lw_tw tb_m10) tb_t10 0 = true := by decide +kernel
set_option maxRecDepth 100000 in
theorem tb_e11 : ab_all1 (ab_eOK tb lw_tw tb_m11) tb_t11 0 = true := by decide +kernel
set_option maxRecDepth 100000 in
theorem tb_e12 : ab_all1 (ab_eOK tb lw_tw tb_m12) tb_t12 0 = true := by decide +kernel
set_option maxRecDepth 100000 in
theorem tb_e13 : ab_all1 (ab_eOK tb lw_tw tb_m13) tb_t13 0 = true := by decide +kernel
set_option maxRecDepth 100000 in
theorem tb_e14 : ab_all1 (ab_eOK tb lw_tw tb_m14) tb_t14 0 = true := by decide +kernel
set_option maxRecDepth 100000 in
theorem tb_e15 : ab_all1 (ab_eOK tb lw_tw tb_m15) tb_t15 0 = true := by decide +kernel
set_option maxRecDepth 100000 in
theorem tb_e16 : ab_all1 (ab_eOK tb lw_tw tb_m16) tb_t16 0 = true := by decide +kernel
set_option maxRecDepth 100000 in
theorem tb_e17 : ab_all1 (ab_eOK tb lw_tw tb_m17) tb_t17 0 = true := by decide +kernel
set_option maxRecDepth 100000 in
theorem tb_e18 : ab_all1 (ab_eOK tb lw_tw tb_m18) tb_t18 0 = true := by decide +kernel
set_option maxRecDepth 100000 in
theorem tb_e19 : ab_all1 (ab_eOK tb lw_tw tb_m19) tb_t19 0 = true := by decide +kernel
set_option maxRecDepth 100000 in
theorem tb_e20 : ab_all1 (ab_eOK tb lw_tw tb_m20) tb_t20 0 = true := by decide +kernel
set_option maxRecDepth 100000 in
theorem tb_e21 : ab_all1 (ab_eOK tb lw_tw tb_m21) tb_t21 0 = true := by decide +kernel
set_option maxRecDepth 100000 in
theorem tb_e22 : ab_all1 (ab_eOK tb lw_tw tb_m22) tb_t22 0 = true := by decide +kernel
set_option maxRecDepth 100000 in
theorem tb_e23 : ab_all1 (ab_eOK tb lw_tw tb_m23) tb_t23 0 = true := by decide +kernel
set_option maxRecDepth 100000 in
theorem tb_e24 : ab_all1 (ab_eOK tb lw_tw tb_m24) tb_t24 0 = true := by decide +kernel
set_option maxRecDepth 100000 in
theorem tb_e25 : ab_all1 (ab_eOK tb lw_tw tb_m25) tb_t25 0 = true := by decide +kernel
set_option maxRecDepth 100000 in
theorem tb_e26 : ab_all1 (ab_eOK tb lw_tw tb_m26) tb_t26 0 = true := by decide +kernel
set_option maxRecDepth 100000 in
theorem tb_e27 : ab_all1 (ab_eOK tb lw_tw tb_m27) tb_t27 0 = true := by decide +kernel
set_option maxRecDepth 100000 in
theorem tb_e28 : ab_all1 (ab_eOK tb lw_tw tb_m28) tb_t28 0 = true := by decide +kernel
set_option maxRecDepth 100000 in
theorem tb_e29 : ab_all1 (ab_eOK tb lw_tw tb_m29) tb_t29 0 = true := by decide +kernel
set_option maxRecDepth 100000 in
theorem tb_e30 : ab_all1 (ab_eOK tb lw_tw tb_m30) tb_t30 0 = true := by decide +kernel
set_option maxRecDepth 100000 in
theorem tb_e31 : ab_all1 (ab_eOK tb lw_tw tb_m31) tb_t31 0 = true := by decide +kernel
set_option maxRecDepth 100000 in
theorem tb_e32 : ab_all1 (ab_eOK tb lw_tw tb_m32) tb_t32 0 = true := by decide +kernel
set_option maxRecDepth 100000 in
theorem tb_e33 : ab_all1 (ab_eOK tb lw_tw tb_m33) tb_t33 0 = true := by decide +kernel
set_option maxRecDepth 100000 in
theorem tb_e34 : ab_all1 (ab_eOK tb lw_tw tb_m34) tb_t34 0 = true := by decide +kernel
set_option maxRecDepth 100000 in
theorem tb_e35 : ab_all1 (ab_eOK tb lw_tw tb_m35) tb_t35 0 = true := by decide +kernel
set_option maxRecDepth 100000 in
theorem tb_e36 : ab_all1 (ab_eOK tb lw_tw tb_m36) tb_t36 0 = true := by decide +kernel
set_option maxRecDepth 100000 in
theorem tb_e37 : ab_all1 (ab_eOK tb lw_tw tb_m37) tb_t37 0 = true := by decide +kernel
set_option maxRecDepth 100000 in
theorem tb_e38 : ab_all1 (ab_eOK tb lw_tw tb_m38) tb_t38 0 = true := by decide +kernel
set_option maxRecDepth 100000 in
theorem tb_e39 : ab_all1 (ab_eOK tb lw_tw tb_m39) tb_t39 0 = true := by decide +kernel
set_option maxRecDepth 100000 in
theorem tb_e40 : ab_all1 (ab_eOK tb lw_tw tb_m40) tb_t40 0 = true := by decide +kernel
set_option maxRecDepth 100000 in
theorem tb_e41 : ab_all1 (ab_eOK tb lw_tw tb_m41) tb_t41 0 = true := by decide +kernel
set_option maxRecDepth 100000 in
theorem tb_e42 : ab_all1 (ab_eOK tb lw_tw tb_m42) tb_t42 0 = true := by decide +kernel
set_option maxRecDepth 100000 in
theorem tb_e43 : ab_all1 (ab_eOK tb lw_tw tb_m43) tb_t43 0 = true := by decide +kernel
set_option maxRecDepth 100000 in
theorem tb_e44 : ab_all1 (ab_eOK tb lw_tw tb_m44) tb_t44 0 = true := by decide +kernel
set_option maxRecDepth 100000 in
theorem tb_e45 : ab_all1 (ab_eOK tb lw_tw tb_m45) tb_t45 0 = true := by decide +kernel
set_option maxRecDepth 100000 in
theorem tb_e46 : ab_all1 (ab_eOK tb lw_tw tb_m46) tb_t46 0 = true := by decide +kernel
set_option maxRecDepth 100000 in
theorem tb_e47 : ab_all1 (ab_eOK tb lw_tw tb_m47) tb_t47 0 = true := by decide +kernel
set_option maxRecDepth 100000 in
theorem tb_e48 : ab_all1 (ab_eOK tb lw_tw tb_m48) tb_t48 0 = true := by decide +kernel
set_option maxRecDepth 100000 in
theorem tb_e49 : ab_all1 (ab_eOK tb lw_tw tb_m49) tb_t49 0 = true := by decide +kernel
set_option maxRecDepth 100000 in
theorem tb_e50 : ab_all1 (ab_eOK tb lw_tw tb_m50) tb_t50 0 = true := by decide +kernel
set_option maxRecDepth 100000 in
theorem tb_e51 : ab_all1 (ab_eOK tb lw_tw tb_m51) tb_t51 0 = true := by decide +kernel
set_option maxRecDepth 100000 in
theorem tb_e52 : ab_all1 (ab_eOK tb lw_tw tb_m52) tb_t52 0 = true := by decide +kernel
set_option maxRecDepth 100000 in
theorem tb_e53 : ab_all1 (ab_eOK tb lw_tw tb_m53) tb_t53 0 = true := by decide +kernel
set_option maxRecDepth 100000 in
theorem tb_e54 : ab_all1 (ab_eOK tb lw_tw tb_m54) tb_t54 0 = true := by decide +kernel
set_option maxRecDepth 100000 in
theorem tb_e55 : ab_all1 (ab_eOK tb lw_tw tb_m55) tb_t55 0 = true := by decide +kernel
set_option maxRecDepth 100000 in
theorem tb_e56 : ab_all1 (ab_eOK tb lw_tw tb_m56) tb_t56 0 = true := by decide +kernel
set_option maxRecDepth 100000 in
theorem tb_e57 : ab_all1 (ab_eOK tb lw_tw tb_m57) tb_t57 0 = true := by decide +kernel
set_option maxRecDepth 100000 in
theorem tb_e58 : ab_all1 (ab_eOK tb lw_tw tb_m58) tb_t58 0 = true := by decide +kernel
set_option maxRecDepth 100000 in
theorem tb_e59 : ab_all1 (ab_eOK tb lw_tw tb_m59) tb_t59 0 = true := by decide +kernel
set_option maxRecDepth 100000 in
theorem tb_e60 : ab_all1 (ab_eOK tb lw_tw tb_m60) tb_t60 0 = true := by decide +kernel
set_option maxRecDepth 100000 in
theorem tb_e61 : ab_all1 (ab_eOK tb lw_tw tb_m61) tb_t61 0 = true := by decide +kernel
set_option maxRecDepth 100000 in
theorem tb_e62 : ab_all1 (ab_eOK tb lw_tw tb_m62) tb_t62 0 = true := by decide +kernel
set_option maxRecDepth 100000 in
theorem tb_e63 : ab_all1 (ab_eOK tb lw_tw tb_m63) tb_t63 0 = true := by decide +kernel
set_option maxRecDepth 100000 in
theorem tb_e64 : ab_all1 (ab_eOK tb lw_tw tb_m64) tb_t64 0 = true := by decide +kernel
set_option maxRecDepth 100000 in
theorem tb_e65 : ab_all1 (ab_eOK tb lw_tw tb_m65) tb_t65 0 = true := by decide +kernel
set_option maxRecDepth 100000 in
theorem tb_e66 : ab_all1 (ab_eOK tb lw_tw tb_m66) tb_t66 0 = true := by decide +kernel
set_option maxRecDepth 100000 in
theorem tb_e67 : ab_all1 (ab_eOK tb lw_tw tb_m67) tb_t67 0 = true := by decide +kernel
set_option maxRecDepth 100000 in
theorem tb_e68 : ab_all1 (ab_eOK tb lw_tw tb_m68) tb_t68 0 = true := by decide +kernel
set_option maxRecDepth 100000 in
theorem tb_e69 : ab_all1 (ab_eOK tb lw_tw tb_m69) tb_t69 0 = true := by decide +kernel
set_option maxRecDepth 100000 in
theorem tb_e70 : ab_all1 (ab_eOK tb lw_tw tb_m70) tb_t70 0 = true := by decide +kernel
set_option maxRecDepth 100000 in
theorem tb_e71 : ab_all1 (ab_eOK tb lw_tw tb_m71) tb_t71 0 = true := by decide +kernel
set_option maxRecDepth 100000 in
theorem tb_e72 : ab_all1 (ab_eOK tb lw_tw tb_m72) tb_t72 0 = true := by decide +kernel
set_option maxRecDepth 100000 in
theorem tb_e73 : ab_all1 (ab_eOK tb lw_tw tb_m73) tb_t73 0 = true := by decide +kernel
set_option maxRecDepth 100000 in
theorem tb_e74 : ab_all1 (ab_eOK tb lw_tw tb_m74) tb_t74 0 = true := by decide +kernel
set_option maxRecDepth 100000 in
theorem tb_e75 : ab_all1 (ab_eOK tb lw_tw tb_m75) tb_t75 0 = true := by decide +kernel
set_option maxRecDepth 100000 in
theorem tb_e76 : ab_all1 (ab_eOK tb lw_tw tb_m76) tb_t76 0 = true := by decide +kernel
set_option maxRecDepth 100000 in
theorem tb_e77 : ab_all1 (ab_eOK tb lw_tw tb_m77) tb_t77 0 = true := by decide +kernel
set_option maxRecDepth 100000 in
theorem tb_e78 : ab_all1 (ab_eOK tb lw_tw tb_m78) tb_t78 0 = true := by decide +kernel
set_option maxRecDepth 100000 in
theorem tb_e79 : ab_all1 (ab_eOK tb lw_tw tb_m79) tb_t79 0 = true := by decide +kernel
