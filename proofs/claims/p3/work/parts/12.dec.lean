section
/-! EVERY INSTRUCTION DECODES as the tables say, by the kernel (wip/gen/valid.py) -/
set_option maxRecDepth 100000 in
theorem tb_e0 : ab_all1 (ab_eOK tb lw_tw tb_m0) tb_t0 0 = true := by decide +kernel
set_option maxRecDepth 100000 in
theorem tb_e1 : ab_all1 (ab_eOK tb lw_tw tb_m1) tb_t1 0 = true := by decide +kernel
set_option maxRecDepth 100000 in
theorem tb_e2 : ab_all1 (ab_eOK tb lw_tw tb_m2) tb_t2 0 = true := by decide +kernel
set_option maxRecDepth 100000 in
theorem tb_e3 : ab_all1 (ab_eOK tb lw_tw tb_m3) tb_t3 0 = true := by decide +kernel
set_option maxRecDepth 100000 in
theorem tb_e4 : ab_all1 (ab_eOK tb lw_tw tb_m4) tb_t4 0 = true := by decide +kernel
set_option maxRecDepth 100000 in
theorem tb_e5 : ab_all1 (ab_eOK tb lw_tw tb_m5) tb_t5 0 = true := by decide +kernel
set_option maxRecDepth 100000 in
theorem tb_e6 : ab_all1 (ab_eOK tb lw_tw tb_m6) tb_t6 0 = true := by decide +kernel
set_option maxRecDepth 100000 in
theorem tb_e7 : ab_all1 (ab_eOK tb lw_tw tb_m7) tb_t7 0 = true := by decide +kernel
set_option maxRecDepth 100000 in
theorem tb_e8 : ab_all1 (ab_eOK tb lw_tw tb_m8) tb_t8 0 = true := by decide +kernel
set_option maxRecDepth 100000 in
theorem tb_e9 : ab_all1 (ab_eOK tb lw_tw tb_m9) tb_t9 0 = true := by decide +kernel
set_option maxRecDepth 100000 in
theorem tb_e10 : ab_all1 (ab_eOK tb lw_tw tb_m10) tb_t10 0 = true := by decide +kernel
set_option maxRecDepth 100000 in
theorem tb_e11 : ab_all1 (ab_eOK tb lw_tw tb_m11) tb_t11 0 = true := by decide +kernel
set_option maxRecDepth 100000 in
theorem tb_e12 : ab_all1 (ab_eOK tb lw_tw tb_m12) tb_t12 0 = true := by decide +kernel
set_option maxRecDepth 100000 in
theorem tb_e13 : ab_all1 (ab_eOK tb lw_tw tb_m13) tb_t13 0 = true := by decide +kernel
set_option maxRecDepth 100000 in
theorem tb_e14 : ab_all1 (ab_eOK tb lw_tw tb_m14) tb_t14 0 = true := by decide +kernel
set_option maxRecDepth 100000 in
theorem tb_e15 : ab_all1 (ab_eOK tb lw_tw tb_m15) tb_t15 0 = true := by decide +kernel
set_option maxRecDepth 100000 in
theorem tb_e16 : ab_all1 (ab_eOK tb lw_tw tb_m16) tb_t16 0 = true := by decide +kernel
set_option maxRecDepth 100000 in
theorem tb_e17 : ab_all1 (ab_eOK tb lw_tw tb_m17) tb_t17 0 = true := by decide +kernel
set_option maxRecDepth 100000 in
theorem tb_e18 : ab_all1 (ab_eOK tb lw_tw tb_m18) tb_t18 0 = true := by decide +kernel
set_option maxRecDepth 100000 in
theorem tb_e19 : ab_all1 (ab_eOK tb lw_tw tb_m19) tb_t19 0 = true := by decide +kernel
set_option maxRecDepth 100000 in
theorem tb_e20 : ab_all1 (ab_eOK tb lw_tw tb_m20) tb_t20 0 = true := by decide +kernel
set_option maxRecDepth 100000 in
theorem tb_e21 : ab_all1 (ab_eOK tb lw_tw tb_m21) tb_t21 0 = true := by decide +kernel
set_option maxRecDepth 100000 in
theorem tb_e22 : ab_all1 (ab_eOK tb lw_tw tb_m22) tb_t22 0 = true := by decide +kernel
set_option maxRecDepth 100000 in
theorem tb_e23 : ab_all1 (ab_eOK tb lw_tw tb_m23) tb_t23 0 = true := by decide +kernel
set_option maxRecDepth 100000 in
theorem tb_e24 : ab_all1 (ab_eOK tb lw_tw tb_m24) tb_t24 0 = true := by decide +kernel
set_option maxRecDepth 100000 in
theorem tb_e25 : ab_all1 (ab_eOK tb lw_tw tb_m25) tb_t25 0 = true := by decide +kernel
set_option maxRecDepth 100000 in
theorem tb_e26 : ab_all1 (ab_eOK tb lw_tw tb_m26) tb_t26 0 = true := by decide +kernel
set_option maxRecDepth 100000 in
theorem tb_e27 : ab_all1 (ab_eOK tb lw_tw tb_m27) tb_t27 0 = true := by decide +kernel
set_option maxRecDepth 100000 in
theorem tb_e28 : ab_all1 (ab_eOK tb lw_tw tb_m28) tb_t28 0 = true := by decide +kernel
set_option maxRecDepth 100000 in
theorem tb_e29 : ab_all1 (ab_eOK tb lw_tw tb_m29) tb_t29 0 = true := by decide +kernel
set_option maxRecDepth 100000 in
theorem tb_e30 : ab_all1 (ab_eOK tb lw_tw tb_m30) tb_t30 0 = true := by decide +kernel
set_option maxRecDepth 100000 in
theorem tb_e31 : ab_all1 (ab_eOK tb lw_tw tb_m31) tb_t31 0 = true := by decide +kernel
set_option maxRecDepth 100000 in
theorem tb_e32 : ab_all1 (ab_eOK tb lw_tw tb_m32) tb_t32 0 = true := by decide +kernel
set_option maxRecDepth 100000 in
theorem tb_e33 : ab_all1 (ab_eOK tb lw_tw tb_m33) tb_t33 0 = true := by decide +kernel
set_option maxRecDepth 100000 in
theorem tb_e34 : ab_all1 (ab_eOK tb lw_tw tb_m34) tb_t34 0 = true := by decide +kernel
set_option maxRecDepth 100000 in
theorem tb_e35 : ab_all1 (ab_eOK tb lw_tw tb_m35) tb_t35 0 = true := by decide +kernel
set_option maxRecDepth 100000 in
theorem tb_e36 : ab_all1 (ab_eOK tb lw_tw tb_m36) tb_t36 0 = true := by decide +kernel
set_option maxRecDepth 100000 in
theorem tb_e37 : ab_all1 (ab_eOK tb lw_tw tb_m37) tb_t37 0 = true := by decide +kernel
set_option maxRecDepth 100000 in
theorem tb_e38 : ab_all1 (ab_eOK tb lw_tw tb_m38) tb_t38 0 = true := by decide +kernel
set_option maxRecDepth 100000 in
theorem tb_e39 : ab_all1 (ab_eOK tb lw_tw tb_m39) tb_t39 0 = true := by decide +kernel
set_option maxRecDepth 100000 in
theorem tb_e40 : ab_all1 (ab_eOK tb lw_tw tb_m40) tb_t40 0 = true := by decide +kernel
set_option maxRecDepth 100000 in
theorem tb_e41 : ab_all1 (ab_eOK tb lw_tw tb_m41) tb_t41 0 = true := by decide +kernel
set_option maxRecDepth 100000 in
theorem tb_e42 : ab_all1 (ab_eOK tb lw_tw tb_m42) tb_t42 0 = true := by decide +kernel
set_option maxRecDepth 100000 in
theorem tb_e43 : ab_all1 (ab_eOK tb lw_tw tb_m43) tb_t43 0 = true := by decide +kernel
set_option maxRecDepth 100000 in
theorem tb_e44 : ab_all1 (ab_eOK tb lw_tw tb_m44) tb_t44 0 = true := by decide +kernel
set_option maxRecDepth 100000 in
theorem tb_e45 : ab_all1 (ab_eOK tb lw_tw tb_m45) tb_t45 0 = true := by decide +kernel
set_option maxRecDepth 100000 in
theorem tb_e46 : ab_all1 (ab_eOK tb lw_tw tb_m46) tb_t46 0 = true := by decide +kernel
set_option maxRecDepth 100000 in
theorem tb_e47 : ab_all1 (ab_eOK tb lw_tw tb_m47) tb_t47 0 = true := by decide +kernel
set_option maxRecDepth 100000 in
theorem tb_e48 : ab_all1 (ab_eOK tb lw_tw tb_m48) tb_t48 0 = true := by decide +kernel
set_option maxRecDepth 100000 in
theorem tb_e49 : ab_all1 (ab_eOK tb lw_tw tb_m49) tb_t49 0 = true := by decide +kernel
set_option maxRecDepth 100000 in
theorem tb_e50 : ab_all1 (ab_eOK tb lw_tw tb_m50) tb_t50 0 = true := by decide +kernel
set_option maxRecDepth 100000 in
theorem tb_e51 : ab_all1 (ab_eOK tb lw_tw tb_m51) tb_t51 0 = true := by decide +kernel
set_option maxRecDepth 100000 in
theorem tb_e52 : ab_all1 (ab_eOK tb lw_tw tb_m52) tb_t52 0 = true := by decide +kernel
set_option maxRecDepth 100000 in
theorem tb_e53 : ab_all1 (ab_eOK tb lw_tw tb_m53) tb_t53 0 = true := by decide +kernel
set_option maxRecDepth 100000 in
theorem tb_e54 : ab_all1 (ab_eOK tb lw_tw tb_m54) tb_t54 0 = true := by decide +kernel
set_option maxRecDepth 100000 in
theorem tb_e55 : ab_all1 (ab_eOK tb lw_tw tb_m55) tb_t55 0 = true := by decide +kernel
set_option maxRecDepth 100000 in
theorem tb_e56 : ab_all1 (ab_eOK tb lw_tw tb_m56) tb_t56 0 = true := by decide +kernel
set_option maxRecDepth 100000 in
theorem tb_e57 : ab_all1 (ab_eOK tb lw_tw tb_m57) tb_t57 0 = true := by decide +kernel
set_option maxRecDepth 100000 in
theorem tb_e58 : ab_all1 (ab_eOK tb lw_tw tb_m58) tb_t58 0 = true := by decide +kernel
set_option maxRecDepth 100000 in
theorem tb_e59 : ab_all1 (ab_eOK tb lw_tw tb_m59) tb_t59 0 = true := by decide +kernel
set_option maxRecDepth 100000 in
theorem tb_e60 : ab_all1 (ab_eOK tb lw_tw tb_m60) tb_t60 0 = true := by decide +kernel
set_option maxRecDepth 100000 in
theorem tb_e61 : ab_all1 (ab_eOK tb lw_tw tb_m61) tb_t61 0 = true := by decide +kernel
set_option maxRecDepth 100000 in
theorem tb_e62 : ab_all1 (ab_eOK tb lw_tw tb_m62) tb_t62 0 = true := by decide +kernel
set_option maxRecDepth 100000 in
theorem tb_e63 : ab_all1 (ab_eOK tb lw_tw tb_m63) tb_t63 0 = true := by decide +kernel
set_option maxRecDepth 100000 in
theorem tb_e64 : ab_all1 (ab_eOK tb lw_tw tb_m64) tb_t64 0 = true := by decide +kernel
set_option maxRecDepth 100000 in
theorem tb_e65 : ab_all1 (ab_eOK tb lw_tw tb_m65) tb_t65 0 = true := by decide +kernel
set_option maxRecDepth 100000 in
theorem tb_e66 : ab_all1 (ab_eOK tb lw_tw tb_m66) tb_t66 0 = true := by decide +kernel
set_option maxRecDepth 100000 in
theorem tb_e67 : ab_all1 (ab_eOK tb lw_tw tb_m67) tb_t67 0 = true := by decide +kernel
set_option maxRecDepth 100000 in
theorem tb_e68 : ab_all1 (ab_eOK tb lw_tw tb_m68) tb_t68 0 = true := by decide +kernel
set_option maxRecDepth 100000 in
theorem tb_e69 : ab_all1 (ab_eOK tb lw_tw tb_m69) tb_t69 0 = true := by decide +kernel
set_option maxRecDepth 100000 in
theorem tb_e70 : ab_all1 (ab_eOK tb lw_tw tb_m70) tb_t70 0 = true := by decide +kernel
set_option maxRecDepth 100000 in
theorem tb_e71 : ab_all1 (ab_eOK tb lw_tw tb_m71) tb_t71 0 = true := by decide +kernel
set_option maxRecDepth 100000 in
theorem tb_e72 : ab_all1 (ab_eOK tb lw_tw tb_m72) tb_t72 0 = true := by decide +kernel
set_option maxRecDepth 100000 in
theorem tb_e73 : ab_all1 (ab_eOK tb lw_tw tb_m73) tb_t73 0 = true := by decide +kernel
set_option maxRecDepth 100000 in
theorem tb_e74 : ab_all1 (ab_eOK tb lw_tw tb_m74) tb_t74 0 = true := by decide +kernel
set_option maxRecDepth 100000 in
theorem tb_e75 : ab_all1 (ab_eOK tb lw_tw tb_m75) tb_t75 0 = true := by decide +kernel
set_option maxRecDepth 100000 in
theorem tb_e76 : ab_all1 (ab_eOK tb lw_tw tb_m76) tb_t76 0 = true := by decide +kernel
set_option maxRecDepth 100000 in
theorem tb_e77 : ab_all1 (ab_eOK tb lw_tw tb_m77) tb_t77 0 = true := by decide +kernel
set_option maxRecDepth 100000 in
theorem tb_e78 : ab_all1 (ab_eOK tb lw_tw tb_m78) tb_t78 0 = true := by decide +kernel
set_option maxRecDepth 100000 in
theorem tb_e79 : ab_all1 (ab_eOK tb lw_tw tb_m79) tb_t79 0 = true := by decide +kernel
end
section
/-! EVERY INSTRUCTION DECODES as the tables say, by the kernel (wip/gen/valid.py) -/
set_option maxRecDepth 100000 in
theorem tb_e80 : ab_all1 (ab_eOK tb lw_tw tb_m80) tb_t80 0 = true := by decide +kernel
set_option maxRecDepth 100000 in
theorem tb_e81 : ab_all1 (ab_eOK tb lw_tw tb_m81) tb_t81 0 = true := by decide +kernel
set_option maxRecDepth 100000 in
theorem tb_e82 : ab_all1 (ab_eOK tb lw_tw tb_m82) tb_t82 0 = true := by decide +kernel
set_option maxRecDepth 100000 in
theorem tb_e83 : ab_all1 (ab_eOK tb lw_tw tb_m83) tb_t83 0 = true := by decide +kernel
set_option maxRecDepth 100000 in
theorem tb_e84 : ab_all1 (ab_eOK tb lw_tw tb_m84) tb_t84 0 = true := by decide +kernel
set_option maxRecDepth 100000 in
theorem tb_e85 : ab_all1 (ab_eOK tb lw_tw tb_m85) tb_t85 0 = true := by decide +kernel
set_option maxRecDepth 100000 in
theorem tb_e86 : ab_all1 (ab_eOK tb lw_tw tb_m86) tb_t86 0 = true := by decide +kernel
set_option maxRecDepth 100000 in
theorem tb_e87 : ab_all1 (ab_eOK tb lw_tw tb_m87) tb_t87 0 = true := by decide +kernel
set_option maxRecDepth 100000 in
theorem tb_e88 : ab_all1 (ab_eOK tb lw_tw tb_m88) tb_t88 0 = true := by decide +kernel
set_option maxRecDepth 100000 in
theorem tb_e89 : ab_all1 (ab_eOK tb lw_tw tb_m89) tb_t89 0 = true := by decide +kernel
set_option maxRecDepth 100000 in
theorem tb_e90 : ab_all1 (ab_eOK tb lw_tw tb_m90) tb_t90 0 = true := by decide +kernel
set_option maxRecDepth 100000 in
theorem tb_e91 : ab_all1 (ab_eOK tb lw_tw tb_m91) tb_t91 0 = true := by decide +kernel
set_option maxRecDepth 100000 in
theorem tb_e92 : ab_all1 (ab_eOK tb lw_tw tb_m92) tb_t92 0 = true := by decide +kernel
set_option maxRecDepth 100000 in
theorem tb_e93 : ab_all1 (ab_eOK tb lw_tw tb_m93) tb_t93 0 = true := by decide +kernel
set_option maxRecDepth 100000 in
theorem tb_e94 : ab_all1 (ab_eOK tb lw_tw tb_m94) tb_t94 0 = true := by decide +kernel
set_option maxRecDepth 100000 in
theorem tb_e95 : ab_all1 (ab_eOK tb lw_tw tb_m95) tb_t95 0 = true := by decide +kernel
set_option maxRecDepth 100000 in
theorem tb_e96 : ab_all1 (ab_eOK tb lw_tw tb_m96) tb_t96 0 = true := by decide +kernel
set_option maxRecDepth 100000 in
theorem tb_e97 : ab_all1 (ab_eOK tb lw_tw tb_m97) tb_t97 0 = true := by decide +kernel
set_option maxRecDepth 100000 in
theorem tb_e98 : ab_all1 (ab_eOK tb lw_tw tb_m98) tb_t98 0 = true := by decide +kernel
set_option maxRecDepth 100000 in
theorem tb_e99 : ab_all1 (ab_eOK tb lw_tw tb_m99) tb_t99 0 = true := by decide +kernel
set_option maxRecDepth 100000 in
theorem tb_e100 : ab_all1 (ab_eOK tb lw_tw tb_m100) tb_t100 0 = true := by decide +kernel
set_option maxRecDepth 100000 in
theorem tb_e101 : ab_all1 (ab_eOK tb lw_tw tb_m101) tb_t101 0 = true := by decide +kernel
set_option maxRecDepth 100000 in
theorem tb_e102 : ab_all1 (ab_eOK tb lw_tw tb_m102) tb_t102 0 = true := by decide +kernel
set_option maxRecDepth 100000 in
theorem tb_e103 : ab_all1 (ab_eOK tb lw_tw tb_m103) tb_t103 0 = true := by decide +kernel
set_option maxRecDepth 100000 in
theorem tb_e104 : ab_all1 (ab_eOK tb lw_tw tb_m104) tb_t104 0 = true := by decide +kernel
set_option maxRecDepth 100000 in
theorem tb_e105 : ab_all1 (ab_eOK tb lw_tw tb_m105) tb_t105 0 = true := by decide +kernel
set_option maxRecDepth 100000 in
theorem tb_e106 : ab_all1 (ab_eOK tb lw_tw tb_m106) tb_t106 0 = true := by decide +kernel
set_option maxRecDepth 100000 in
theorem tb_e107 : ab_all1 (ab_eOK tb lw_tw tb_m107) tb_t107 0 = true := by decide +kernel
set_option maxRecDepth 100000 in
theorem tb_e108 : ab_all1 (ab_eOK tb lw_tw tb_m108) tb_t108 0 = true := by decide +kernel
set_option maxRecDepth 100000 in
theorem tb_e109 : ab_all1 (ab_eOK tb lw_tw tb_m109) tb_t109 0 = true := by decide +kernel
set_option maxRecDepth 100000 in
theorem tb_e110 : ab_all1 (ab_eOK tb lw_tw tb_m110) tb_t110 0 = true := by decide +kernel
set_option maxRecDepth 100000 in
theorem tb_e111 : ab_all1 (ab_eOK tb lw_tw tb_m111) tb_t111 0 = true := by decide +kernel
set_option maxRecDepth 100000 in
theorem tb_e112 : ab_all1 (ab_eOK tb lw_tw tb_m112) tb_t112 0 = true := by decide +kernel
set_option maxRecDepth 100000 in
theorem tb_e113 : ab_all1 (ab_eOK tb lw_tw tb_m113) tb_t113 0 = true := by decide +kernel
set_option maxRecDepth 100000 in
theorem tb_e114 : ab_all1 (ab_eOK tb lw_tw tb_m114) tb_t114 0 = true := by decide +kernel
set_option maxRecDepth 100000 in
theorem tb_e115 : ab_all1 (ab_eOK tb lw_tw tb_m115) tb_t115 0 = true := by decide +kernel
set_option maxRecDepth 100000 in
theorem tb_e116 : ab_all1 (ab_eOK tb lw_tw tb_m116) tb_t116 0 = true := by decide +kernel
set_option maxRecDepth 100000 in
theorem tb_e117 : ab_all1 (ab_eOK tb lw_tw tb_m117) tb_t117 0 = true := by decide +kernel
set_option maxRecDepth 100000 in
theorem tb_e118 : ab_all1 (ab_eOK tb lw_tw tb_m118) tb_t118 0 = true := by decide +kernel
set_option maxRecDepth 100000 in
theorem tb_e119 : ab_all1 (ab_eOK tb lw_tw tb_m119) tb_t119 0 = true := by decide +kernel
set_option maxRecDepth 100000 in
theorem tb_e120 : ab_all1 (ab_eOK tb lw_tw tb_m120) tb_t120 0 = true := by decide +kernel
set_option maxRecDepth 100000 in
theorem tb_e121 : ab_all1 (ab_eOK tb lw_tw tb_m121) tb_t121 0 = true := by decide +kernel
set_option maxRecDepth 100000 in
theorem tb_e122 : ab_all1 (ab_eOK tb lw_tw tb_m122) tb_t122 0 = true := by decide +kernel
set_option maxRecDepth 100000 in
theorem tb_e123 : ab_all1 (ab_eOK tb lw_tw tb_m123) tb_t123 0 = true := by decide +kernel
set_option maxRecDepth 100000 in
theorem tb_e124 : ab_all1 (ab_eOK tb lw_tw tb_m124) tb_t124 0 = true := by decide +kernel
set_option maxRecDepth 100000 in
theorem tb_e125 : ab_all1 (ab_eOK tb lw_tw tb_m125) tb_t125 0 = true := by decide +kernel
set_option maxRecDepth 100000 in
theorem tb_e126 : ab_all1 (ab_eOK tb lw_tw tb_m126) tb_t126 0 = true := by decide +kernel
set_option maxRecDepth 100000 in
theorem tb_e127 : ab_all1 (ab_eOK tb lw_tw tb_m127) tb_t127 0 = true := by decide +kernel
set_option maxRecDepth 100000 in
theorem tb_e128 : ab_all1 (ab_eOK tb lw_tw tb_m128) tb_t128 0 = true := by decide +kernel
set_option maxRecDepth 100000 in
theorem tb_e129 : ab_all1 (ab_eOK tb lw_tw tb_m129) tb_t129 0 = true := by decide +kernel
set_option maxRecDepth 100000 in
theorem tb_e130 : ab_all1 (ab_eOK tb lw_tw tb_m130) tb_t130 0 = true := by decide +kernel
set_option maxRecDepth 100000 in
theorem tb_e131 : ab_all1 (ab_eOK tb lw_tw tb_m131) tb_t131 0 = true := by decide +kernel
set_option maxRecDepth 100000 in
theorem tb_e132 : ab_all1 (ab_eOK tb lw_tw tb_m132) tb_t132 0 = true := by decide +kernel
set_option maxRecDepth 100000 in
theorem tb_e133 : ab_all1 (ab_eOK tb lw_tw tb_m133) tb_t133 0 = true := by decide +kernel
set_option maxRecDepth 100000 in
theorem tb_e134 : ab_all1 (ab_eOK tb lw_tw tb_m134) tb_t134 0 = true := by decide +kernel
set_option maxRecDepth 100000 in
theorem tb_e135 : ab_all1 (ab_eOK tb lw_tw tb_m135) tb_t135 0 = true := by decide +kernel
set_option maxRecDepth 100000 in
theorem tb_e136 : ab_all1 (ab_eOK tb lw_tw tb_m136) tb_t136 0 = true := by decide +kernel
set_option maxRecDepth 100000 in
theorem tb_e137 : ab_all1 (ab_eOK tb lw_tw tb_m137) tb_t137 0 = true := by decide +kernel
set_option maxRecDepth 100000 in
theorem tb_e138 : ab_all1 (ab_eOK tb lw_tw tb_m138) tb_t138 0 = true := by decide +kernel
set_option maxRecDepth 100000 in
theorem tb_e139 : ab_all1 (ab_eOK tb lw_tw tb_m139) tb_t139 0 = true := by decide +kernel
set_option maxRecDepth 100000 in
theorem tb_e140 : ab_all1 (ab_eOK tb lw_tw tb_m140) tb_t140 0 = true := by decide +kernel
set_option maxRecDepth 100000 in
theorem tb_e141 : ab_all1 (ab_eOK tb lw_tw tb_m141) tb_t141 0 = true := by decide +kernel
set_option maxRecDepth 100000 in
theorem tb_e142 : ab_all1 (ab_eOK tb lw_tw tb_m142) tb_t142 0 = true := by decide +kernel
set_option maxRecDepth 100000 in
theorem tb_e143 : ab_all1 (ab_eOK tb lw_tw tb_m143) tb_t143 0 = true := by decide +kernel
set_option maxRecDepth 100000 in
theorem tb_e144 : ab_all1 (ab_eOK tb lw_tw tb_m144) tb_t144 0 = true := by decide +kernel
set_option maxRecDepth 100000 in
theorem tb_e145 : ab_all1 (ab_eOK tb lw_tw tb_m145) tb_t145 0 = true := by decide +kernel
set_option maxRecDepth 100000 in
theorem tb_e146 : ab_all1 (ab_eOK tb lw_tw tb_m146) tb_t146 0 = true := by decide +kernel
set_option maxRecDepth 100000 in
theorem tb_e147 : ab_all1 (ab_eOK tb lw_tw tb_m147) tb_t147 0 = true := by decide +kernel
set_option maxRecDepth 100000 in
theorem tb_e148 : ab_all1 (ab_eOK tb lw_tw tb_m148) tb_t148 0 = true := by decide +kernel
set_option maxRecDepth 100000 in
theorem tb_e149 : ab_all1 (ab_eOK tb lw_tw tb_m149) tb_t149 0 = true := by decide +kernel
set_option maxRecDepth 100000 in
theorem tb_e150 : ab_all1 (ab_eOK tb lw_tw tb_m150) tb_t150 0 = true := by decide +kernel
set_option maxRecDepth 100000 in
theorem tb_e151 : ab_all1 (ab_eOK tb lw_tw tb_m151) tb_t151 0 = true := by decide +kernel
set_option maxRecDepth 100000 in
theorem tb_e152 : ab_all1 (ab_eOK tb lw_tw tb_m152) tb_t152 0 = true := by decide +kernel
set_option maxRecDepth 100000 in
theorem tb_e153 : ab_all1 (ab_eOK tb lw_tw tb_m153) tb_t153 0 = true := by decide +kernel
set_option maxRecDepth 100000 in
theorem tb_e154 : ab_all1 (ab_eOK tb lw_tw tb_m154) tb_t154 0 = true := by decide +kernel
set_option maxRecDepth 100000 in
theorem tb_e155 : ab_all1 (ab_eOK tb lw_tw tb_m155) tb_t155 0 = true := by decide +kernel
set_option maxRecDepth 100000 in
theorem tb_e156 : ab_all1 (ab_eOK tb lw_tw tb_m156) tb_t156 0 = true := by decide +kernel
set_option maxRecDepth 100000 in
theorem tb_e157 : ab_all1 (ab_eOK tb lw_tw tb_m157) tb_t157 0 = true := by decide +kernel
set_option maxRecDepth 100000 in
theorem tb_e158 : ab_all1 (ab_eOK tb lw_tw tb_m158) tb_t158 0 = true := by decide +kernel
set_option maxRecDepth 100000 in
theorem tb_e159 : ab_all1 (ab_eOK tb lw_tw tb_m159) tb_t159 0 = true := by decide +kernel
end
section
/-! EVERY INSTRUCTION DECODES as the tables say, by the kernel (wip/gen/valid.py) -/
set_option maxRecDepth 100000 in
theorem tb_e160 : ab_all1 (ab_eOK tb lw_tw tb_m160) tb_t160 0 = true := by decide +kernel
set_option maxRecDepth 100000 in
theorem tb_e161 : ab_all1 (ab_eOK tb lw_tw tb_m161) tb_t161 0 = true := by decide +kernel
set_option maxRecDepth 100000 in
theorem tb_e162 : ab_all1 (ab_eOK tb lw_tw tb_m162) tb_t162 0 = true := by decide +kernel
set_option maxRecDepth 100000 in
theorem tb_e163 : ab_all1 (ab_eOK tb lw_tw tb_m163) tb_t163 0 = true := by decide +kernel
set_option maxRecDepth 100000 in
theorem tb_e164 : ab_all1 (ab_eOK tb lw_tw tb_m164) tb_t164 0 = true := by decide +kernel
set_option maxRecDepth 100000 in
theorem tb_e165 : ab_all1 (ab_eOK tb lw_tw tb_m165) tb_t165 0 = true := by decide +kernel
set_option maxRecDepth 100000 in
theorem tb_e166 : ab_all1 (ab_eOK tb lw_tw tb_m166) tb_t166 0 = true := by decide +kernel
set_option maxRecDepth 100000 in
theorem tb_e167 : ab_all1 (ab_eOK tb lw_tw tb_m167) tb_t167 0 = true := by decide +kernel
set_option maxRecDepth 100000 in
theorem tb_e168 : ab_all1 (ab_eOK tb lw_tw tb_m168) tb_t168 0 = true := by decide +kernel
set_option maxRecDepth 100000 in
theorem tb_e169 : ab_all1 (ab_eOK tb lw_tw tb_m169) tb_t169 0 = true := by decide +kernel
set_option maxRecDepth 100000 in
theorem tb_e170 : ab_all1 (ab_eOK tb lw_tw tb_m170) tb_t170 0 = true := by decide +kernel
set_option maxRecDepth 100000 in
theorem tb_e171 : ab_all1 (ab_eOK tb lw_tw tb_m171) tb_t171 0 = true := by decide +kernel
set_option maxRecDepth 100000 in
theorem tb_e172 : ab_all1 (ab_eOK tb lw_tw tb_m172) tb_t172 0 = true := by decide +kernel
set_option maxRecDepth 100000 in
theorem tb_e173 : ab_all1 (ab_eOK tb lw_tw tb_m173) tb_t173 0 = true := by decide +kernel
set_option maxRecDepth 100000 in
theorem tb_e174 : ab_all1 (ab_eOK tb lw_tw tb_m174) tb_t174 0 = true := by decide +kernel
set_option maxRecDepth 100000 in
theorem tb_e175 : ab_all1 (ab_eOK tb lw_tw tb_m175) tb_t175 0 = true := by decide +kernel
set_option maxRecDepth 100000 in
theorem tb_e176 : ab_all1 (ab_eOK tb lw_tw tb_m176) tb_t176 0 = true := by decide +kernel
set_option maxRecDepth 100000 in
theorem tb_e177 : ab_all1 (ab_eOK tb lw_tw tb_m177) tb_t177 0 = true := by decide +kernel
set_option maxRecDepth 100000 in
theorem tb_e178 : ab_all1 (ab_eOK tb lw_tw tb_m178) tb_t178 0 = true := by decide +kernel
set_option maxRecDepth 100000 in
theorem tb_e179 : ab_all1 (ab_eOK tb lw_tw tb_m179) tb_t179 0 = true := by decide +kernel
set_option maxRecDepth 100000 in
theorem tb_e180 : ab_all1 (ab_eOK tb lw_tw tb_m180) tb_t180 0 = true := by decide +kernel
set_option maxRecDepth 100000 in
theorem tb_e181 : ab_all1 (ab_eOK tb lw_tw tb_m181) tb_t181 0 = true := by decide +kernel
set_option maxRecDepth 100000 in
theorem tb_e182 : ab_all1 (ab_eOK tb lw_tw tb_m182) tb_t182 0 = true := by decide +kernel
set_option maxRecDepth 100000 in
theorem tb_e183 : ab_all1 (ab_eOK tb lw_tw tb_m183) tb_t183 0 = true := by decide +kernel
set_option maxRecDepth 100000 in
theorem tb_e184 : ab_all1 (ab_eOK tb lw_tw tb_m184) tb_t184 0 = true := by decide +kernel
set_option maxRecDepth 100000 in
theorem tb_e185 : ab_all1 (ab_eOK tb lw_tw tb_m185) tb_t185 0 = true := by decide +kernel
set_option maxRecDepth 100000 in
theorem tb_e186 : ab_all1 (ab_eOK tb lw_tw tb_m186) tb_t186 0 = true := by decide +kernel
set_option maxRecDepth 100000 in
theorem tb_e187 : ab_all1 (ab_eOK tb lw_tw tb_m187) tb_t187 0 = true := by decide +kernel
set_option maxRecDepth 100000 in
theorem tb_e188 : ab_all1 (ab_eOK tb lw_tw tb_m188) tb_t188 0 = true := by decide +kernel
set_option maxRecDepth 100000 in
theorem tb_e189 : ab_all1 (ab_eOK tb lw_tw tb_m189) tb_t189 0 = true := by decide +kernel
set_option maxRecDepth 100000 in
theorem tb_e190 : ab_all1 (ab_eOK tb lw_tw tb_m190) tb_t190 0 = true := by decide +kernel
set_option maxRecDepth 100000 in
theorem tb_e191 : ab_all1 (ab_eOK tb lw_tw tb_m191) tb_t191 0 = true := by decide +kernel
set_option maxRecDepth 100000 in
theorem tb_e192 : ab_all1 (ab_eOK tb lw_tw tb_m192) tb_t192 0 = true := by decide +kernel
set_option maxRecDepth 100000 in
theorem tb_e193 : ab_all1 (ab_eOK tb lw_tw tb_m193) tb_t193 0 = true := by decide +kernel
set_option maxRecDepth 100000 in
theorem tb_e194 : ab_all1 (ab_eOK tb lw_tw tb_m194) tb_t194 0 = true := by decide +kernel
set_option maxRecDepth 100000 in
theorem tb_e195 : ab_all1 (ab_eOK tb lw_tw tb_m195) tb_t195 0 = true := by decide +kernel
set_option maxRecDepth 100000 in
theorem tb_e196 : ab_all1 (ab_eOK tb lw_tw tb_m196) tb_t196 0 = true := by decide +kernel
set_option maxRecDepth 100000 in
theorem tb_e197 : ab_all1 (ab_eOK tb lw_tw tb_m197) tb_t197 0 = true := by decide +kernel
set_option maxRecDepth 100000 in
theorem tb_e198 : ab_all1 (ab_eOK tb lw_tw tb_m198) tb_t198 0 = true := by decide +kernel
set_option maxRecDepth 100000 in
theorem tb_e199 : ab_all1 (ab_eOK tb lw_tw tb_m199) tb_t199 0 = true := by decide +kernel
set_option maxRecDepth 100000 in
theorem tb_e200 : ab_all1 (ab_eOK tb lw_tw tb_m200) tb_t200 0 = true := by decide +kernel
set_option maxRecDepth 100000 in
theorem tb_e201 : ab_all1 (ab_eOK tb lw_tw tb_m201) tb_t201 0 = true := by decide +kernel
set_option maxRecDepth 100000 in
theorem tb_e202 : ab_all1 (ab_eOK tb lw_tw tb_m202) tb_t202 0 = true := by decide +kernel
set_option maxRecDepth 100000 in
theorem tb_e203 : ab_all1 (ab_eOK tb lw_tw tb_m203) tb_t203 0 = true := by decide +kernel
set_option maxRecDepth 100000 in
theorem tb_e204 : ab_all1 (ab_eOK tb lw_tw tb_m204) tb_t204 0 = true := by decide +kernel
set_option maxRecDepth 100000 in
theorem tb_e205 : ab_all1 (ab_eOK tb lw_tw tb_m205) tb_t205 0 = true := by decide +kernel
set_option maxRecDepth 100000 in
theorem tb_e206 : ab_all1 (ab_eOK tb lw_tw tb_m206) tb_t206 0 = true := by decide +kernel
set_option maxRecDepth 100000 in
theorem tb_e207 : ab_all1 (ab_eOK tb lw_tw tb_m207) tb_t207 0 = true := by decide +kernel
set_option maxRecDepth 100000 in
theorem tb_e208 : ab_all1 (ab_eOK tb lw_tw tb_m208) tb_t208 0 = true := by decide +kernel
set_option maxRecDepth 100000 in
theorem tb_e209 : ab_all1 (ab_eOK tb lw_tw tb_m209) tb_t209 0 = true := by decide +kernel
set_option maxRecDepth 100000 in
theorem tb_e210 : ab_all1 (ab_eOK tb lw_tw tb_m210) tb_t210 0 = true := by decide +kernel
set_option maxRecDepth 100000 in
theorem tb_e211 : ab_all1 (ab_eOK tb lw_tw tb_m211) tb_t211 0 = true := by decide +kernel
set_option maxRecDepth 100000 in
theorem tb_e212 : ab_all1 (ab_eOK tb lw_tw tb_m212) tb_t212 0 = true := by decide +kernel
set_option maxRecDepth 100000 in
theorem tb_e213 : ab_all1 (ab_eOK tb lw_tw tb_m213) tb_t213 0 = true := by decide +kernel
set_option maxRecDepth 100000 in
theorem tb_e214 : ab_all1 (ab_eOK tb lw_tw tb_m214) tb_t214 0 = true := by decide +kernel
set_option maxRecDepth 100000 in
theorem tb_e215 : ab_all1 (ab_eOK tb lw_tw tb_m215) tb_t215 0 = true := by decide +kernel
set_option maxRecDepth 100000 in
theorem tb_e216 : ab_all1 (ab_eOK tb lw_tw tb_m216) tb_t216 0 = true := by decide +kernel
set_option maxRecDepth 100000 in
theorem tb_e217 : ab_all1 (ab_eOK tb lw_tw tb_m217) tb_t217 0 = true := by decide +kernel
set_option maxRecDepth 100000 in
theorem tb_e218 : ab_all1 (ab_eOK tb lw_tw tb_m218) tb_t218 0 = true := by decide +kernel
set_option maxRecDepth 100000 in
theorem tb_e219 : ab_all1 (ab_eOK tb lw_tw tb_m219) tb_t219 0 = true := by decide +kernel
set_option maxRecDepth 100000 in
theorem tb_e220 : ab_all1 (ab_eOK tb lw_tw tb_m220) tb_t220 0 = true := by decide +kernel
set_option maxRecDepth 100000 in
theorem tb_e221 : ab_all1 (ab_eOK tb lw_tw tb_m221) tb_t221 0 = true := by decide +kernel
set_option maxRecDepth 100000 in
theorem tb_e222 : ab_all1 (ab_eOK tb lw_tw tb_m222) tb_t222 0 = true := by decide +kernel
set_option maxRecDepth 100000 in
theorem tb_e223 : ab_all1 (ab_eOK tb lw_tw tb_m223) tb_t223 0 = true := by decide +kernel
set_option maxRecDepth 100000 in
theorem tb_e224 : ab_all1 (ab_eOK tb lw_tw tb_m224) tb_t224 0 = true := by decide +kernel
set_option maxRecDepth 100000 in
theorem tb_e225 : ab_all1 (ab_eOK tb lw_tw tb_m225) tb_t225 0 = true := by decide +kernel
set_option maxRecDepth 100000 in
theorem tb_e226 : ab_all1 (ab_eOK tb lw_tw tb_m226) tb_t226 0 = true := by decide +kernel
set_option maxRecDepth 100000 in
theorem tb_e227 : ab_all1 (ab_eOK tb lw_tw tb_m227) tb_t227 0 = true := by decide +kernel
set_option maxRecDepth 100000 in
theorem tb_e228 : ab_all1 (ab_eOK tb lw_tw tb_m228) tb_t228 0 = true := by decide +kernel
set_option maxRecDepth 100000 in
theorem tb_e229 : ab_all1 (ab_eOK tb lw_tw tb_m229) tb_t229 0 = true := by decide +kernel
set_option maxRecDepth 100000 in
theorem tb_e230 : ab_all1 (ab_eOK tb lw_tw tb_m230) tb_t230 0 = true := by decide +kernel
set_option maxRecDepth 100000 in
theorem tb_e231 : ab_all1 (ab_eOK tb lw_tw tb_m231) tb_t231 0 = true := by decide +kernel
set_option maxRecDepth 100000 in
theorem tb_e232 : ab_all1 (ab_eOK tb lw_tw tb_m232) tb_t232 0 = true := by decide +kernel
set_option maxRecDepth 100000 in
theorem tb_e233 : ab_all1 (ab_eOK tb lw_tw tb_m233) tb_t233 0 = true := by decide +kernel
set_option maxRecDepth 100000 in
theorem tb_e234 : ab_all1 (ab_eOK tb lw_tw tb_m234) tb_t234 0 = true := by decide +kernel
end
