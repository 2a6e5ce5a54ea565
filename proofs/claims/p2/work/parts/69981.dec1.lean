/-! EVERY INSTRUCTION DECODES as the tables say, by the kernel (wip/gen/valid.py) -/
set_option maxRecDepth 100000 in
theorem tb_e80 : ab_all1 (ab_eOK tb lw_tw tb_m80) tb_t80 0 = true := by decide +kernel
set_option maxRecDepth 100000 in
theorem tb_e81 : ab_all1 (ab_eOK tb lw_tw tb_m81) tb_t81 0 = true := by decide +kernel
set_option maxRecDepth 100000 in
theorem tb_e82 : ab_all1 (ab_eOK tb lw_tw tb_m82) tb_t82 0 = true := by decide +kernel
set_option maxRecDepth 100000 in
theorem tb_e83 : ab_all1 (ab_eOK tb lw_tw tb_m83) tb_t83 0 = true := by decide +kernel
set_option maxRecDepth 100000 in
theorem tb_e84 : ab_all1 (ab_eOK tb lw_tw tb_m84) tb_t84 0 = true := by decide +kernel
set_option maxRecDepth 100000 in
theorem tb_e85 : ab_all1 (ab_eOK tb lw_tw tb_m85) tb_t85 0 = true := by decide +kernel
set_option maxRecDepth 100000 in
theorem tb_e86 : ab_all1 (ab_eOK tb lw_tw tb_m86) tb_t86 0 = true := by decide +kernel
set_option maxRecDepth 100000 in
theorem tb_e87 : ab_all1 (ab_eOK tb lw_tw tb_m87) tb_t87 0 = true := by decide +kernel
set_option maxRecDepth 100000 in
theorem tb_e88 : ab_all1 (ab_eOK tb lw_tw tb_m88) tb_t88 0 = true := by decide +kernel
set_option maxRecDepth 100000 in
theorem tb_e89 : ab_all1 (ab_eOK tb lw_tw tb_m89) tb_t89 0 = true := by decide +kernel
set_option maxRecDepth 100000 in
theorem tb_e90 : ab_all1 (ab_eOK tb lw_tw tb_m90) tb_t90 0 = true := by decide +kernel
set_option maxRecDepth 100000 in
theorem tb_e91 : ab_all1 (ab_eOK tb lw_tw tb_m91) tb_t91 0 = true := by decide +kernel
set_option maxRecDepth 100000 in
theorem tb_e92 : ab_all1 (ab_eOK tb lw_tw tb_m92) tb_t92 0 = true := by decide +kernel
set_option maxRecDepth 100000 in
theorem tb_e93 : ab_all1 (ab_eOK tb lw_tw tb_m93) tb_t93 0 = true := by decide +kernel
set_option maxRecDepth 100000 in
theorem tb_e94 : ab_all1 (ab_eOK tb lw_tw tb_m94) tb_t94 0 = true := by decide +kernel
set_option maxRecDepth 100000 in
theorem tb_e95 : ab_all1 (ab_eOK tb lw_tw tb_m95) tb_t95 0 = true := by decide +kernel
set_option maxRecDepth 100000 in
theorem tb_e96 : ab_all1 (ab_eOK tb lw_tw tb_m96) tb_t96 0 = true := by decide +kernel
set_option maxRecDepth 100000 in
theorem tb_e97 : ab_all1 (ab_eOK tb lw_tw tb_m97) tb_t97 0 = true := by decide +kernel
set_option maxRecDepth 100000 in
theorem tb_e98 : ab_all1 (ab_eOK tb lw_tw tb_m98) tb_t98 0 = true := by decide +kernel
set_option maxRecDepth 100000 in
theorem tb_e99 : ab_all1 (ab_eOK tb lw_tw tb_m99) tb_t99 0 = true := by decide +kernel
set_option maxRecDepth 100000 in
theorem tb_e100 : ab_all1 (ab_eOK tb lw_tw tb_m100) tb_t100 0 = true := by decide +kernel
set_option maxRecDepth 100000 in
theorem tb_e101 : ab_all1 (ab_eOK tb lw_tw tb_m101) tb_t101 0 = true := by decide +kernel
set_option maxRecDepth 100000 in
theorem tb_e102 : ab_all1 (ab_eOK tb lw_tw tb_m102) tb_t102 0 = true := by decide +kernel
set_option maxRecDepth 100000 in
theorem tb_e103 : ab_all1 (ab_eOK tb lw_tw tb_m103) tb_t103 0 = true := by decide +kernel
set_option maxRecDepth 100000 in
theorem tb_e104 : ab_all1 (ab_eOK tb lw_tw tb_m104) tb_t104 0 = true := by decide +kernel
set_option maxRecDepth 100000 in
theorem tb_e105 : ab_all1 (ab_eOK tb lw_tw tb_m105) tb_t105 0 = true := by decide +kernel
set_option maxRecDepth 100000 in
theorem tb_e106 : ab_all1 (ab_eOK tb lw_tw tb_m106) tb_t106 0 = true := by decide +kernel
set_option maxRecDepth 100000 in
theorem tb_e107 : ab_all1 (ab_eOK tb lw_tw tb_m107) tb_t107 0 = true := by decide +kernel
set_option maxRecDepth 100000 in
theorem tb_e108 : ab_all1 (ab_eOK tb lw_tw tb_m108) tb_t108 0 = true := by decide +kernel
set_option maxRecDepth 100000 in
theorem tb_e109 : ab_all1 (ab_eOK tb lw_tw tb_m109) tb_t109 0 = true := by decide +kernel
set_option maxRecDepth 100000 in
theorem tb_e110 : ab_all1 (ab_eOK tb lw_tw tb_m110) tb_t110 0 = true := by decide +kernel
set_option maxRecDepth 100000 in
theorem tb_e111 : ab_all1 (ab_eOK tb lw_tw tb_m111) tb_t111 0 = true := by decide +kernel
set_option maxRecDepth 100000 in
theorem tb_e112 : ab_all1 (ab_eOK tb lw_tw tb_m112) tb_t112 0 = true := by decide +kernel
set_option maxRecDepth 100000 in
theorem tb_e113 : ab_all1 (ab_eOK tb lw_tw tb_m113) tb_t113 0 = true := by decide +kernel
set_option maxRecDepth 100000 in
theorem tb_e114 : ab_all1 (ab_eOK tb lw_tw tb_m114) tb_t114 0 = true := by decide +kernel
set_option maxRecDepth 100000 in
theorem tb_e115 : ab_all1 (ab_eOK tb lw_tw tb_m115) tb_t115 0 = true := by decide +kernel
set_option maxRecDepth 100000 in
theorem tb_e116 : ab_all1 (ab_eOK tb lw_tw tb_m116) tb_t116 0 = true := by decide +kernel
set_option maxRecDepth 100000 in
theorem tb_e117 : ab_all1 (ab_eOK tb lw_tw tb_m117) tb_t117 0 = true := by decide +kernel
set_option maxRecDepth 100000 in
theorem tb_e118 : ab_all1 (ab_eOK tb lw_tw tb_m118) tb_t118 0 = true := by decide +kernel
set_option maxRecDepth 100000 in
theorem tb_e119 : ab_all1 (ab_eOK tb lw_tw tb_m119) tb_t119 0 = true := by decide +kernel
set_option maxRecDepth 100000 in
theorem tb_e120 : ab_all1 (ab_eOK tb lw_tw tb_m120) tb_t120 0 = true := by decide +kernel
set_option maxRecDepth 100000 in
theorem tb_e121 : ab_all1 (ab_eOK tb lw_tw tb_m121) tb_t121 0 = true := by decide +kernel
set_option maxRecDepth 100000 in
theorem tb_e122 : ab_all1 (ab_eOK tb lw_tw tb_m122) tb_t122 0 = true := by decide +kernel
set_option maxRecDepth 100000 in
theorem tb_e123 : ab_all1 (ab_eOK tb lw_tw tb_m123) tb_t123 0 = true := by decide +kernel
set_option maxRecDepth 100000 in
theorem tb_e124 : ab_all1 (ab_eOK tb lw_tw tb_m124) tb_t124 0 = true := by decide +kernel
set_option maxRecDepth 100000 in
theorem tb_e125 : ab_all1 (ab_eOK tb lw_tw tb_m125) tb_t125 0 = true := by decide +kernel
set_option maxRecDepth 100000 in
theorem tb_e126 : ab_all1 (ab_eOK tb lw_tw tb_m126) tb_t126 0 = true := by decide +kernel
set_option maxRecDepth 100000 in
theorem tb_e127 : ab_all1 (ab_eOK tb lw_tw tb_m127) tb_t127 0 = true := by decide +kernel
set_option maxRecDepth 100000 in
theorem tb_e128 : ab_all1 (ab_eOK tb lw_tw tb_m128) tb_t128 0 = true := by decide +kernel
set_option maxRecDepth 100000 in
theorem tb_e129 : ab_all1 (ab_eOK tb lw_tw tb_m129) tb_t129 0 = true := by decide +kernel
set_option maxRecDepth 100000 in
theorem tb_e130 : ab_all1 (ab_eOK tb lw_tw tb_m130) tb_t130 0 = true := by decide +kernel
set_option maxRecDepth 100000 in
theorem tb_e131 : ab_all1 (ab_eOK tb lw_tw tb_m131) tb_t131 0 = true := by decide +kernel
set_option maxRecDepth 100000 in
theorem tb_e132 : ab_all1 (ab_eOK tb lw_tw tb_m132) tb_t132 0 = true := by decide +kernel
set_option maxRecDepth 100000 in
theorem tb_e133 : ab_all1 (ab_eOK tb lw_tw tb_m133) tb_t133 0 = true := by decide +kernel
set_option maxRecDepth 100000 in
theorem tb_e134 : ab_all1 (ab_eOK tb lw_tw tb_m134) tb_t134 0 = true := by decide +kernel
set_option maxRecDepth 100000 in
theorem tb_e135 : ab_all1 (ab_eOK tb lw_tw tb_m135) tb_t135 0 = true := by decide +kernel
set_option maxRecDepth 100000 in
theorem tb_e136 : ab_all1 (ab_eOK tb lw_tw tb_m136) tb_t136 0 = true := by decide +kernel
set_option maxRecDepth 100000 in
theorem tb_e137 : ab_all1 (ab_eOK tb lw_tw tb_m137) tb_t137 0 = true := by decide +kernel
set_option maxRecDepth 100000 in
theorem tb_e138 : ab_all1 (ab_eOK tb lw_tw tb_m138) tb_t138 0 = true := by decide +kernel
set_option maxRecDepth 100000 in
theorem tb_e139 : ab_all1 (ab_eOK tb lw_tw tb_m139) tb_t139 0 = true := by decide +kernel
set_option maxRecDepth 100000 in
theorem tb_e140 : ab_all1 (ab_eOK tb lw_tw tb_m140) tb_t140 0 = true := by decide +kernel
set_option maxRecDepth 100000 in
theorem tb_e141 : ab_all1 (ab_eOK tb lw_tw tb_m141) tb_t141 0 = true := by decide +kernel
set_option maxRecDepth 100000 in
theorem tb_e142 : ab_all1 (ab_eOK tb lw_tw tb_m142) tb_t142 0 = true := by decide +kernel
set_option maxRecDepth 100000 in
theorem tb_e143 : ab_all1 (ab_eOK tb lw_tw tb_m143) tb_t143 0 = true := by decide +kernel
set_option maxRecDepth 100000 in
theorem tb_e144 : ab_all1 (ab_eOK tb lw_tw tb_m144) tb_t144 0 = true := by decide +kernel
set_option maxRecDepth 100000 in
theorem tb_e145 : ab_all1 (ab_eOK tb lw_tw tb_m145) tb_t145 0 = true := by decide +kernel
set_option maxRecDepth 100000 in
theorem tb_e146 : ab_all1 (ab_eOK tb lw_tw tb_m146) tb_t146 0 = true := by decide +kernel
set_option maxRecDepth 100000 in
theorem tb_e147 : ab_all1 (ab_eOK tb lw_tw tb_m147) tb_t147 0 = true := by decide +kernel
set_option maxRecDepth 100000 in
theorem tb_e148 : ab_all1 (ab_eOK tb lw_tw tb_m148) tb_t148 0 = true := by decide +kernel
set_option maxRecDepth 100000 in
theorem tb_e149 : ab_all1 (ab_eOK tb lw_tw tb_m149) tb_t149 0 = true := by decide +kernel
set_option maxRecDepth 100000 in
theorem tb_e150 : ab_all1 (ab_eOK tb lw_tw tb_m150) tb_t150 0 = true := by decide +kernel
set_option maxRecDepth 100000 in
theorem tb_e151 : ab_all1 (ab_eOK tb lw_tw tb_m151) tb_t151 0 = true := by decide +kernel
set_option maxRecDepth 100000 in
theorem tb_e152 : ab_all1 (ab_eOK tb lw_tw tb_m152) tb_t152 0 = true := by decide +kernel
set_option maxRecDepth 100000 in
theorem tb_e153 : ab_all1 (ab_eOK tb lw_tw tb_m153) tb_t153 0 = true := by decide +kernel
set_option maxRecDepth 100000 in
theorem tb_e154 : ab_all1 (ab_eOK tb lw_tw tb_m154) tb_t154 0 = true := by decide +kernel
set_option maxRecDepth 100000 in
theorem tb_e155 : ab_all1 (ab_eOK tb lw_tw tb_m155) tb_t155 0 = true := by decide +kernel
set_option maxRecDepth 100000 in
theorem tb_e156 : ab_all1 (ab_eOK tb lw_tw tb_m156) tb_t156 0 = true := by decide +kernel
set_option maxRecDepth 100000 in
theorem tb_e157 : ab_all1 (ab_eOK tb lw_tw tb_m157) tb_t157 0 = true := by decide +kernel
set_option maxRecDepth 100000 in
theorem tb_e158 : ab_all1 (ab_eOK tb lw_tw tb_m158) tb_t158 0 = true := by decide +kernel
set_option maxRecDepth 100000 in
theorem tb_e159 : ab_all1 (ab_eOK tb lw_tw tb_m159) tb_t159 0 = true := by decide +kernel
