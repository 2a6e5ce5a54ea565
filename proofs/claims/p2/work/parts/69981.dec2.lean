/-! EVERY INSTRUCTION DECODES as the tables say, by the kernel (wip/gen/valid.py) -/
set_option maxRecDepth 100000 in
theorem tb_e160 : ab_all1 (ab_eOK tb lw_tw tb_m160) tb_t160 0 = true := by decide +kernel
set_option maxRecDepth 100000 in
theorem tb_e161 : ab_all1 (ab_eOK tb lw_tw tb_m161) tb_t161 0 = true := by decide +kernel
set_option maxRecDepth 100000 in
theorem tb_e162 : ab_all1 (ab_eOK tb lw_tw tb_m162) tb_t162 0 = true := by decide +kernel
set_option maxRecDepth 100000 in
theorem tb_e163 : ab_all1 (ab_eOK tb lw_tw tb_m163) tb_t163 0 = true := by decide +kernel
set_option maxRecDepth 100000 in
theorem tb_e164 : ab_all1 (ab_eOK tb lw_tw tb_m164) tb_t164 0 = true := by decide +kernel
set_option maxRecDepth 100000 in
theorem tb_e165 : ab_all1 (ab_eOK tb lw_tw tb_m165) tb_t165 0 = true := by decide +kernel
set_option maxRecDepth 100000 in
theorem tb_e166 : ab_all1 (ab_eOK tb lw_tw tb_m166) tb_t166 0 = true := by decide +kernel
set_option maxRecDepth 100000 in
theorem tb_e167 : ab_all1 (ab_eOK tb lw_tw tb_m167) tb_t167 0 = true := by decide +kernel
set_option maxRecDepth 100000 in
theorem tb_e168 : ab_all1 (ab_eOK tb lw_tw tb_m168) tb_t168 0 = true := by decide +kernel
set_option maxRecDepth 100000 in
theorem tb_e169 : ab_all1 (ab_eOK tb lw_tw tb_m169) tb_t169 0 = true := by decide +kernel
set_option maxRecDepth 100000 in
theorem tb_e170 : ab_all1 (ab_eOK tb lw_tw tb_m170) tb_t170 0 = true := by decide +kernel
set_option maxRecDepth 100000 in
theorem tb_e171 : ab_all1 (ab_eOK tb lw_tw tb_m171) tb_t171 0 = true := by decide +kernel
set_option maxRecDepth 100000 in
theorem tb_e172 : ab_all1 (ab_eOK tb lw_tw tb_m172) tb_t172 0 = true := by decide +kernel
set_option maxRecDepth 100000 in
theorem tb_e173 : ab_all1 (ab_eOK tb lw_tw tb_m173) tb_t173 0 = true := by decide +kernel
set_option maxRecDepth 100000 in
theorem tb_e174 : ab_all1 (ab_eOK tb lw_tw tb_m174) tb_t174 0 = true := by decide +kernel
set_option maxRecDepth 100000 in
theorem tb_e175 : ab_all1 (ab_eOK tb lw_tw tb_m175) tb_t175 0 = true := by decide +kernel
set_option maxRecDepth 100000 in
theorem tb_e176 : ab_all1 (ab_eOK tb lw_tw tb_m176) tb_t176 0 = true := by decide +kernel
set_option maxRecDepth 100000 in
theorem tb_e177 : ab_all1 (ab_eOK tb lw_tw tb_m177) tb_t177 0 = true := by decide +kernel
set_option maxRecDepth 100000 in
theorem tb_e178 : ab_all1 (ab_eOK tb lw_tw tb_m178) tb_t178 0 = true := by decide +kernel
set_option maxRecDepth 100000 in
theorem tb_e179 : ab_all1 (ab_eOK tb lw_tw tb_m179) tb_t179 0 = true := by decide +kernel
set_option maxRecDepth 100000 in
theorem tb_e180 : ab_all1 (ab_eOK tb lw_tw tb_m180) tb_t180 0 = true := by decide +kernel
set_option maxRecDepth 100000 in
theorem tb_e181 : ab_all1 (ab_eOK tb lw_tw tb_m181) tb_t181 0 = true := by decide +kernel
set_option maxRecDepth 100000 in
theorem tb_e182 : ab_all1 (ab_eOK tb lw_tw tb_m182) tb_t182 0 = true := by decide +kernel
set_option maxRecDepth 100000 in
theorem tb_e183 : ab_all1 (ab_eOK tb lw_tw tb_m183) tb_t183 0 = true := by decide +kernel
set_option maxRecDepth 100000 in
theorem tb_e184 : ab_all1 (ab_eOK tb lw_tw tb_m184) tb_t184 0 = true := by decide +kernel
set_option maxRecDepth 100000 in
theorem tb_e185 : ab_all1 (ab_eOK tb lw_tw tb_m185) tb_t185 0 = true := by decide +kernel
set_option maxRecDepth 100000 in
theorem tb_e186 : ab_all1 (ab_eOK tb lw_tw tb_m186) tb_t186 0 = true := by decide +kernel
set_option maxRecDepth 100000 in
theorem tb_e187 : ab_all1 (ab_eOK tb lw_tw tb_m187) tb_t187 0 = true := by decide +kernel
set_option maxRecDepth 100000 in
theorem tb_e188 : ab_all1 (ab_eOK tb lw_tw tb_m188) tb_t188 0 = true := by decide +kernel
set_option maxRecDepth 100000 in
theorem tb_e189 : ab_all1 (ab_eOK tb lw_tw tb_m189) tb_t189 0 = true := by decide +kernel
set_option maxRecDepth 100000 in
theorem tb_e190 : ab_all1 (ab_eOK tb lw_tw tb_m190) tb_t190 0 = true := by decide +kernel
set_option maxRecDepth 100000 in
theorem tb_e191 : ab_all1 (ab_eOK tb lw_tw tb_m191) tb_t191 0 = true := by decide +kernel
set_option maxRecDepth 100000 in
theorem tb_e192 : ab_all1 (ab_eOK tb lw_tw tb_m192) tb_t192 0 = true := by decide +kernel
set_option maxRecDepth 100000 in
theorem tb_e193 : ab_all1 (ab_eOK tb lw_tw tb_m193) tb_t193 0 = true := by decide +kernel
set_option maxRecDepth 100000 in
theorem tb_e194 : ab_all1 (ab_eOK tb lw_tw tb_m194) tb_t194 0 = true := by decide +kernel
set_option maxRecDepth 100000 in
theorem tb_e195 : ab_all1 (ab_eOK tb lw_tw tb_m195) tb_t195 0 = true := by decide +kernel
set_option maxRecDepth 100000 in
theorem tb_e196 : ab_all1 (ab_eOK tb lw_tw tb_m196) tb_t196 0 = true := by decide +kernel
set_option maxRecDepth 100000 in
theorem tb_e197 : ab_all1 (ab_eOK tb lw_tw tb_m197) tb_t197 0 = true := by decide +kernel
set_option maxRecDepth 100000 in
theorem tb_e198 : ab_all1 (ab_eOK tb lw_tw tb_m198) tb_t198 0 = true := by decide +kernel
set_option maxRecDepth 100000 in
theorem tb_e199 : ab_all1 (ab_eOK tb lw_tw tb_m199) tb_t199 0 = true := by decide +kernel
set_option maxRecDepth 100000 in
theorem tb_e200 : ab_all1 (ab_eOK tb lw_tw tb_m200) tb_t200 0 = true := by decide +kernel
set_option maxRecDepth 100000 in
theorem tb_e201 : ab_all1 (ab_eOK tb lw_tw tb_m201) tb_t201 0 = true := by decide +kernel
set_option maxRecDepth 100000 in
theorem tb_e202 : ab_all1 (ab_eOK tb lw_tw tb_m202) tb_t202 0 = true := by decide +kernel
set_option maxRecDepth 100000 in
theorem tb_e203 : ab_all1 (ab_eOK tb lw_tw tb_m203) tb_t203 0 = true := by decide +kernel
set_option maxRecDepth 100000 in
theorem tb_e204 : ab_all1 (ab_eOK tb lw_tw tb_m204) tb_t204 0 = true := by decide +kernel
set_option maxRecDepth 100000 in
theorem tb_e205 : ab_all1 (ab_eOK tb lw_tw tb_m205) tb_t205 0 = true := by decide +kernel
set_option maxRecDepth 100000 in
theorem tb_e206 : ab_all1 (ab_eOK tb lw_tw tb_m206) tb_t206 0 = true := by decide +kernel
set_option maxRecDepth 100000 in
theorem tb_e207 : ab_all1 (ab_eOK tb lw_tw tb_m207) tb_t207 0 = true := by decide +kernel
set_option maxRecDepth 100000 in
theorem tb_e208 : ab_all1 (ab_eOK tb lw_tw tb_m208) tb_t208 0 = true := by decide +kernel
set_option maxRecDepth 100000 in
theorem tb_e209 : ab_all1 (ab_eOK tb lw_tw tb_m209) tb_t209 0 = true := by decide +kernel
set_option maxRecDepth 100000 in
theorem tb_e210 : ab_all1 (ab_eOK tb lw_tw tb_m210) tb_t210 0 = true := by decide +kernel
set_option maxRecDepth 100000 in
theorem tb_e211 : ab_all1 (ab_eOK tb lw_tw tb_m211) tb_t211 0 = true := by decide +kernel
set_option maxRecDepth 100000 in
theorem tb_e212 : ab_all1 (ab_eOK tb lw_tw tb_m212) tb_t212 0 = true := by decide +kernel
set_option maxRecDepth 100000 in
theorem tb_e213 : ab_all1 (ab_eOK tb lw_tw tb_m213) tb_t213 0 = true := by decide +kernel
set_option maxRecDepth 100000 in
theorem tb_e214 : ab_all1 (ab_eOK tb lw_tw tb_m214) tb_t214 0 = true := by decide +kernel
set_option maxRecDepth 100000 in
theorem tb_e215 : ab_all1 (ab_eOK tb lw_tw tb_m215) tb_t215 0 = true := by decide +kernel
set_option maxRecDepth 100000 in
theorem tb_e216 : ab_all1 (ab_eOK tb lw_tw tb_m216) tb_t216 0 = true := by decide +kernel
set_option maxRecDepth 100000 in
theorem tb_e217 : ab_all1 (ab_eOK tb lw_tw tb_m217) tb_t217 0 = true := by decide +kernel
set_option maxRecDepth 100000 in
theorem tb_e218 : ab_all1 (ab_eOK tb lw_tw tb_m218) tb_t218 0 = true := by decide +kernel
set_option maxRecDepth 100000 in
theorem tb_e219 : ab_all1 (ab_eOK tb lw_tw tb_m219) tb_t219 0 = true := by decide +kernel
set_option maxRecDepth 100000 in
theorem tb_e220 : ab_all1 (ab_eOK tb lw_tw tb_m220) tb_t220 0 = true := by decide +kernel
set_option maxRecDepth 100000 in
theorem tb_e221 : ab_all1 (ab_eOK tb lw_tw tb_m221) tb_t221 0 = true := by decide +kernel
set_option maxRecDepth 100000 in
theorem tb_e222 : ab_all1 (ab_eOK tb lw_tw tb_m222) tb_t222 0 = true := by decide +kernel
set_option maxRecDepth 100000 in
theorem tb_e223 : ab_all1 (ab_eOK tb lw_tw tb_m223) tb_t223 0 = true := by decide +kernel
set_option maxRecDepth 100000 in
theorem tb_e224 : ab_all1 (ab_eOK tb lw_tw tb_m224) tb_t224 0 = true := by decide +kernel
set_option maxRecDepth 100000 in
theorem tb_e225 : ab_all1 (ab_eOK tb lw_tw tb_m225) tb_t225 0 = true := by decide +kernel
set_option maxRecDepth 100000 in
theorem tb_e226 : ab_all1 (ab_eOK tb lw_tw tb_m226) tb_t226 0 = true := by decide +kernel
set_option maxRecDepth 100000 in
theorem tb_e227 : ab_all1 (ab_eOK tb lw_tw tb_m227) tb_t227 0 = true := by decide +kernel
set_option maxRecDepth 100000 in
theorem tb_e228 : ab_all1 (ab_eOK tb lw_tw tb_m228) tb_t228 0 = true := by decide +kernel
set_option maxRecDepth 100000 in
theorem tb_e229 : ab_all1 (ab_eOK tb lw_tw tb_m229) tb_t229 0 = true := by decide +kernel
set_option maxRecDepth 100000 in
theorem tb_e230 : ab_all1 (ab_eOK tb lw_tw tb_m230) tb_t230 0 = true := by decide +kernel
set_option maxRecDepth 100000 in
theorem tb_e231 : ab_all1 (ab_eOK tb lw_tw tb_m231) tb_t231 0 = true := by decide +kernel
set_option maxRecDepth 100000 in
theorem tb_e232 : ab_all1 (ab_eOK tb lw_tw tb_m232) tb_t232 0 = true := by decide +kernel
set_option maxRecDepth 100000 in
theorem tb_e233 : ab_all1 (ab_eOK tb lw_tw tb_m233) tb_t233 0 = true := by decide +kernel
set_option maxRecDepth 100000 in
theorem tb_e234 : ab_all1 (ab_eOK tb lw_tw tb_m234) tb_t234 0 = true := by decide +kernel
