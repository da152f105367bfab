/-! the rows of the linked code, 3 of 4 -/
set_option maxRecDepth 100000 in
theorem ax_e143 : ax_All (fun pc e => ax_okb ax_q143 pc e = true) ax_t143 := ax_All.of (by decide +kernel)
set_option maxRecDepth 100000 in
theorem ax_e144 : ax_All (fun pc e => ax_okb ax_q144 pc e = true) ax_t144 := ax_All.of (by decide +kernel)
set_option maxRecDepth 100000 in
theorem ax_e145 : ax_All (fun pc e => ax_okb ax_q145 pc e = true) ax_t145 := ax_All.of (by decide +kernel)
set_option maxRecDepth 100000 in
theorem ax_e146 : ax_All (fun pc e => ax_okb ax_q146 pc e = true) ax_t146 := ax_All.of (by decide +kernel)
set_option maxRecDepth 100000 in
theorem ax_e147 : ax_All (fun pc e => ax_okb ax_q147 pc e = true) ax_t147 := ax_All.of (by decide +kernel)
set_option maxRecDepth 100000 in
theorem ax_e148 : ax_All (fun pc e => ax_okb ax_q148 pc e = true) ax_t148 := ax_All.of (by decide +kernel)
set_option maxRecDepth 100000 in
theorem ax_e149 : ax_All (fun pc e => ax_okb ax_q149 pc e = true) ax_t149 := ax_All.of (by decide +kernel)
set_option maxRecDepth 100000 in
theorem ax_e150 : ax_All (fun pc e => ax_okb ax_q150 pc e = true) ax_t150 := ax_All.of (by decide +kernel)
set_option maxRecDepth 100000 in
theorem ax_e151 : ax_All (fun pc e => ax_okb ax_q151 pc e = true) ax_t151 := ax_All.of (by decide +kernel)
set_option maxRecDepth 100000 in
theorem ax_e152 : ax_All (fun pc e => ax_okb ax_q152 pc e = true) ax_t152 := ax_All.of (by decide +kernel)
set_option maxRecDepth 100000 in
theorem ax_e153 : ax_All (fun pc e => ax_okb ax_q153 pc e = true) ax_t153 := ax_All.of (by decide +kernel)
set_option maxRecDepth 100000 in
theorem ax_e154 : ax_All (fun pc e => ax_okb ax_q154 pc e = true) ax_t154 := ax_All.of (by decide +kernel)
set_option maxRecDepth 100000 in
theorem ax_e155 : ax_All (fun pc e => ax_okb ax_q155 pc e = true) ax_t155 := ax_All.of (by decide +kernel)
set_option maxRecDepth 100000 in
theorem ax_e156 : ax_All (fun pc e => ax_okb ax_q156 pc e = true) ax_t156 := ax_All.of (by decide +kernel)
set_option maxRecDepth 100000 in
theorem ax_e157 : ax_All (fun pc e => ax_okb ax_q157 pc e = true) ax_t157 := ax_All.of (by decide +kernel)
set_option maxRecDepth 100000 in
theorem ax_e158 : ax_All (fun pc e => ax_okb ax_q158 pc e = true) ax_t158 := ax_All.of (by decide +kernel)
set_option maxRecDepth 100000 in
theorem ax_e159 : ax_All (fun pc e => ax_okb ax_q159 pc e = true) ax_t159 := ax_All.of (by decide +kernel)
set_option maxRecDepth 100000 in
theorem ax_e160 : ax_All (fun pc e => ax_okb ax_q160 pc e = true) ax_t160 := ax_All.of (by decide +kernel)
set_option maxRecDepth 100000 in
theorem ax_e161 : ax_All (fun pc e => ax_okb ax_q161 pc e = true) ax_t161 := ax_All.of (by decide +kernel)
set_option maxRecDepth 100000 in
theorem ax_e162 : ax_All (fun pc e => ax_okb ax_q162 pc e = true) ax_t162 := ax_All.of (by decide +kernel)
set_option maxRecDepth 100000 in
theorem ax_e163 : ax_All (fun pc e => ax_okb ax_q163 pc e = true) ax_t163 := ax_All.of (by decide +kernel)
set_option maxRecDepth 100000 in
theorem ax_e164 : ax_All (fun pc e => ax_okb ax_q164 pc e = true) ax_t164 := ax_All.of (by decide +kernel)
set_option maxRecDepth 100000 in
theorem ax_e165 : ax_All (fun pc e => ax_okb ax_q165 pc e = true) ax_t165 := ax_All.of (by decide +kernel)
set_option maxRecDepth 100000 in
theorem ax_e166 : ax_All (fun pc e => ax_okb ax_q166 pc e = true) ax_t166 := ax_All.of (by decide +kernel)
set_option maxRecDepth 100000 in
theorem ax_e167 : ax_All (fun pc e => ax_okb ax_q167 pc e = true) ax_t167 := ax_All.of (by decide +kernel)
set_option maxRecDepth 100000 in
theorem ax_e168 : ax_All (fun pc e => ax_okb ax_q168 pc e = true) ax_t168 := ax_All.of (by decide +kernel)
set_option maxRecDepth 100000 in
theorem ax_e169 : ax_All (fun pc e => ax_okb ax_q169 pc e = true) ax_t169 := ax_All.of (by decide +kernel)
set_option maxRecDepth 100000 in
theorem ax_e170 : ax_All (fun pc e => ax_okb ax_q170 pc e = true) ax_t170 := ax_All.of (by decide +kernel)
set_option maxRecDepth 100000 in
theorem ax_e171 : ax_All (fun pc e => ax_okb ax_q171 pc e = true) ax_t171 := ax_All.of (by decide +kernel)
set_option maxRecDepth 100000 in
theorem ax_e172 : ax_All (fun pc e => ax_okb ax_q172 pc e = true) ax_t172 := ax_All.of (by decide +kernel)
set_option maxRecDepth 100000 in
theorem ax_e173 : ax_All (fun pc e => ax_okb ax_q173 pc e = true) ax_t173 := ax_All.of (by decide +kernel)
set_option maxRecDepth 100000 in
theorem ax_e174 : ax_All (fun pc e => ax_okb ax_q174 pc e = true) ax_t174 := ax_All.of (by decide +kernel)
set_option maxRecDepth 100000 in
theorem ax_e175 : ax_All (fun pc e => ax_okb ax_q175 pc e = true) ax_t175 := ax_All.of (by decide +kernel)
set_option maxRecDepth 100000 in
theorem ax_e176 : ax_All (fun pc e => ax_okb ax_q176 pc e = true) ax_t176 := ax_All.of (by decide +kernel)
set_option maxRecDepth 100000 in
theorem ax_e177 : ax_All (fun pc e => ax_okb ax_q177 pc e = true) ax_t177 := ax_All.of (by decide +kernel)
set_option maxRecDepth 100000 in
theorem ax_e178 : ax_All (fun pc e => ax_okb ax_q178 pc e = true) ax_t178 := ax_All.of (by decide +kernel)
set_option maxRecDepth 100000 in
theorem ax_e179 : ax_All (fun pc e => ax_okb ax_q179 pc e = true) ax_t179 := ax_All.of (by decide +kernel)
set_option maxRecDepth 100000 in
theorem ax_e180 : ax_All (fun pc e => ax_okb ax_q180 pc e = true) ax_t180 := ax_All.of (by decide +kernel)
set_option maxRecDepth 100000 in
theorem ax_e181 : ax_All (fun pc e => ax_okb ax_q181 pc e = true) ax_t181 := ax_All.of (by decide +kernel)
set_option maxRecDepth 100000 in
theorem ax_e182 : ax_All (fun pc e => ax_okb ax_q182 pc e = true) ax_t182 := ax_All.of (by decide +kernel)
set_option maxRecDepth 100000 in
theorem ax_e183 : ax_All (fun pc e => ax_okb ax_q183 pc e = true) ax_t183 := ax_All.of (by decide +kernel)
set_option maxRecDepth 100000 in
theorem ax_e184 : ax_All (fun pc e => ax_okb ax_q184 pc e = true) ax_t184 := ax_All.of (by decide +kernel)
set_option maxRecDepth 100000 in
theorem ax_e185 : ax_All (fun pc e => ax_okb ax_q185 pc e = true) ax_t185 := ax_All.of (by decide +kernel)
set_option maxRecDepth 100000 in
theorem ax_e186 : ax_All (fun pc e => ax_okb ax_q186 pc e = true) ax_t186 := ax_All.of (by decide +kernel)
set_option maxRecDepth 100000 in
theorem ax_e187 : ax_All (fun pc e => ax_okb ax_q187 pc e = true) ax_t187 := ax_All.of (by decide +kernel)
set_option maxRecDepth 100000 in
theorem ax_e188 : ax_All (fun pc e => ax_okb ax_q188 pc e = true) ax_t188 := ax_All.of (by decide +kernel)
set_option maxRecDepth 100000 in
theorem ax_e189 : ax_All (fun pc e => ax_okb ax_q189 pc e = true) ax_t189 := ax_All.of (by decide +kernel)
set_option maxRecDepth 100000 in
theorem ax_e190 : ax_All (fun pc e => ax_okb ax_q190 pc e = true) ax_t190 := ax_All.of (by decide +kernel)
set_option maxRecDepth 100000 in
theorem ax_e191 : ax_All (fun pc e => ax_okb ax_q191 pc e = true) ax_t191 := ax_All.of (by decide +kernel)
set_option maxRecDepth 100000 in
theorem ax_e192 : ax_All (fun pc e => ax_okb ax_q192 pc e = true) ax_t192 := ax_All.of (by decide +kernel)
set_option maxRecDepth 100000 in
theorem ax_e193 : ax_All (fun pc e => ax_okb ax_q193 pc e = true) ax_t193 := ax_All.of (by decide +kernel)
set_option maxRecDepth 100000 in
theorem ax_e194 : ax_All (fun pc e => ax_okb ax_q194 pc e = true) ax_t194 := ax_All.of (by decide +kernel)
set_option maxRecDepth 100000 in
theorem ax_e195 : ax_All (fun pc e => ax_okb ax_q195 pc e = true) ax_t195 := ax_All.of (by decide +kernel)
set_option maxRecDepth 100000 in
theorem ax_e196 : ax_All (fun pc e => ax_okb ax_q196 pc e = true) ax_t196 := ax_All.of (by decide +kernel)
set_option maxRecDepth 100000 in
theorem ax_e197 : ax_All (fun pc e => ax_okb ax_q197 pc e = true) ax_t197 := ax_All.of (by decide +kernel)
set_option maxRecDepth 100000 in
theorem ax_e198 : ax_All (fun pc e => ax_okb ax_q198 pc e = true) ax_t198 := ax_All.of (by decide +kernel)
set_option maxRecDepth 100000 in
theorem ax_e199 : ax_All (fun pc e => ax_okb ax_q199 pc e = true) ax_t199 := ax_All.of (by decide +kernel)
set_option maxRecDepth 100000 in
theorem ax_e200 : ax_All (fun pc e => ax_okb ax_q200 pc e = true) ax_t200 := ax_All.of (by decide +kernel)
set_option maxRecDepth 100000 in
theorem ax_e201 : ax_All (fun pc e => ax_okb ax_q201 pc e = true) ax_t201 := ax_All.of (by decide +kernel)
set_option maxRecDepth 100000 in
theorem ax_e202 : ax_All (fun pc e => ax_okb ax_q202 pc e = true) ax_t202 := ax_All.of (by decide +kernel)
set_option maxRecDepth 100000 in
theorem ax_e203 : ax_All (fun pc e => ax_okb ax_q203 pc e = true) ax_t203 := ax_All.of (by decide +kernel)
set_option maxRecDepth 100000 in
theorem ax_e204 : ax_All (fun pc e => ax_okb ax_q204 pc e = true) ax_t204 := ax_All.of (by decide +kernel)
set_option maxRecDepth 100000 in
theorem ax_e205 : ax_All (fun pc e => ax_okb ax_q205 pc e = true) ax_t205 := ax_All.of (by decide +kernel)
set_option maxRecDepth 100000 in
theorem ax_e206 : ax_All (fun pc e => ax_okb ax_q206 pc e = true) ax_t206 := ax_All.of (by decide +kernel)
set_option maxRecDepth 100000 in
theorem ax_e207 : ax_All (fun pc e => ax_okb ax_q207 pc e = true) ax_t207 := ax_All.of (by decide +kernel)
set_option maxRecDepth 100000 in
theorem ax_e208 : ax_All (fun pc e => ax_okb ax_q208 pc e = true) ax_t208 := ax_All.of (by decide +kernel)
set_option maxRecDepth 100000 in
theorem ax_e209 : ax_All (fun pc e => ax_okb ax_q209 pc e = true) ax_t209 := ax_All.of (by decide +kernel)
set_option maxRecDepth 100000 in
theorem ax_e210 : ax_All (fun pc e => ax_okb ax_q210 pc e = true) ax_t210 := ax_All.of (by decide +kernel)
set_option maxRecDepth 100000 in
theorem ax_e211 : ax_All (fun pc e => ax_okb ax_q211 pc e = true) ax_t211 := ax_All.of (by decide +kernel)
set_option maxRecDepth 100000 in
theorem ax_e212 : ax_All (fun pc e => ax_okb ax_q212 pc e = true) ax_t212 := ax_All.of (by decide +kernel)
set_option maxRecDepth 100000 in
theorem ax_e213 : ax_All (fun pc e => ax_okb ax_q213 pc e = true) ax_t213 := ax_All.of (by decide +kernel)
