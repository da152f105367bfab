/-! the rows of the linked code, 4 of 4 -/
set_option maxRecDepth 100000 in
theorem ax_e195 : ax_All (fun pc e => ax_okb ax_q195 pc e = true) ax_t195 := ax_All.of (by decide +kernel)
set_option maxRecDepth 100000 in
theorem ax_e196 : ax_All (fun pc e => ax_okb ax_q196 pc e = true) ax_t196 := ax_All.of (by decide +kernel)
set_option maxRecDepth 100000 in
theorem ax_e197 : ax_All (fun pc e => ax_okb ax_q197 pc e = true) ax_t197 := ax_All.of (by decide +kernel)
set_option maxRecDepth 100000 in
theorem ax_e198 : ax_All (fun pc e => ax_okb ax_q198 pc e = true) ax_t198 := ax_All.of (by decide +kernel)
set_option maxRecDepth 100000 in
theorem ax_e199 : ax_All (fun pc e => ax_okb ax_q199 pc e = true) ax_t199 := ax_All.of (by decide +kernel)
set_option maxRecDepth 100000 in
theorem ax_e200 : ax_All (fun pc e => ax_okb ax_q200 pc e = true) ax_t200 := ax_All.of (by decide +kernel)
set_option maxRecDepth 100000 in
theorem ax_e201 : ax_All (fun pc e => ax_okb ax_q201 pc e = true) ax_t201 := ax_All.of (by decide +kernel)
set_option maxRecDepth 100000 in
theorem ax_e202 : ax_All (fun pc e => ax_okb ax_q202 pc e = true) ax_t202 := ax_All.of (by decide +kernel)
set_option maxRecDepth 100000 in
theorem ax_e203 : ax_All (fun pc e => ax_okb ax_q203 pc e = true) ax_t203 := ax_All.of (by decide +kernel)
set_option maxRecDepth 100000 in
theorem ax_e204 : ax_All (fun pc e => ax_okb ax_q204 pc e = true) ax_t204 := ax_All.of (by decide +kernel)
set_option maxRecDepth 100000 in
theorem ax_e205 : ax_All (fun pc e => ax_okb ax_q205 pc e = true) ax_t205 := ax_All.of (by decide +kernel)
set_option maxRecDepth 100000 in
theorem ax_e206 : ax_All (fun pc e => ax_okb ax_q206 pc e = true) ax_t206 := ax_All.of (by decide +kernel)
set_option maxRecDepth 100000 in
theorem ax_e207 : ax_All (fun pc e => ax_okb ax_q207 pc e = true) ax_t207 := ax_All.of (by decide +kernel)
set_option maxRecDepth 100000 in
theorem ax_e208 : ax_All (fun pc e => ax_okb ax_q208 pc e = true) ax_t208 := ax_All.of (by decide +kernel)
set_option maxRecDepth 100000 in
theorem ax_e209 : ax_All (fun pc e => ax_okb ax_q209 pc e = true) ax_t209 := ax_All.of (by decide +kernel)
set_option maxRecDepth 100000 in
theorem ax_e210 : ax_All (fun pc e => ax_okb ax_q210 pc e = true) ax_t210 := ax_All.of (by decide +kernel)
set_option maxRecDepth 100000 in
theorem ax_e211 : ax_All (fun pc e => ax_okb ax_q211 pc e = true) ax_t211 := ax_All.of (by decide +kernel)
set_option maxRecDepth 100000 in
theorem ax_e212 : ax_All (fun pc e => ax_okb ax_q212 pc e = true) ax_t212 := ax_All.of (by decide +kernel)
set_option maxRecDepth 100000 in
theorem ax_e213 : ax_All (fun pc e => ax_okb ax_q213 pc e = true) ax_t213 := ax_All.of (by decide +kernel)
set_option maxRecDepth 100000 in
theorem ax_e214 : ax_All (fun pc e => ax_okb ax_q214 pc e = true) ax_t214 := ax_All.of (by decide +kernel)
set_option maxRecDepth 100000 in
theorem ax_e215 : ax_All (fun pc e => ax_okb ax_q215 pc e = true) ax_t215 := ax_All.of (by decide +kernel)
set_option maxRecDepth 100000 in
theorem ax_e216 : ax_All (fun pc e => ax_okb ax_q216 pc e = true) ax_t216 := ax_All.of (by decide +kernel)
set_option maxRecDepth 100000 in
theorem ax_e217 : ax_All (fun pc e => ax_okb ax_q217 pc e = true) ax_t217 := ax_All.of (by decide +kernel)
set_option maxRecDepth 100000 in
theorem ax_e218 : ax_All (fun pc e => ax_okb ax_q218 pc e = true) ax_t218 := ax_All.of (by decide +kernel)
set_option maxRecDepth 100000 in
theorem ax_e219 : ax_All (fun pc e => ax_okb ax_q219 pc e = true) ax_t219 := ax_All.of (by decide +kernel)
set_option maxRecDepth 100000 in
theorem ax_e220 : ax_All (fun pc e => ax_okb ax_q220 pc e = true) ax_t220 := ax_All.of (by decide +kernel)
set_option maxRecDepth 100000 in
theorem ax_e221 : ax_All (fun pc e => ax_okb ax_q221 pc e = true) ax_t221 := ax_All.of (by decide +kernel)
set_option maxRecDepth 100000 in
theorem ax_e222 : ax_All (fun pc e => ax_okb ax_q222 pc e = true) ax_t222 := ax_All.of (by decide +kernel)
set_option maxRecDepth 100000 in
theorem ax_e223 : ax_All (fun pc e => ax_okb ax_q223 pc e = true) ax_t223 := ax_All.of (by decide +kernel)
set_option maxRecDepth 100000 in
theorem ax_e224 : ax_All (fun pc e => ax_okb ax_q224 pc e = true) ax_t224 := ax_All.of (by decide +kernel)
set_option maxRecDepth 100000 in
theorem ax_e225 : ax_All (fun pc e => ax_okb ax_q225 pc e = true) ax_t225 := ax_All.of (by decide +kernel)
set_option maxRecDepth 100000 in
theorem ax_e226 : ax_All (fun pc e => ax_okb ax_q226 pc e = true) ax_t226 := ax_All.of (by decide +kernel)
set_option maxRecDepth 100000 in
theorem ax_e227 : ax_All (fun pc e => ax_okb ax_q227 pc e = true) ax_t227 := ax_All.of (by decide +kernel)
set_option maxRecDepth 100000 in
theorem ax_e228 : ax_All (fun pc e => ax_okb ax_q228 pc e = true) ax_t228 := ax_All.of (by decide +kernel)
set_option maxRecDepth 100000 in
theorem ax_e229 : ax_All (fun pc e => ax_okb ax_q229 pc e = true) ax_t229 := ax_All.of (by decide +kernel)
set_option maxRecDepth 100000 in
theorem ax_e230 : ax_All (fun pc e => ax_okb ax_q230 pc e = true) ax_t230 := ax_All.of (by decide +kernel)
set_option maxRecDepth 100000 in
theorem ax_e231 : ax_All (fun pc e => ax_okb ax_q231 pc e = true) ax_t231 := ax_All.of (by decide +kernel)
set_option maxRecDepth 100000 in
theorem ax_e232 : ax_All (fun pc e => ax_okb ax_q232 pc e = true) ax_t232 := ax_All.of (by decide +kernel)
set_option maxRecDepth 100000 in
theorem ax_e233 : ax_All (fun pc e => ax_okb ax_q233 pc e = true) ax_t233 := ax_All.of (by decide +kernel)
set_option maxRecDepth 100000 in
theorem ax_e234 : ax_All (fun pc e => ax_okb ax_q234 pc e = true) ax_t234 := ax_All.of (by decide +kernel)
set_option maxRecDepth 100000 in
theorem ax_e235 : ax_All (fun pc e => ax_okb ax_q235 pc e = true) ax_t235 := ax_All.of (by decide +kernel)
set_option maxRecDepth 100000 in
theorem ax_e236 : ax_All (fun pc e => ax_okb ax_q236 pc e = true) ax_t236 := ax_All.of (by decide +kernel)
set_option maxRecDepth 100000 in
theorem ax_e237 : ax_All (fun pc e => ax_okb ax_q237 pc e = true) ax_t237 := ax_All.of (by decide +kernel)
set_option maxRecDepth 100000 in
theorem ax_e238 : ax_All (fun pc e => ax_okb ax_q238 pc e = true) ax_t238 := ax_All.of (by decide +kernel)
set_option maxRecDepth 100000 in
theorem ax_e239 : ax_All (fun pc e => ax_okb ax_q239 pc e = true) ax_t239 := ax_All.of (by decide +kernel)
set_option maxRecDepth 100000 in
theorem ax_e240 : ax_All (fun pc e => ax_okb ax_q240 pc e = true) ax_t240 := ax_All.of (by decide +kernel)
set_option maxRecDepth 100000 in
theorem ax_e241 : ax_All (fun pc e => ax_okb ax_q241 pc e = true) ax_t241 := ax_All.of (by decide +kernel)
set_option maxRecDepth 100000 in
theorem ax_e242 : ax_All (fun pc e => ax_okb ax_q242 pc e = true) ax_t242 := ax_All.of (by decide +kernel)
set_option maxRecDepth 100000 in
theorem ax_e243 : ax_All (fun pc e => ax_okb ax_q243 pc e = true) ax_t243 := ax_All.of (by decide +kernel)
set_option maxRecDepth 100000 in
theorem ax_e244 : ax_All (fun pc e => ax_okb ax_q244 pc e = true) ax_t244 := ax_All.of (by decide +kernel)
set_option maxRecDepth 100000 in
theorem ax_e245 : ax_All (fun pc e => ax_okb ax_q245 pc e = true) ax_t245 := ax_All.of (by decide +kernel)
set_option maxRecDepth 100000 in
theorem ax_e246 : ax_All (fun pc e => ax_okb ax_q246 pc e = true) ax_t246 := ax_All.of (by decide +kernel)
set_option maxRecDepth 100000 in
theorem ax_e247 : ax_All (fun pc e => ax_okb ax_q247 pc e = true) ax_t247 := ax_All.of (by decide +kernel)
set_option maxRecDepth 100000 in
theorem ax_e248 : ax_All (fun pc e => ax_okb ax_q248 pc e = true) ax_t248 := ax_All.of (by decide +kernel)
set_option maxRecDepth 100000 in
theorem ax_e249 : ax_All (fun pc e => ax_okb ax_q249 pc e = true) ax_t249 := ax_All.of (by decide +kernel)
set_option maxRecDepth 100000 in
theorem ax_e250 : ax_All (fun pc e => ax_okb ax_q250 pc e = true) ax_t250 := ax_All.of (by decide +kernel)
set_option maxRecDepth 100000 in
theorem ax_e251 : ax_All (fun pc e => ax_okb ax_q251 pc e = true) ax_t251 := ax_All.of (by decide +kernel)
set_option maxRecDepth 100000 in
theorem ax_e252 : ax_All (fun pc e => ax_okb ax_q252 pc e = true) ax_t252 := ax_All.of (by decide +kernel)
set_option maxRecDepth 100000 in
theorem ax_e253 : ax_All (fun pc e => ax_okb ax_q253 pc e = true) ax_t253 := ax_All.of (by decide +kernel)
set_option maxRecDepth 100000 in
theorem ax_e254 : ax_All (fun pc e => ax_okb ax_q254 pc e = true) ax_t254 := ax_All.of (by decide +kernel)
set_option maxRecDepth 100000 in
theorem ax_e255 : ax_All (fun pc e => ax_okb ax_q255 pc e = true) ax_t255 := ax_All.of (by decide +kernel)
set_option maxRecDepth 100000 in
theorem ax_e256 : ax_All (fun pc e => ax_okb ax_q256 pc e = true) ax_t256 := ax_All.of (by decide +kernel)
set_option maxRecDepth 100000 in
theorem ax_e257 : ax_All (fun pc e => ax_okb ax_q257 pc e = true) ax_t257 := ax_All.of (by decide +kernel)
set_option maxRecDepth 100000 in
theorem ax_e258 : ax_All (fun pc e => ax_okb ax_q258 pc e = true) ax_t258 := ax_All.of (by decide +kernel)
set_option maxRecDepth 100000 in
theorem ax_e259 : ax_All (fun pc e => ax_okb ax_q259 pc e = true) ax_t259 := ax_All.of (by decide +kernel)
