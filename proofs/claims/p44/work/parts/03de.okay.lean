/-! the rows of the linked code, 4 of 4 -/
set_option maxRecDepth 100000 in
theorem ax_e214 : ax_All (fun pc e => ax_okb ax_q214 pc e = true) ax_t214 := ax_All.of (by decide +kernel)
set_option maxRecDepth 100000 in
theorem ax_e215 : ax_All (fun pc e => ax_okb ax_q215 pc e = true) ax_t215 := ax_All.of (by decide +kernel)
set_option maxRecDepth 100000 in
theorem ax_e216 : ax_All (fun pc e => ax_okb ax_q216 pc e = true) ax_t216 := ax_All.of (by decide +kernel)
set_option maxRecDepth 100000 in
theorem ax_e217 : ax_All (fun pc e => ax_okb ax_q217 pc e = true) ax_t217 := ax_All.of (by decide +kernel)
set_option maxRecDepth 100000 in
theorem ax_e218 : ax_All (fun pc e => ax_okb ax_q218 pc e = true) ax_t218 := ax_All.of (by decide +kernel)
set_option maxRecDepth 100000 in
theorem ax_e219 : ax_All (fun pc e => ax_okb ax_q219 pc e = true) ax_t219 := ax_All.of (by decide +kernel)
set_option maxRecDepth 100000 in
theorem ax_e220 : ax_All (fun pc e => ax_okb ax_q220 pc e = true) ax_t220 := ax_All.of (by decide +kernel)
set_option maxRecDepth 100000 in
theorem ax_e221 : ax_All (fun pc e => ax_okb ax_q221 pc e = true) ax_t221 := ax_All.of (by decide +kernel)
set_option maxRecDepth 100000 in
theorem ax_e222 : ax_All (fun pc e => ax_okb ax_q222 pc e = true) ax_t222 := ax_All.of (by decide +kernel)
set_option maxRecDepth 100000 in
theorem ax_e223 : ax_All (fun pc e => ax_okb ax_q223 pc e = true) ax_t223 := ax_All.of (by decide +kernel)
set_option maxRecDepth 100000 in
theorem ax_e224 : ax_All (fun pc e => ax_okb ax_q224 pc e = true) ax_t224 := ax_All.of (by decide +kernel)
set_option maxRecDepth 100000 in
theorem ax_e225 : ax_All (fun pc e => ax_okb ax_q225 pc e = true) ax_t225 := ax_All.of (by decide +kernel)
set_option maxRecDepth 100000 in
theorem ax_e226 : ax_All (fun pc e => ax_okb ax_q226 pc e = true) ax_t226 := ax_All.of (by decide +kernel)
set_option maxRecDepth 100000 in
theorem ax_e227 : ax_All (fun pc e => ax_okb ax_q227 pc e = true) ax_t227 := ax_All.of (by decide +kernel)
set_option maxRecDepth 100000 in
theorem ax_e228 : ax_All (fun pc e => ax_okb ax_q228 pc e = true) ax_t228 := ax_All.of (by decide +kernel)
set_option maxRecDepth 100000 in
theorem ax_e229 : ax_All (fun pc e => ax_okb ax_q229 pc e = true) ax_t229 := ax_All.of (by decide +kernel)
set_option maxRecDepth 100000 in
theorem ax_e230 : ax_All (fun pc e => ax_okb ax_q230 pc e = true) ax_t230 := ax_All.of (by decide +kernel)
set_option maxRecDepth 100000 in
theorem ax_e231 : ax_All (fun pc e => ax_okb ax_q231 pc e = true) ax_t231 := ax_All.of (by decide +kernel)
set_option maxRecDepth 100000 in
theorem ax_e232 : ax_All (fun pc e => ax_okb ax_q232 pc e = true) ax_t232 := ax_All.of (by decide +kernel)
set_option maxRecDepth 100000 in
theorem ax_e233 : ax_All (fun pc e => ax_okb ax_q233 pc e = true) ax_t233 := ax_All.of (by decide +kernel)
set_option maxRecDepth 100000 in
theorem ax_e234 : ax_All (fun pc e => ax_okb ax_q234 pc e = true) ax_t234 := ax_All.of (by decide +kernel)
set_option maxRecDepth 100000 in
theorem ax_e235 : ax_All (fun pc e => ax_okb ax_q235 pc e = true) ax_t235 := ax_All.of (by decide +kernel)
set_option maxRecDepth 100000 in
theorem ax_e236 : ax_All (fun pc e => ax_okb ax_q236 pc e = true) ax_t236 := ax_All.of (by decide +kernel)
set_option maxRecDepth 100000 in
theorem ax_e237 : ax_All (fun pc e => ax_okb ax_q237 pc e = true) ax_t237 := ax_All.of (by decide +kernel)
set_option maxRecDepth 100000 in
theorem ax_e238 : ax_All (fun pc e => ax_okb ax_q238 pc e = true) ax_t238 := ax_All.of (by decide +kernel)
set_option maxRecDepth 100000 in
theorem ax_e239 : ax_All (fun pc e => ax_okb ax_q239 pc e = true) ax_t239 := ax_All.of (by decide +kernel)
set_option maxRecDepth 100000 in
theorem ax_e240 : ax_All (fun pc e => ax_okb ax_q240 pc e = true) ax_t240 := ax_All.of (by decide +kernel)
set_option maxRecDepth 100000 in
theorem ax_e241 : ax_All (fun pc e => ax_okb ax_q241 pc e = true) ax_t241 := ax_All.of (by decide +kernel)
set_option maxRecDepth 100000 in
theorem ax_e242 : ax_All (fun pc e => ax_okb ax_q242 pc e = true) ax_t242 := ax_All.of (by decide +kernel)
set_option maxRecDepth 100000 in
theorem ax_e243 : ax_All (fun pc e => ax_okb ax_q243 pc e = true) ax_t243 := ax_All.of (by decide +kernel)
set_option maxRecDepth 100000 in
theorem ax_e244 : ax_All (fun pc e => ax_okb ax_q244 pc e = true) ax_t244 := ax_All.of (by decide +kernel)
set_option maxRecDepth 100000 in
theorem ax_e245 : ax_All (fun pc e => ax_okb ax_q245 pc e = true) ax_t245 := ax_All.of (by decide +kernel)
set_option maxRecDepth 100000 in
theorem ax_e246 : ax_All (fun pc e => ax_okb ax_q246 pc e = true) ax_t246 := ax_All.of (by decide +kernel)
set_option maxRecDepth 100000 in
theorem ax_e247 : ax_All (fun pc e => ax_okb ax_q247 pc e = true) ax_t247 := ax_All.of (by decide +kernel)
set_option maxRecDepth 100000 in
theorem ax_e248 : ax_All (fun pc e => ax_okb ax_q248 pc e = true) ax_t248 := ax_All.of (by decide +kernel)
set_option maxRecDepth 100000 in
theorem ax_e249 : ax_All (fun pc e => ax_okb ax_q249 pc e = true) ax_t249 := ax_All.of (by decide +kernel)
set_option maxRecDepth 100000 in
theorem ax_e250 : ax_All (fun pc e => ax_okb ax_q250 pc e = true) ax_t250 := ax_All.of (by decide +kernel)
set_option maxRecDepth 100000 in
theorem ax_e251 : ax_All (fun pc e => ax_okb ax_q251 pc e = true) ax_t251 := ax_All.of (by decide +kernel)
set_option maxRecDepth 100000 in
theorem ax_e252 : ax_All (fun pc e => ax_okb ax_q252 pc e = true) ax_t252 := ax_All.of (by decide +kernel)
set_option maxRecDepth 100000 in
theorem ax_e253 : ax_All (fun pc e => ax_okb ax_q253 pc e = true) ax_t253 := ax_All.of (by decide +kernel)
set_option maxRecDepth 100000 in
theorem ax_e254 : ax_All (fun pc e => ax_okb ax_q254 pc e = true) ax_t254 := ax_All.of (by decide +kernel)
set_option maxRecDepth 100000 in
theorem ax_e255 : ax_All (fun pc e => ax_okb ax_q255 pc e = true) ax_t255 := ax_All.of (by decide +kernel)
set_option maxRecDepth 100000 in
theorem ax_e256 : ax_All (fun pc e => ax_okb ax_q256 pc e = true) ax_t256 := ax_All.of (by decide +kernel)
set_option maxRecDepth 100000 in
theorem ax_e257 : ax_All (fun pc e => ax_okb ax_q257 pc e = true) ax_t257 := ax_All.of (by decide +kernel)
set_option maxRecDepth 100000 in
theorem ax_e258 : ax_All (fun pc e => ax_okb ax_q258 pc e = true) ax_t258 := ax_All.of (by decide +kernel)
set_option maxRecDepth 100000 in
theorem ax_e259 : ax_All (fun pc e => ax_okb ax_q259 pc e = true) ax_t259 := ax_All.of (by decide +kernel)
set_option maxRecDepth 100000 in
theorem ax_e260 : ax_All (fun pc e => ax_okb ax_q260 pc e = true) ax_t260 := ax_All.of (by decide +kernel)
set_option maxRecDepth 100000 in
theorem ax_e261 : ax_All (fun pc e => ax_okb ax_q261 pc e = true) ax_t261 := ax_All.of (by decide +kernel)
set_option maxRecDepth 100000 in
theorem ax_e262 : ax_All (fun pc e => ax_okb ax_q262 pc e = true) ax_t262 := ax_All.of (by decide +kernel)
set_option maxRecDepth 100000 in
theorem ax_e263 : ax_All (fun pc e => ax_okb ax_q263 pc e = true) ax_t263 := ax_All.of (by decide +kernel)
set_option maxRecDepth 100000 in
theorem ax_e264 : ax_All (fun pc e => ax_okb ax_q264 pc e = true) ax_t264 := ax_All.of (by decide +kernel)
set_option maxRecDepth 100000 in
theorem ax_e265 : ax_All (fun pc e => ax_okb ax_q265 pc e = true) ax_t265 := ax_All.of (by decide +kernel)
set_option maxRecDepth 100000 in
theorem ax_e266 : ax_All (fun pc e => ax_okb ax_q266 pc e = true) ax_t266 := ax_All.of (by decide +kernel)
set_option maxRecDepth 100000 in
theorem ax_e267 : ax_All (fun pc e => ax_okb ax_q267 pc e = true) ax_t267 := ax_All.of (by decide +kernel)
set_option maxRecDepth 100000 in
theorem ax_e268 : ax_All (fun pc e => ax_okb ax_q268 pc e = true) ax_t268 := ax_All.of (by decide +kernel)
set_option maxRecDepth 100000 in
theorem ax_e269 : ax_All (fun pc e => ax_okb ax_q269 pc e = true) ax_t269 := ax_All.of (by decide +kernel)
set_option maxRecDepth 100000 in
theorem ax_e270 : ax_All (fun pc e => ax_okb ax_q270 pc e = true) ax_t270 := ax_All.of (by decide +kernel)
set_option maxRecDepth 100000 in
theorem ax_e271 : ax_All (fun pc e => ax_okb ax_q271 pc e = true) ax_t271 := ax_All.of (by decide +kernel)
set_option maxRecDepth 100000 in
theorem ax_e272 : ax_All (fun pc e => ax_okb ax_q272 pc e = true) ax_t272 := ax_All.of (by decide +kernel)
set_option maxRecDepth 100000 in
theorem ax_e273 : ax_All (fun pc e => ax_okb ax_q273 pc e = true) ax_t273 := ax_All.of (by decide +kernel)
set_option maxRecDepth 100000 in
theorem ax_e274 : ax_All (fun pc e => ax_okb ax_q274 pc e = true) ax_t274 := ax_All.of (by decide +kernel)
set_option maxRecDepth 100000 in
theorem ax_e275 : ax_All (fun pc e => ax_okb ax_q275 pc e = true) ax_t275 := ax_All.of (by decide +kernel)
set_option maxRecDepth 100000 in
theorem ax_e276 : ax_All (fun pc e => ax_okb ax_q276 pc e = true) ax_t276 := ax_All.of (by decide +kernel)
set_option maxRecDepth 100000 in
theorem ax_e277 : ax_All (fun pc e => ax_okb ax_q277 pc e = true) ax_t277 := ax_All.of (by decide +kernel)
set_option maxRecDepth 100000 in
theorem ax_e278 : ax_All (fun pc e => ax_okb ax_q278 pc e = true) ax_t278 := ax_All.of (by decide +kernel)
set_option maxRecDepth 100000 in
theorem ax_e279 : ax_All (fun pc e => ax_okb ax_q279 pc e = true) ax_t279 := ax_All.of (by decide +kernel)
set_option maxRecDepth 100000 in
theorem ax_e280 : ax_All (fun pc e => ax_okb ax_q280 pc e = true) ax_t280 := ax_All.of (by decide +kernel)
set_option maxRecDepth 100000 in
theorem ax_e281 : ax_All (fun pc e => ax_okb ax_q281 pc e = true) ax_t281 := ax_All.of (by decide +kernel)
set_option maxRecDepth 100000 in
theorem ax_e282 : ax_All (fun pc e => ax_okb ax_q282 pc e = true) ax_t282 := ax_All.of (by decide +kernel)
set_option maxRecDepth 100000 in
theorem ax_e283 : ax_All (fun pc e => ax_okb ax_q283 pc e = true) ax_t283 := ax_All.of (by decide +kernel)
set_option maxRecDepth 100000 in
theorem ax_e284 : ax_All (fun pc e => ax_okb ax_q284 pc e = true) ax_t284 := ax_All.of (by decide +kernel)
