/-! the rows of the linked code, 4 of 4 -/
set_option maxRecDepth 100000 in
theorem ax_e195 : ax_t195.all (fun e => ax_okb ax_q195 e) = true := by decide +kernel
set_option maxRecDepth 100000 in
theorem ax_f195 : ∀ w, ax_mw[195]? = some w → ax_mkb ax_q195 w = true := by
  intro w hw
  have e : w = (ax_mw[195]?).getD (0, 0, false, 0) := by rw [hw]; rfl
  subst e
  decide +kernel
set_option maxRecDepth 100000 in
theorem ax_e196 : ax_t196.all (fun e => ax_okb ax_q196 e) = true := by decide +kernel
set_option maxRecDepth 100000 in
theorem ax_f196 : ∀ w, ax_mw[196]? = some w → ax_mkb ax_q196 w = true := by
  intro w hw
  have e : w = (ax_mw[196]?).getD (0, 0, false, 0) := by rw [hw]; rfl
  subst e
  decide +kernel
set_option maxRecDepth 100000 in
theorem ax_e197 : ax_t197.all (fun e => ax_okb ax_q197 e) = true := by decide +kernel
set_option maxRecDepth 100000 in
theorem ax_f197 : ∀ w, ax_mw[197]? = some w → ax_mkb ax_q197 w = true := by
  intro w hw
  have e : w = (ax_mw[197]?).getD (0, 0, false, 0) := by rw [hw]; rfl
  subst e
  decide +kernel
set_option maxRecDepth 100000 in
theorem ax_e198 : ax_t198.all (fun e => ax_okb ax_q198 e) = true := by decide +kernel
set_option maxRecDepth 100000 in
theorem ax_f198 : ∀ w, ax_mw[198]? = some w → ax_mkb ax_q198 w = true := by
  intro w hw
  have e : w = (ax_mw[198]?).getD (0, 0, false, 0) := by rw [hw]; rfl
  subst e
  decide +kernel
set_option maxRecDepth 100000 in
theorem ax_e199 : ax_t199.all (fun e => ax_okb ax_q199 e) = true := by decide +kernel
set_option maxRecDepth 100000 in
theorem ax_f199 : ∀ w, ax_mw[199]? = some w → ax_mkb ax_q199 w = true := by
  intro w hw
  have e : w = (ax_mw[199]?).getD (0, 0, false, 0) := by rw [hw]; rfl
  subst e
  decide +kernel
set_option maxRecDepth 100000 in
theorem ax_e200 : ax_t200.all (fun e => ax_okb ax_q200 e) = true := by decide +kernel
set_option maxRecDepth 100000 in
theorem ax_f200 : ∀ w, ax_mw[200]? = some w → ax_mkb ax_q200 w = true := by
  intro w hw
  have e : w = (ax_mw[200]?).getD (0, 0, false, 0) := by rw [hw]; rfl
  subst e
  decide +kernel
set_option maxRecDepth 100000 in
theorem ax_e201 : ax_t201.all (fun e => ax_okb ax_q201 e) = true := by decide +kernel
set_option maxRecDepth 100000 in
theorem ax_f201 : ∀ w, ax_mw[201]? = some w → ax_mkb ax_q201 w = true := by
  intro w hw
  have e : w = (ax_mw[201]?).getD (0, 0, false, 0) := by rw [hw]; rfl
  subst e
  decide +kernel
set_option maxRecDepth 100000 in
theorem ax_e202 : ax_t202.all (fun e => ax_okb ax_q202 e) = true := by decide +kernel
set_option maxRecDepth 100000 in
theorem ax_f202 : ∀ w, ax_mw[202]? = some w → ax_mkb ax_q202 w = true := by
  intro w hw
  have e : w = (ax_mw[202]?).getD (0, 0, false, 0) := by rw [hw]; rfl
  subst e
  decide +kernel
set_option maxRecDepth 100000 in
theorem ax_e203 : ax_t203.all (fun e => ax_okb ax_q203 e) = true := by decide +kernel
set_option maxRecDepth 100000 in
theorem ax_f203 : ∀ w, ax_mw[203]? = some w → ax_mkb ax_q203 w = true := by
  intro w hw
  have e : w = (ax_mw[203]?).getD (0, 0, false, 0) := by rw [hw]; rfl
  subst e
  decide +kernel
set_option maxRecDepth 100000 in
theorem ax_e204 : ax_t204.all (fun e => ax_okb ax_q204 e) = true := by decide +kernel
set_option maxRecDepth 100000 in
theorem ax_f204 : ∀ w, ax_mw[204]? = some w → ax_mkb ax_q204 w = true := by
  intro w hw
  have e : w = (ax_mw[204]?).getD (0, 0, false, 0) := by rw [hw]; rfl
  subst e
  decide +kernel
set_option maxRecDepth 100000 in
theorem ax_e205 : ax_t205.all (fun e => ax_okb ax_q205 e) = true := by decide +kernel
set_option maxRecDepth 100000 in
theorem ax_f205 : ∀ w, ax_mw[205]? = some w → ax_mkb ax_q205 w = true := by
  intro w hw
  have e : w = (ax_mw[205]?).getD (0, 0, false, 0) := by rw [hw]; rfl
  subst e
  decide +kernel
set_option maxRecDepth 100000 in
theorem ax_e206 : ax_t206.all (fun e => ax_okb ax_q206 e) = true := by decide +kernel
set_option maxRecDepth 100000 in
theorem ax_f206 : ∀ w, ax_mw[206]? = some w → ax_mkb ax_q206 w = true := by
  intro w hw
  have e : w = (ax_mw[206]?).getD (0, 0, false, 0) := by rw [hw]; rfl
  subst e
  decide +kernel
set_option maxRecDepth 100000 in
theorem ax_e207 : ax_t207.all (fun e => ax_okb ax_q207 e) = true := by decide +kernel
set_option maxRecDepth 100000 in
theorem ax_f207 : ∀ w, ax_mw[207]? = some w → ax_mkb ax_q207 w = true := by
  intro w hw
  have e : w = (ax_mw[207]?).getD (0, 0, false, 0) := by rw [hw]; rfl
  subst e
  decide +kernel
set_option maxRecDepth 100000 in
theorem ax_e208 : ax_t208.all (fun e => ax_okb ax_q208 e) = true := by decide +kernel
set_option maxRecDepth 100000 in
theorem ax_f208 : ∀ w, ax_mw[208]? = some w → ax_mkb ax_q208 w = true := by
  intro w hw
  have e : w = (ax_mw[208]?).getD (0, 0, false, 0) := by rw [hw]; rfl
  subst e
  decide +kernel
set_option maxRecDepth 100000 in
theorem ax_e209 : ax_t209.all (fun e => ax_okb ax_q209 e) = true := by decide +kernel
set_option maxRecDepth 100000 in
theorem ax_f209 : ∀ w, ax_mw[209]? = some w → ax_mkb ax_q209 w = true := by
  intro w hw
  have e : w = (ax_mw[209]?).getD (0, 0, false, 0) := by rw [hw]; rfl
  subst e
  decide +kernel
set_option maxRecDepth 100000 in
theorem ax_e210 : ax_t210.all (fun e => ax_okb ax_q210 e) = true := by decide +kernel
set_option maxRecDepth 100000 in
theorem ax_f210 : ∀ w, ax_mw[210]? = some w → ax_mkb ax_q210 w = true := by
  intro w hw
  have e : w = (ax_mw[210]?).getD (0, 0, false, 0) := by rw [hw]; rfl
  subst e
  decide +kernel
set_option maxRecDepth 100000 in
theorem ax_e211 : ax_t211.all (fun e => ax_okb ax_q211 e) = true := by decide +kernel
set_option maxRecDepth 100000 in
theorem ax_f211 : ∀ w, ax_mw[211]? = some w → ax_mkb ax_q211 w = true := by
  intro w hw
  have e : w = (ax_mw[211]?).getD (0, 0, false, 0) := by rw [hw]; rfl
  subst e
  decide +kernel
set_option maxRecDepth 100000 in
theorem ax_e212 : ax_t212.all (fun e => ax_okb ax_q212 e) = true := by decide +kernel
set_option maxRecDepth 100000 in
theorem ax_f212 : ∀ w, ax_mw[212]? = some w → ax_mkb ax_q212 w = true := by
  intro w hw
  have e : w = (ax_mw[212]?).getD (0, 0, false, 0) := by rw [hw]; rfl
  subst e
  decide +kernel
set_option maxRecDepth 100000 in
theorem ax_e213 : ax_t213.all (fun e => ax_okb ax_q213 e) = true := by decide +kernel
set_option maxRecDepth 100000 in
theorem ax_f213 : ∀ w, ax_mw[213]? = some w → ax_mkb ax_q213 w = true := by
  intro w hw
  have e : w = (ax_mw[213]?).getD (0, 0, false, 0) := by rw [hw]; rfl
  subst e
  decide +kernel
set_option maxRecDepth 100000 in
theorem ax_e214 : ax_t214.all (fun e => ax_okb ax_q214 e) = true := by decide +kernel
set_option maxRecDepth 100000 in
theorem ax_f214 : ∀ w, ax_mw[214]? = some w → ax_mkb ax_q214 w = true := by
  intro w hw
  have e : w = (ax_mw[214]?).getD (0, 0, false, 0) := by rw [hw]; rfl
  subst e
  decide +kernel
set_option maxRecDepth 100000 in
theorem ax_e215 : ax_t215.all (fun e => ax_okb ax_q215 e) = true := by decide +kernel
set_option maxRecDepth 100000 in
theorem ax_f215 : ∀ w, ax_mw[215]? = some w → ax_mkb ax_q215 w = true := by
  intro w hw
  have e : w = (ax_mw[215]?).getD (0, 0, false, 0) := by rw [hw]; rfl
  subst e
  decide +kernel
set_option maxRecDepth 100000 in
theorem ax_e216 : ax_t216.all (fun e => ax_okb ax_q216 e) = true := by decide +kernel
set_option maxRecDepth 100000 in
theorem ax_f216 : ∀ w, ax_mw[216]? = some w → ax_mkb ax_q216 w = true := by
  intro w hw
  have e : w = (ax_mw[216]?).getD (0, 0, false, 0) := by rw [hw]; rfl
  subst e
  decide +kernel
set_option maxRecDepth 100000 in
theorem ax_e217 : ax_t217.all (fun e => ax_okb ax_q217 e) = true := by decide +kernel
set_option maxRecDepth 100000 in
theorem ax_f217 : ∀ w, ax_mw[217]? = some w → ax_mkb ax_q217 w = true := by
  intro w hw
  have e : w = (ax_mw[217]?).getD (0, 0, false, 0) := by rw [hw]; rfl
  subst e
  decide +kernel
set_option maxRecDepth 100000 in
theorem ax_e218 : ax_t218.all (fun e => ax_okb ax_q218 e) = true := by decide +kernel
set_option maxRecDepth 100000 in
theorem ax_f218 : ∀ w, ax_mw[218]? = some w → ax_mkb ax_q218 w = true := by
  intro w hw
  have e : w = (ax_mw[218]?).getD (0, 0, false, 0) := by rw [hw]; rfl
  subst e
  decide +kernel
set_option maxRecDepth 100000 in
theorem ax_e219 : ax_t219.all (fun e => ax_okb ax_q219 e) = true := by decide +kernel
set_option maxRecDepth 100000 in
theorem ax_f219 : ∀ w, ax_mw[219]? = some w → ax_mkb ax_q219 w = true := by
  intro w hw
  have e : w = (ax_mw[219]?).getD (0, 0, false, 0) := by rw [hw]; rfl
  subst e
  decide +kernel
set_option maxRecDepth 100000 in
theorem ax_e220 : ax_t220.all (fun e => ax_okb ax_q220 e) = true := by decide +kernel
set_option maxRecDepth 100000 in
theorem ax_f220 : ∀ w, ax_mw[220]? = some w → ax_mkb ax_q220 w = true := by
  intro w hw
  have e : w = (ax_mw[220]?).getD (0, 0, false, 0) := by rw [hw]; rfl
  subst e
  decide +kernel
set_option maxRecDepth 100000 in
theorem ax_e221 : ax_t221.all (fun e => ax_okb ax_q221 e) = true := by decide +kernel
set_option maxRecDepth 100000 in
theorem ax_f221 : ∀ w, ax_mw[221]? = some w → ax_mkb ax_q221 w = true := by
  intro w hw
  have e : w = (ax_mw[221]?).getD (0, 0, false, 0) := by rw [hw]; rfl
  subst e
  decide +kernel
set_option maxRecDepth 100000 in
theorem ax_e222 : ax_t222.all (fun e => ax_okb ax_q222 e) = true := by decide +kernel
set_option maxRecDepth 100000 in
theorem ax_f222 : ∀ w, ax_mw[222]? = some w → ax_mkb ax_q222 w = true := by
  intro w hw
  have e : w = (ax_mw[222]?).getD (0, 0, false, 0) := by rw [hw]; rfl
  subst e
  decide +kernel
set_option maxRecDepth 100000 in
theorem ax_e223 : ax_t223.all (fun e => ax_okb ax_q223 e) = true := by decide +kernel
set_option maxRecDepth 100000 in
theorem ax_f223 : ∀ w, ax_mw[223]? = some w → ax_mkb ax_q223 w = true := by
  intro w hw
  have e : w = (ax_mw[223]?).getD (0, 0, false, 0) := by rw [hw]; rfl
  subst e
  decide +kernel
set_option maxRecDepth 100000 in
theorem ax_e224 : ax_t224.all (fun e => ax_okb ax_q224 e) = true := by decide +kernel
set_option maxRecDepth 100000 in
theorem ax_f224 : ∀ w, ax_mw[224]? = some w → ax_mkb ax_q224 w = true := by
  intro w hw
  have e : w = (ax_mw[224]?).getD (0, 0, false, 0) := by rw [hw]; rfl
  subst e
  decide +kernel
set_option maxRecDepth 100000 in
theorem ax_e225 : ax_t225.all (fun e => ax_okb ax_q225 e) = true := by decide +kernel
set_option maxRecDepth 100000 in
theorem ax_f225 : ∀ w, ax_mw[225]? = some w → ax_mkb ax_q225 w = true := by
  intro w hw
  have e : w = (ax_mw[225]?).getD (0, 0, false, 0) := by rw [hw]; rfl
  subst e
  decide +kernel
set_option maxRecDepth 100000 in
theorem ax_e226 : ax_t226.all (fun e => ax_okb ax_q226 e) = true := by decide +kernel
set_option maxRecDepth 100000 in
theorem ax_f226 : ∀ w, ax_mw[226]? = some w → ax_mkb ax_q226 w = true := by
  intro w hw
  have e : w = (ax_mw[226]?).getD (0, 0, false, 0) := by rw [hw]; rfl
  subst e
  decide +kernel
set_option maxRecDepth 100000 in
theorem ax_e227 : ax_t227.all (fun e => ax_okb ax_q227 e) = true := by decide +kernel
set_option maxRecDepth 100000 in
theorem ax_f227 : ∀ w, ax_mw[227]? = some w → ax_mkb ax_q227 w = true := by
  intro w hw
  have e : w = (ax_mw[227]?).getD (0, 0, false, 0) := by rw [hw]; rfl
  subst e
  decide +kernel
set_option maxRecDepth 100000 in
theorem ax_e228 : ax_t228.all (fun e => ax_okb ax_q228 e) = true := by decide +kernel
set_option maxRecDepth 100000 in
theorem ax_f228 : ∀ w, ax_mw[228]? = some w → ax_mkb ax_q228 w = true := by
  intro w hw
  have e : w = (ax_mw[228]?).getD (0, 0, false, 0) := by rw [hw]; rfl
  subst e
  decide +kernel
set_option maxRecDepth 100000 in
theorem ax_e229 : ax_t229.all (fun e => ax_okb ax_q229 e) = true := by decide +kernel
set_option maxRecDepth 100000 in
theorem ax_f229 : ∀ w, ax_mw[229]? = some w → ax_mkb ax_q229 w = true := by
  intro w hw
  have e : w = (ax_mw[229]?).getD (0, 0, false, 0) := by rw [hw]; rfl
  subst e
  decide +kernel
set_option maxRecDepth 100000 in
theorem ax_e230 : ax_t230.all (fun e => ax_okb ax_q230 e) = true := by decide +kernel
set_option maxRecDepth 100000 in
theorem ax_f230 : ∀ w, ax_mw[230]? = some w → ax_mkb ax_q230 w = true := by
  intro w hw
  have e : w = (ax_mw[230]?).getD (0, 0, false, 0) := by rw [hw]; rfl
  subst e
  decide +kernel
set_option maxRecDepth 100000 in
theorem ax_e231 : ax_t231.all (fun e => ax_okb ax_q231 e) = true := by decide +kernel
set_option maxRecDepth 100000 in
theorem ax_f231 : ∀ w, ax_mw[231]? = some w → ax_mkb ax_q231 w = true := by
  intro w hw
  have e : w = (ax_mw[231]?).getD (0, 0, false, 0) := by rw [hw]; rfl
  subst e
  decide +kernel
set_option maxRecDepth 100000 in
theorem ax_e232 : ax_t232.all (fun e => ax_okb ax_q232 e) = true := by decide +kernel
set_option maxRecDepth 100000 in
theorem ax_f232 : ∀ w, ax_mw[232]? = some w → ax_mkb ax_q232 w = true := by
  intro w hw
  have e : w = (ax_mw[232]?).getD (0, 0, false, 0) := by rw [hw]; rfl
  subst e
  decide +kernel
set_option maxRecDepth 100000 in
theorem ax_e233 : ax_t233.all (fun e => ax_okb ax_q233 e) = true := by decide +kernel
set_option maxRecDepth 100000 in
theorem ax_f233 : ∀ w, ax_mw[233]? = some w → ax_mkb ax_q233 w = true := by
  intro w hw
  have e : w = (ax_mw[233]?).getD (0, 0, false, 0) := by rw [hw]; rfl
  subst e
  decide +kernel
set_option maxRecDepth 100000 in
theorem ax_e234 : ax_t234.all (fun e => ax_okb ax_q234 e) = true := by decide +kernel
set_option maxRecDepth 100000 in
theorem ax_f234 : ∀ w, ax_mw[234]? = some w → ax_mkb ax_q234 w = true := by
  intro w hw
  have e : w = (ax_mw[234]?).getD (0, 0, false, 0) := by rw [hw]; rfl
  subst e
  decide +kernel
set_option maxRecDepth 100000 in
theorem ax_e235 : ax_t235.all (fun e => ax_okb ax_q235 e) = true := by decide +kernel
set_option maxRecDepth 100000 in
theorem ax_f235 : ∀ w, ax_mw[235]? = some w → ax_mkb ax_q235 w = true := by
  intro w hw
  have e : w = (ax_mw[235]?).getD (0, 0, false, 0) := by rw [hw]; rfl
  subst e
  decide +kernel
set_option maxRecDepth 100000 in
theorem ax_e236 : ax_t236.all (fun e => ax_okb ax_q236 e) = true := by decide +kernel
set_option maxRecDepth 100000 in
theorem ax_f236 : ∀ w, ax_mw[236]? = some w → ax_mkb ax_q236 w = true := by
  intro w hw
  have e : w = (ax_mw[236]?).getD (0, 0, false, 0) := by rw [hw]; rfl
  subst e
  decide +kernel
set_option maxRecDepth 100000 in
theorem ax_e237 : ax_t237.all (fun e => ax_okb ax_q237 e) = true := by decide +kernel
set_option maxRecDepth 100000 in
theorem ax_f237 : ∀ w, ax_mw[237]? = some w → ax_mkb ax_q237 w = true := by
  intro w hw
  have e : w = (ax_mw[237]?).getD (0, 0, false, 0) := by rw [hw]; rfl
  subst e
  decide +kernel
set_option maxRecDepth 100000 in
theorem ax_e238 : ax_t238.all (fun e => ax_okb ax_q238 e) = true := by decide +kernel
set_option maxRecDepth 100000 in
theorem ax_f238 : ∀ w, ax_mw[238]? = some w → ax_mkb ax_q238 w = true := by
  intro w hw
  have e : w = (ax_mw[238]?).getD (0, 0, false, 0) := by rw [hw]; rfl
  subst e
  decide +kernel
set_option maxRecDepth 100000 in
theorem ax_e239 : ax_t239.all (fun e => ax_okb ax_q239 e) = true := by decide +kernel
set_option maxRecDepth 100000 in
theorem ax_f239 : ∀ w, ax_mw[239]? = some w → ax_mkb ax_q239 w = true := by
  intro w hw
  have e : w = (ax_mw[239]?).getD (0, 0, false, 0) := by rw [hw]; rfl
  subst e
  decide +kernel
set_option maxRecDepth 100000 in
theorem ax_e240 : ax_t240.all (fun e => ax_okb ax_q240 e) = true := by decide +kernel
set_option maxRecDepth 100000 in
theorem ax_f240 : ∀ w, ax_mw[240]? = some w → ax_mkb ax_q240 w = true := by
  intro w hw
  have e : w = (ax_mw[240]?).getD (0, 0, false, 0) := by rw [hw]; rfl
  subst e
  decide +kernel
set_option maxRecDepth 100000 in
theorem ax_e241 : ax_t241.all (fun e => ax_okb ax_q241 e) = true := by decide +kernel
set_option maxRecDepth 100000 in
theorem ax_f241 : ∀ w, ax_mw[241]? = some w → ax_mkb ax_q241 w = true := by
  intro w hw
  have e : w = (ax_mw[241]?).getD (0, 0, false, 0) := by rw [hw]; rfl
  subst e
  decide +kernel
set_option maxRecDepth 100000 in
theorem ax_e242 : ax_t242.all (fun e => ax_okb ax_q242 e) = true := by decide +kernel
set_option maxRecDepth 100000 in
theorem ax_f242 : ∀ w, ax_mw[242]? = some w → ax_mkb ax_q242 w = true := by
  intro w hw
  have e : w = (ax_mw[242]?).getD (0, 0, false, 0) := by rw [hw]; rfl
  subst e
  decide +kernel
set_option maxRecDepth 100000 in
theorem ax_e243 : ax_t243.all (fun e => ax_okb ax_q243 e) = true := by decide +kernel
set_option maxRecDepth 100000 in
theorem ax_f243 : ∀ w, ax_mw[243]? = some w → ax_mkb ax_q243 w = true := by
  intro w hw
  have e : w = (ax_mw[243]?).getD (0, 0, false, 0) := by rw [hw]; rfl
  subst e
  decide +kernel
set_option maxRecDepth 100000 in
theorem ax_e244 : ax_t244.all (fun e => ax_okb ax_q244 e) = true := by decide +kernel
set_option maxRecDepth 100000 in
theorem ax_f244 : ∀ w, ax_mw[244]? = some w → ax_mkb ax_q244 w = true := by
  intro w hw
  have e : w = (ax_mw[244]?).getD (0, 0, false, 0) := by rw [hw]; rfl
  subst e
  decide +kernel
set_option maxRecDepth 100000 in
theorem ax_e245 : ax_t245.all (fun e => ax_okb ax_q245 e) = true := by decide +kernel
set_option maxRecDepth 100000 in
theorem ax_f245 : ∀ w, ax_mw[245]? = some w → ax_mkb ax_q245 w = true := by
  intro w hw
  have e : w = (ax_mw[245]?).getD (0, 0, false, 0) := by rw [hw]; rfl
  subst e
  decide +kernel
set_option maxRecDepth 100000 in
theorem ax_e246 : ax_t246.all (fun e => ax_okb ax_q246 e) = true := by decide +kernel
set_option maxRecDepth 100000 in
theorem ax_f246 : ∀ w, ax_mw[246]? = some w → ax_mkb ax_q246 w = true := by
  intro w hw
  have e : w = (ax_mw[246]?).getD (0, 0, false, 0) := by rw [hw]; rfl
  subst e
  decide +kernel
set_option maxRecDepth 100000 in
theorem ax_e247 : ax_t247.all (fun e => ax_okb ax_q247 e) = true := by decide +kernel
set_option maxRecDepth 100000 in
theorem ax_f247 : ∀ w, ax_mw[247]? = some w → ax_mkb ax_q247 w = true := by
  intro w hw
  have e : w = (ax_mw[247]?).getD (0, 0, false, 0) := by rw [hw]; rfl
  subst e
  decide +kernel
set_option maxRecDepth 100000 in
theorem ax_e248 : ax_t248.all (fun e => ax_okb ax_q248 e) = true := by decide +kernel
set_option maxRecDepth 100000 in
theorem ax_f248 : ∀ w, ax_mw[248]? = some w → ax_mkb ax_q248 w = true := by
  intro w hw
  have e : w = (ax_mw[248]?).getD (0, 0, false, 0) := by rw [hw]; rfl
  subst e
  decide +kernel
set_option maxRecDepth 100000 in
theorem ax_e249 : ax_t249.all (fun e => ax_okb ax_q249 e) = true := by decide +kernel
set_option maxRecDepth 100000 in
theorem ax_f249 : ∀ w, ax_mw[249]? = some w → ax_mkb ax_q249 w = true := by
  intro w hw
  have e : w = (ax_mw[249]?).getD (0, 0, false, 0) := by rw [hw]; rfl
  subst e
  decide +kernel
set_option maxRecDepth 100000 in
theorem ax_e250 : ax_t250.all (fun e => ax_okb ax_q250 e) = true := by decide +kernel
set_option maxRecDepth 100000 in
theorem ax_f250 : ∀ w, ax_mw[250]? = some w → ax_mkb ax_q250 w = true := by
  intro w hw
  have e : w = (ax_mw[250]?).getD (0, 0, false, 0) := by rw [hw]; rfl
  subst e
  decide +kernel
set_option maxRecDepth 100000 in
theorem ax_e251 : ax_t251.all (fun e => ax_okb ax_q251 e) = true := by decide +kernel
set_option maxRecDepth 100000 in
theorem ax_f251 : ∀ w, ax_mw[251]? = some w → ax_mkb ax_q251 w = true := by
  intro w hw
  have e : w = (ax_mw[251]?).getD (0, 0, false, 0) := by rw [hw]; rfl
  subst e
  decide +kernel
set_option maxRecDepth 100000 in
theorem ax_e252 : ax_t252.all (fun e => ax_okb ax_q252 e) = true := by decide +kernel
set_option maxRecDepth 100000 in
theorem ax_f252 : ∀ w, ax_mw[252]? = some w → ax_mkb ax_q252 w = true := by
  intro w hw
  have e : w = (ax_mw[252]?).getD (0, 0, false, 0) := by rw [hw]; rfl
  subst e
  decide +kernel
set_option maxRecDepth 100000 in
theorem ax_e253 : ax_t253.all (fun e => ax_okb ax_q253 e) = true := by decide +kernel
set_option maxRecDepth 100000 in
theorem ax_f253 : ∀ w, ax_mw[253]? = some w → ax_mkb ax_q253 w = true := by
  intro w hw
  have e : w = (ax_mw[253]?).getD (0, 0, false, 0) := by rw [hw]; rfl
  subst e
  decide +kernel
set_option maxRecDepth 100000 in
theorem ax_e254 : ax_t254.all (fun e => ax_okb ax_q254 e) = true := by decide +kernel
set_option maxRecDepth 100000 in
theorem ax_f254 : ∀ w, ax_mw[254]? = some w → ax_mkb ax_q254 w = true := by
  intro w hw
  have e : w = (ax_mw[254]?).getD (0, 0, false, 0) := by rw [hw]; rfl
  subst e
  decide +kernel
set_option maxRecDepth 100000 in
theorem ax_e255 : ax_t255.all (fun e => ax_okb ax_q255 e) = true := by decide +kernel
set_option maxRecDepth 100000 in
theorem ax_f255 : ∀ w, ax_mw[255]? = some w → ax_mkb ax_q255 w = true := by
  intro w hw
  have e : w = (ax_mw[255]?).getD (0, 0, false, 0) := by rw [hw]; rfl
  subst e
  decide +kernel
set_option maxRecDepth 100000 in
theorem ax_e256 : ax_t256.all (fun e => ax_okb ax_q256 e) = true := by decide +kernel
set_option maxRecDepth 100000 in
theorem ax_f256 : ∀ w, ax_mw[256]? = some w → ax_mkb ax_q256 w = true := by
  intro w hw
  have e : w = (ax_mw[256]?).getD (0, 0, false, 0) := by rw [hw]; rfl
  subst e
  decide +kernel
set_option maxRecDepth 100000 in
theorem ax_e257 : ax_t257.all (fun e => ax_okb ax_q257 e) = true := by decide +kernel
set_option maxRecDepth 100000 in
theorem ax_f257 : ∀ w, ax_mw[257]? = some w → ax_mkb ax_q257 w = true := by
  intro w hw
  have e : w = (ax_mw[257]?).getD (0, 0, false, 0) := by rw [hw]; rfl
  subst e
  decide +kernel
set_option maxRecDepth 100000 in
theorem ax_e258_0 : ax_t258_0.all (fun e => ax_okb ax_q258 e) = true := by decide +kernel
set_option maxRecDepth 100000 in
theorem ax_e258_1 : ax_t258_1.all (fun e => ax_okb ax_q258 e) = true := by decide +kernel
set_option maxRecDepth 100000 in
theorem ax_e258_2 : ax_t258_2.all (fun e => ax_okb ax_q258 e) = true := by decide +kernel
set_option maxRecDepth 100000 in
theorem ax_e258_3 : ax_t258_3.all (fun e => ax_okb ax_q258 e) = true := by decide +kernel
set_option maxRecDepth 100000 in
theorem ax_e258_4 : ax_t258_4.all (fun e => ax_okb ax_q258 e) = true := by decide +kernel
set_option maxRecDepth 100000 in
theorem ax_e258_5 : ax_t258_5.all (fun e => ax_okb ax_q258 e) = true := by decide +kernel
set_option maxRecDepth 100000 in
theorem ax_e258_6 : ax_t258_6.all (fun e => ax_okb ax_q258 e) = true := by decide +kernel
theorem ax_e258 : ax_t258.all (fun e => ax_okb ax_q258 e) = true := by
  unfold ax_t258
  rw [List.all_append, List.all_append, List.all_append, List.all_append, List.all_append, List.all_append]
  rw [ax_e258_0, ax_e258_1, ax_e258_2, ax_e258_3, ax_e258_4, ax_e258_5, ax_e258_6]
  rfl
