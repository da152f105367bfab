/-! the rows of the linked code, 3 of 4 -/
set_option maxRecDepth 100000 in
theorem ax_e130 : ax_t130.all (fun e => ax_okb ax_q130 e) = true := by decide +kernel
set_option maxRecDepth 100000 in
theorem ax_f130 : ∀ w, ax_mw[130]? = some w → ax_mkb ax_q130 w = true := by
  intro w hw
  have e : w = (ax_mw[130]?).getD (0, 0, false, 0) := by rw [hw]; rfl
  subst e
  decide +kernel
set_option maxRecDepth 100000 in
theorem ax_e131 : ax_t131.all (fun e => ax_okb ax_q131 e) = true := by decide +kernel
set_option maxRecDepth 100000 in
theorem ax_f131 : ∀ w, ax_mw[131]? = some w → ax_mkb ax_q131 w = true := by
  intro w hw
  have e : w = (ax_mw[131]?).getD (0, 0, false, 0) := by rw [hw]; rfl
  subst e
  decide +kernel
set_option maxRecDepth 100000 in
theorem ax_e132 : ax_t132.all (fun e => ax_okb ax_q132 e) = true := by decide +kernel
set_option maxRecDepth 100000 in
theorem ax_f132 : ∀ w, ax_mw[132]? = some w → ax_mkb ax_q132 w = true := by
  intro w hw
  have e : w = (ax_mw[132]?).getD (0, 0, false, 0) := by rw [hw]; rfl
  subst e
  decide +kernel
set_option maxRecDepth 100000 in
theorem ax_e133 : ax_t133.all (fun e => ax_okb ax_q133 e) = true := by decide +kernel
set_option maxRecDepth 100000 in
theorem ax_f133 : ∀ w, ax_mw[133]? = some w → ax_mkb ax_q133 w = true := by
  intro w hw
  have e : w = (ax_mw[133]?).getD (0, 0, false, 0) := by rw [hw]; rfl
  subst e
  decide +kernel
set_option maxRecDepth 100000 in
theorem ax_e134 : ax_t134.all (fun e => ax_okb ax_q134 e) = true := by decide +kernel
set_option maxRecDepth 100000 in
theorem ax_f134 : ∀ w, ax_mw[134]? = some w → ax_mkb ax_q134 w = true := by
  intro w hw
  have e : w = (ax_mw[134]?).getD (0, 0, false, 0) := by rw [hw]; rfl
  subst e
  decide +kernel
set_option maxRecDepth 100000 in
theorem ax_e135 : ax_t135.all (fun e => ax_okb ax_q135 e) = true := by decide +kernel
set_option maxRecDepth 100000 in
theorem ax_f135 : ∀ w, ax_mw[135]? = some w → ax_mkb ax_q135 w = true := by
  intro w hw
  have e : w = (ax_mw[135]?).getD (0, 0, false, 0) := by rw [hw]; rfl
  subst e
  decide +kernel
set_option maxRecDepth 100000 in
theorem ax_e136 : ax_t136.all (fun e => ax_okb ax_q136 e) = true := by decide +kernel
set_option maxRecDepth 100000 in
theorem ax_f136 : ∀ w, ax_mw[136]? = some w → ax_mkb ax_q136 w = true := by
  intro w hw
  have e : w = (ax_mw[136]?).getD (0, 0, false, 0) := by rw [hw]; rfl
  subst e
  decide +kernel
set_option maxRecDepth 100000 in
theorem ax_e137 : ax_t137.all (fun e => ax_okb ax_q137 e) = true := by decide +kernel
set_option maxRecDepth 100000 in
theorem ax_f137 : ∀ w, ax_mw[137]? = some w → ax_mkb ax_q137 w = true := by
  intro w hw
  have e : w = (ax_mw[137]?).getD (0, 0, false, 0) := by rw [hw]; rfl
  subst e
  decide +kernel
set_option maxRecDepth 100000 in
theorem ax_e138 : ax_t138.all (fun e => ax_okb ax_q138 e) = true := by decide +kernel
set_option maxRecDepth 100000 in
theorem ax_f138 : ∀ w, ax_mw[138]? = some w → ax_mkb ax_q138 w = true := by
  intro w hw
  have e : w = (ax_mw[138]?).getD (0, 0, false, 0) := by rw [hw]; rfl
  subst e
  decide +kernel
set_option maxRecDepth 100000 in
theorem ax_e139 : ax_t139.all (fun e => ax_okb ax_q139 e) = true := by decide +kernel
set_option maxRecDepth 100000 in
theorem ax_f139 : ∀ w, ax_mw[139]? = some w → ax_mkb ax_q139 w = true := by
  intro w hw
  have e : w = (ax_mw[139]?).getD (0, 0, false, 0) := by rw [hw]; rfl
  subst e
  decide +kernel
set_option maxRecDepth 100000 in
theorem ax_e140 : ax_t140.all (fun e => ax_okb ax_q140 e) = true := by decide +kernel
set_option maxRecDepth 100000 in
theorem ax_f140 : ∀ w, ax_mw[140]? = some w → ax_mkb ax_q140 w = true := by
  intro w hw
  have e : w = (ax_mw[140]?).getD (0, 0, false, 0) := by rw [hw]; rfl
  subst e
  decide +kernel
set_option maxRecDepth 100000 in
theorem ax_e141 : ax_t141.all (fun e => ax_okb ax_q141 e) = true := by decide +kernel
set_option maxRecDepth 100000 in
theorem ax_f141 : ∀ w, ax_mw[141]? = some w → ax_mkb ax_q141 w = true := by
  intro w hw
  have e : w = (ax_mw[141]?).getD (0, 0, false, 0) := by rw [hw]; rfl
  subst e
  decide +kernel
set_option maxRecDepth 100000 in
theorem ax_e142 : ax_t142.all (fun e => ax_okb ax_q142 e) = true := by decide +kernel
set_option maxRecDepth 100000 in
theorem ax_f142 : ∀ w, ax_mw[142]? = some w → ax_mkb ax_q142 w = true := by
  intro w hw
  have e : w = (ax_mw[142]?).getD (0, 0, false, 0) := by rw [hw]; rfl
  subst e
  decide +kernel
set_option maxRecDepth 100000 in
theorem ax_e143 : ax_t143.all (fun e => ax_okb ax_q143 e) = true := by decide +kernel
set_option maxRecDepth 100000 in
theorem ax_f143 : ∀ w, ax_mw[143]? = some w → ax_mkb ax_q143 w = true := by
  intro w hw
  have e : w = (ax_mw[143]?).getD (0, 0, false, 0) := by rw [hw]; rfl
  subst e
  decide +kernel
set_option maxRecDepth 100000 in
theorem ax_e144 : ax_t144.all (fun e => ax_okb ax_q144 e) = true := by decide +kernel
set_option maxRecDepth 100000 in
theorem ax_f144 : ∀ w, ax_mw[144]? = some w → ax_mkb ax_q144 w = true := by
  intro w hw
  have e : w = (ax_mw[144]?).getD (0, 0, false, 0) := by rw [hw]; rfl
  subst e
  decide +kernel
set_option maxRecDepth 100000 in
theorem ax_e145 : ax_t145.all (fun e => ax_okb ax_q145 e) = true := by decide +kernel
set_option maxRecDepth 100000 in
theorem ax_f145 : ∀ w, ax_mw[145]? = some w → ax_mkb ax_q145 w = true := by
  intro w hw
  have e : w = (ax_mw[145]?).getD (0, 0, false, 0) := by rw [hw]; rfl
  subst e
  decide +kernel
set_option maxRecDepth 100000 in
theorem ax_e146 : ax_t146.all (fun e => ax_okb ax_q146 e) = true := by decide +kernel
set_option maxRecDepth 100000 in
theorem ax_f146 : ∀ w, ax_mw[146]? = some w → ax_mkb ax_q146 w = true := by
  intro w hw
  have e : w = (ax_mw[146]?).getD (0, 0, false, 0) := by rw [hw]; rfl
  subst e
  decide +kernel
set_option maxRecDepth 100000 in
theorem ax_e147 : ax_t147.all (fun e => ax_okb ax_q147 e) = true := by decide +kernel
set_option maxRecDepth 100000 in
theorem ax_f147 : ∀ w, ax_mw[147]? = some w → ax_mkb ax_q147 w = true := by
  intro w hw
  have e : w = (ax_mw[147]?).getD (0, 0, false, 0) := by rw [hw]; rfl
  subst e
  decide +kernel
set_option maxRecDepth 100000 in
theorem ax_e148 : ax_t148.all (fun e => ax_okb ax_q148 e) = true := by decide +kernel
set_option maxRecDepth 100000 in
theorem ax_f148 : ∀ w, ax_mw[148]? = some w → ax_mkb ax_q148 w = true := by
  intro w hw
  have e : w = (ax_mw[148]?).getD (0, 0, false, 0) := by rw [hw]; rfl
  subst e
  decide +kernel
set_option maxRecDepth 100000 in
theorem ax_e149 : ax_t149.all (fun e => ax_okb ax_q149 e) = true := by decide +kernel
set_option maxRecDepth 100000 in
theorem ax_f149 : ∀ w, ax_mw[149]? = some w → ax_mkb ax_q149 w = true := by
  intro w hw
  have e : w = (ax_mw[149]?).getD (0, 0, false, 0) := by rw [hw]; rfl
  subst e
  decide +kernel
set_option maxRecDepth 100000 in
theorem ax_e150 : ax_t150.all (fun e => ax_okb ax_q150 e) = true := by decide +kernel
set_option maxRecDepth 100000 in
theorem ax_f150 : ∀ w, ax_mw[150]? = some w → ax_mkb ax_q150 w = true := by
  intro w hw
  have e : w = (ax_mw[150]?).getD (0, 0, false, 0) := by rw [hw]; rfl
  subst e
  decide +kernel
set_option maxRecDepth 100000 in
theorem ax_e151 : ax_t151.all (fun e => ax_okb ax_q151 e) = true := by decide +kernel
set_option maxRecDepth 100000 in
theorem ax_f151 : ∀ w, ax_mw[151]? = some w → ax_mkb ax_q151 w = true := by
  intro w hw
  have e : w = (ax_mw[151]?).getD (0, 0, false, 0) := by rw [hw]; rfl
  subst e
  decide +kernel
set_option maxRecDepth 100000 in
theorem ax_e152 : ax_t152.all (fun e => ax_okb ax_q152 e) = true := by decide +kernel
set_option maxRecDepth 100000 in
theorem ax_f152 : ∀ w, ax_mw[152]? = some w → ax_mkb ax_q152 w = true := by
  intro w hw
  have e : w = (ax_mw[152]?).getD (0, 0, false, 0) := by rw [hw]; rfl
  subst e
  decide +kernel
set_option maxRecDepth 100000 in
theorem ax_e153 : ax_t153.all (fun e => ax_okb ax_q153 e) = true := by decide +kernel
set_option maxRecDepth 100000 in
theorem ax_f153 : ∀ w, ax_mw[153]? = some w → ax_mkb ax_q153 w = true := by
  intro w hw
  have e : w = (ax_mw[153]?).getD (0, 0, false, 0) := by rw [hw]; rfl
  subst e
  decide +kernel
set_option maxRecDepth 100000 in
theorem ax_e154 : ax_t154.all (fun e => ax_okb ax_q154 e) = true := by decide +kernel
set_option maxRecDepth 100000 in
theorem ax_f154 : ∀ w, ax_mw[154]? = some w → ax_mkb ax_q154 w = true := by
  intro w hw
  have e : w = (ax_mw[154]?).getD (0, 0, false, 0) := by rw [hw]; rfl
  subst e
  decide +kernel
set_option maxRecDepth 100000 in
theorem ax_e155 : ax_t155.all (fun e => ax_okb ax_q155 e) = true := by decide +kernel
set_option maxRecDepth 100000 in
theorem ax_f155 : ∀ w, ax_mw[155]? = some w → ax_mkb ax_q155 w = true := by
  intro w hw
  have e : w = (ax_mw[155]?).getD (0, 0, false, 0) := by rw [hw]; rfl
  subst e
  decide +kernel
set_option maxRecDepth 100000 in
theorem ax_e156 : ax_t156.all (fun e => ax_okb ax_q156 e) = true := by decide +kernel
set_option maxRecDepth 100000 in
theorem ax_f156 : ∀ w, ax_mw[156]? = some w → ax_mkb ax_q156 w = true := by
  intro w hw
  have e : w = (ax_mw[156]?).getD (0, 0, false, 0) := by rw [hw]; rfl
  subst e
  decide +kernel
set_option maxRecDepth 100000 in
theorem ax_e157 : ax_t157.all (fun e => ax_okb ax_q157 e) = true := by decide +kernel
set_option maxRecDepth 100000 in
theorem ax_f157 : ∀ w, ax_mw[157]? = some w → ax_mkb ax_q157 w = true := by
  intro w hw
  have e : w = (ax_mw[157]?).getD (0, 0, false, 0) := by rw [hw]; rfl
  subst e
  decide +kernel
set_option maxRecDepth 100000 in
theorem ax_e158 : ax_t158.all (fun e => ax_okb ax_q158 e) = true := by decide +kernel
set_option maxRecDepth 100000 in
theorem ax_f158 : ∀ w, ax_mw[158]? = some w → ax_mkb ax_q158 w = true := by
  intro w hw
  have e : w = (ax_mw[158]?).getD (0, 0, false, 0) := by rw [hw]; rfl
  subst e
  decide +kernel
set_option maxRecDepth 100000 in
theorem ax_e159 : ax_t159.all (fun e => ax_okb ax_q159 e) = true := by decide +kernel
set_option maxRecDepth 100000 in
theorem ax_f159 : ∀ w, ax_mw[159]? = some w → ax_mkb ax_q159 w = true := by
  intro w hw
  have e : w = (ax_mw[159]?).getD (0, 0, false, 0) := by rw [hw]; rfl
  subst e
  decide +kernel
set_option maxRecDepth 100000 in
theorem ax_e160 : ax_t160.all (fun e => ax_okb ax_q160 e) = true := by decide +kernel
set_option maxRecDepth 100000 in
theorem ax_f160 : ∀ w, ax_mw[160]? = some w → ax_mkb ax_q160 w = true := by
  intro w hw
  have e : w = (ax_mw[160]?).getD (0, 0, false, 0) := by rw [hw]; rfl
  subst e
  decide +kernel
set_option maxRecDepth 100000 in
theorem ax_e161 : ax_t161.all (fun e => ax_okb ax_q161 e) = true := by decide +kernel
set_option maxRecDepth 100000 in
theorem ax_f161 : ∀ w, ax_mw[161]? = some w → ax_mkb ax_q161 w = true := by
  intro w hw
  have e : w = (ax_mw[161]?).getD (0, 0, false, 0) := by rw [hw]; rfl
  subst e
  decide +kernel
set_option maxRecDepth 100000 in
theorem ax_e162 : ax_t162.all (fun e => ax_okb ax_q162 e) = true := by decide +kernel
set_option maxRecDepth 100000 in
theorem ax_f162 : ∀ w, ax_mw[162]? = some w → ax_mkb ax_q162 w = true := by
  intro w hw
  have e : w = (ax_mw[162]?).getD (0, 0, false, 0) := by rw [hw]; rfl
  subst e
  decide +kernel
set_option maxRecDepth 100000 in
theorem ax_e163 : ax_t163.all (fun e => ax_okb ax_q163 e) = true := by decide +kernel
set_option maxRecDepth 100000 in
theorem ax_f163 : ∀ w, ax_mw[163]? = some w → ax_mkb ax_q163 w = true := by
  intro w hw
  have e : w = (ax_mw[163]?).getD (0, 0, false, 0) := by rw [hw]; rfl
  subst e
  decide +kernel
set_option maxRecDepth 100000 in
theorem ax_e164 : ax_t164.all (fun e => ax_okb ax_q164 e) = true := by decide +kernel
set_option maxRecDepth 100000 in
theorem ax_f164 : ∀ w, ax_mw[164]? = some w → ax_mkb ax_q164 w = true := by
  intro w hw
  have e : w = (ax_mw[164]?).getD (0, 0, false, 0) := by rw [hw]; rfl
  subst e
  decide +kernel
set_option maxRecDepth 100000 in
theorem ax_e165 : ax_t165.all (fun e => ax_okb ax_q165 e) = true := by decide +kernel
set_option maxRecDepth 100000 in
theorem ax_f165 : ∀ w, ax_mw[165]? = some w → ax_mkb ax_q165 w = true := by
  intro w hw
  have e : w = (ax_mw[165]?).getD (0, 0, false, 0) := by rw [hw]; rfl
  subst e
  decide +kernel
set_option maxRecDepth 100000 in
theorem ax_e166 : ax_t166.all (fun e => ax_okb ax_q166 e) = true := by decide +kernel
set_option maxRecDepth 100000 in
theorem ax_f166 : ∀ w, ax_mw[166]? = some w → ax_mkb ax_q166 w = true := by
  intro w hw
  have e : w = (ax_mw[166]?).getD (0, 0, false, 0) := by rw [hw]; rfl
  subst e
  decide +kernel
set_option maxRecDepth 100000 in
theorem ax_e167 : ax_t167.all (fun e => ax_okb ax_q167 e) = true := by decide +kernel
set_option maxRecDepth 100000 in
theorem ax_f167 : ∀ w, ax_mw[167]? = some w → ax_mkb ax_q167 w = true := by
  intro w hw
  have e : w = (ax_mw[167]?).getD (0, 0, false, 0) := by rw [hw]; rfl
  subst e
  decide +kernel
set_option maxRecDepth 100000 in
theorem ax_e168 : ax_t168.all (fun e => ax_okb ax_q168 e) = true := by decide +kernel
set_option maxRecDepth 100000 in
theorem ax_f168 : ∀ w, ax_mw[168]? = some w → ax_mkb ax_q168 w = true := by
  intro w hw
  have e : w = (ax_mw[168]?).getD (0, 0, false, 0) := by rw [hw]; rfl
  subst e
  decide +kernel
set_option maxRecDepth 100000 in
theorem ax_e169 : ax_t169.all (fun e => ax_okb ax_q169 e) = true := by decide +kernel
set_option maxRecDepth 100000 in
theorem ax_f169 : ∀ w, ax_mw[169]? = some w → ax_mkb ax_q169 w = true := by
  intro w hw
  have e : w = (ax_mw[169]?).getD (0, 0, false, 0) := by rw [hw]; rfl
  subst e
  decide +kernel
set_option maxRecDepth 100000 in
theorem ax_e170 : ax_t170.all (fun e => ax_okb ax_q170 e) = true := by decide +kernel
set_option maxRecDepth 100000 in
theorem ax_f170 : ∀ w, ax_mw[170]? = some w → ax_mkb ax_q170 w = true := by
  intro w hw
  have e : w = (ax_mw[170]?).getD (0, 0, false, 0) := by rw [hw]; rfl
  subst e
  decide +kernel
set_option maxRecDepth 100000 in
theorem ax_e171 : ax_t171.all (fun e => ax_okb ax_q171 e) = true := by decide +kernel
set_option maxRecDepth 100000 in
theorem ax_f171 : ∀ w, ax_mw[171]? = some w → ax_mkb ax_q171 w = true := by
  intro w hw
  have e : w = (ax_mw[171]?).getD (0, 0, false, 0) := by rw [hw]; rfl
  subst e
  decide +kernel
set_option maxRecDepth 100000 in
theorem ax_e172 : ax_t172.all (fun e => ax_okb ax_q172 e) = true := by decide +kernel
set_option maxRecDepth 100000 in
theorem ax_f172 : ∀ w, ax_mw[172]? = some w → ax_mkb ax_q172 w = true := by
  intro w hw
  have e : w = (ax_mw[172]?).getD (0, 0, false, 0) := by rw [hw]; rfl
  subst e
  decide +kernel
set_option maxRecDepth 100000 in
theorem ax_e173 : ax_t173.all (fun e => ax_okb ax_q173 e) = true := by decide +kernel
set_option maxRecDepth 100000 in
theorem ax_f173 : ∀ w, ax_mw[173]? = some w → ax_mkb ax_q173 w = true := by
  intro w hw
  have e : w = (ax_mw[173]?).getD (0, 0, false, 0) := by rw [hw]; rfl
  subst e
  decide +kernel
set_option maxRecDepth 100000 in
theorem ax_e174 : ax_t174.all (fun e => ax_okb ax_q174 e) = true := by decide +kernel
set_option maxRecDepth 100000 in
theorem ax_f174 : ∀ w, ax_mw[174]? = some w → ax_mkb ax_q174 w = true := by
  intro w hw
  have e : w = (ax_mw[174]?).getD (0, 0, false, 0) := by rw [hw]; rfl
  subst e
  decide +kernel
set_option maxRecDepth 100000 in
theorem ax_e175 : ax_t175.all (fun e => ax_okb ax_q175 e) = true := by decide +kernel
set_option maxRecDepth 100000 in
theorem ax_f175 : ∀ w, ax_mw[175]? = some w → ax_mkb ax_q175 w = true := by
  intro w hw
  have e : w = (ax_mw[175]?).getD (0, 0, false, 0) := by rw [hw]; rfl
  subst e
  decide +kernel
set_option maxRecDepth 100000 in
theorem ax_e176 : ax_t176.all (fun e => ax_okb ax_q176 e) = true := by decide +kernel
set_option maxRecDepth 100000 in
theorem ax_f176 : ∀ w, ax_mw[176]? = some w → ax_mkb ax_q176 w = true := by
  intro w hw
  have e : w = (ax_mw[176]?).getD (0, 0, false, 0) := by rw [hw]; rfl
  subst e
  decide +kernel
set_option maxRecDepth 100000 in
theorem ax_e177 : ax_t177.all (fun e => ax_okb ax_q177 e) = true := by decide +kernel
set_option maxRecDepth 100000 in
theorem ax_f177 : ∀ w, ax_mw[177]? = some w → ax_mkb ax_q177 w = true := by
  intro w hw
  have e : w = (ax_mw[177]?).getD (0, 0, false, 0) := by rw [hw]; rfl
  subst e
  decide +kernel
set_option maxRecDepth 100000 in
theorem ax_e178 : ax_t178.all (fun e => ax_okb ax_q178 e) = true := by decide +kernel
set_option maxRecDepth 100000 in
theorem ax_f178 : ∀ w, ax_mw[178]? = some w → ax_mkb ax_q178 w = true := by
  intro w hw
  have e : w = (ax_mw[178]?).getD (0, 0, false, 0) := by rw [hw]; rfl
  subst e
  decide +kernel
set_option maxRecDepth 100000 in
theorem ax_e179 : ax_t179.all (fun e => ax_okb ax_q179 e) = true := by decide +kernel
set_option maxRecDepth 100000 in
theorem ax_f179 : ∀ w, ax_mw[179]? = some w → ax_mkb ax_q179 w = true := by
  intro w hw
  have e : w = (ax_mw[179]?).getD (0, 0, false, 0) := by rw [hw]; rfl
  subst e
  decide +kernel
set_option maxRecDepth 100000 in
theorem ax_e180 : ax_t180.all (fun e => ax_okb ax_q180 e) = true := by decide +kernel
set_option maxRecDepth 100000 in
theorem ax_f180 : ∀ w, ax_mw[180]? = some w → ax_mkb ax_q180 w = true := by
  intro w hw
  have e : w = (ax_mw[180]?).getD (0, 0, false, 0) := by rw [hw]; rfl
  subst e
  decide +kernel
set_option maxRecDepth 100000 in
theorem ax_e181 : ax_t181.all (fun e => ax_okb ax_q181 e) = true := by decide +kernel
set_option maxRecDepth 100000 in
theorem ax_f181 : ∀ w, ax_mw[181]? = some w → ax_mkb ax_q181 w = true := by
  intro w hw
  have e : w = (ax_mw[181]?).getD (0, 0, false, 0) := by rw [hw]; rfl
  subst e
  decide +kernel
set_option maxRecDepth 100000 in
theorem ax_e182 : ax_t182.all (fun e => ax_okb ax_q182 e) = true := by decide +kernel
set_option maxRecDepth 100000 in
theorem ax_f182 : ∀ w, ax_mw[182]? = some w → ax_mkb ax_q182 w = true := by
  intro w hw
  have e : w = (ax_mw[182]?).getD (0, 0, false, 0) := by rw [hw]; rfl
  subst e
  decide +kernel
set_option maxRecDepth 100000 in
theorem ax_e183 : ax_t183.all (fun e => ax_okb ax_q183 e) = true := by decide +kernel
set_option maxRecDepth 100000 in
theorem ax_f183 : ∀ w, ax_mw[183]? = some w → ax_mkb ax_q183 w = true := by
  intro w hw
  have e : w = (ax_mw[183]?).getD (0, 0, false, 0) := by rw [hw]; rfl
  subst e
  decide +kernel
set_option maxRecDepth 100000 in
theorem ax_e184 : ax_t184.all (fun e => ax_okb ax_q184 e) = true := by decide +kernel
set_option maxRecDepth 100000 in
theorem ax_f184 : ∀ w, ax_mw[184]? = some w → ax_mkb ax_q184 w = true := by
  intro w hw
  have e : w = (ax_mw[184]?).getD (0, 0, false, 0) := by rw [hw]; rfl
  subst e
  decide +kernel
set_option maxRecDepth 100000 in
theorem ax_e185 : ax_t185.all (fun e => ax_okb ax_q185 e) = true := by decide +kernel
set_option maxRecDepth 100000 in
theorem ax_f185 : ∀ w, ax_mw[185]? = some w → ax_mkb ax_q185 w = true := by
  intro w hw
  have e : w = (ax_mw[185]?).getD (0, 0, false, 0) := by rw [hw]; rfl
  subst e
  decide +kernel
set_option maxRecDepth 100000 in
theorem ax_e186 : ax_t186.all (fun e => ax_okb ax_q186 e) = true := by decide +kernel
set_option maxRecDepth 100000 in
theorem ax_f186 : ∀ w, ax_mw[186]? = some w → ax_mkb ax_q186 w = true := by
  intro w hw
  have e : w = (ax_mw[186]?).getD (0, 0, false, 0) := by rw [hw]; rfl
  subst e
  decide +kernel
set_option maxRecDepth 100000 in
theorem ax_e187 : ax_t187.all (fun e => ax_okb ax_q187 e) = true := by decide +kernel
set_option maxRecDepth 100000 in
theorem ax_f187 : ∀ w, ax_mw[187]? = some w → ax_mkb ax_q187 w = true := by
  intro w hw
  have e : w = (ax_mw[187]?).getD (0, 0, false, 0) := by rw [hw]; rfl
  subst e
  decide +kernel
set_option maxRecDepth 100000 in
theorem ax_e188 : ax_t188.all (fun e => ax_okb ax_q188 e) = true := by decide +kernel
set_option maxRecDepth 100000 in
theorem ax_f188 : ∀ w, ax_mw[188]? = some w → ax_mkb ax_q188 w = true := by
  intro w hw
  have e : w = (ax_mw[188]?).getD (0, 0, false, 0) := by rw [hw]; rfl
  subst e
  decide +kernel
set_option maxRecDepth 100000 in
theorem ax_e189 : ax_t189.all (fun e => ax_okb ax_q189 e) = true := by decide +kernel
set_option maxRecDepth 100000 in
theorem ax_f189 : ∀ w, ax_mw[189]? = some w → ax_mkb ax_q189 w = true := by
  intro w hw
  have e : w = (ax_mw[189]?).getD (0, 0, false, 0) := by rw [hw]; rfl
  subst e
  decide +kernel
set_option maxRecDepth 100000 in
theorem ax_e190 : ax_t190.all (fun e => ax_okb ax_q190 e) = true := by decide +kernel
set_option maxRecDepth 100000 in
theorem ax_f190 : ∀ w, ax_mw[190]? = some w → ax_mkb ax_q190 w = true := by
  intro w hw
  have e : w = (ax_mw[190]?).getD (0, 0, false, 0) := by rw [hw]; rfl
  subst e
  decide +kernel
set_option maxRecDepth 100000 in
theorem ax_e191 : ax_t191.all (fun e => ax_okb ax_q191 e) = true := by decide +kernel
set_option maxRecDepth 100000 in
theorem ax_f191 : ∀ w, ax_mw[191]? = some w → ax_mkb ax_q191 w = true := by
  intro w hw
  have e : w = (ax_mw[191]?).getD (0, 0, false, 0) := by rw [hw]; rfl
  subst e
  decide +kernel
set_option maxRecDepth 100000 in
theorem ax_e192 : ax_t192.all (fun e => ax_okb ax_q192 e) = true := by decide +kernel
set_option maxRecDepth 100000 in
theorem ax_f192 : ∀ w, ax_mw[192]? = some w → ax_mkb ax_q192 w = true := by
  intro w hw
  have e : w = (ax_mw[192]?).getD (0, 0, false, 0) := by rw [hw]; rfl
  subst e
  decide +kernel
set_option maxRecDepth 100000 in
theorem ax_e193 : ax_t193.all (fun e => ax_okb ax_q193 e) = true := by decide +kernel
set_option maxRecDepth 100000 in
theorem ax_f193 : ∀ w, ax_mw[193]? = some w → ax_mkb ax_q193 w = true := by
  intro w hw
  have e : w = (ax_mw[193]?).getD (0, 0, false, 0) := by rw [hw]; rfl
  subst e
  decide +kernel
set_option maxRecDepth 100000 in
theorem ax_e194 : ax_t194.all (fun e => ax_okb ax_q194 e) = true := by decide +kernel
set_option maxRecDepth 100000 in
theorem ax_f194 : ∀ w, ax_mw[194]? = some w → ax_mkb ax_q194 w = true := by
  intro w hw
  have e : w = (ax_mw[194]?).getD (0, 0, false, 0) := by rw [hw]; rfl
  subst e
  decide +kernel
