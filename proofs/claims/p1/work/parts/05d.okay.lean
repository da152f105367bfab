/-! the rows of the linked code, 3 of 4 -/
set_option maxRecDepth 100000 in
theorem ax_e129 : ax_t129.All (fun pc e => ax_okb ax_q129 pc e = true) := ax_Tr.allb_ok (by decide +kernel)
set_option maxRecDepth 100000 in
theorem ax_e130 : ax_t130.All (fun pc e => ax_okb ax_q130 pc e = true) := ax_Tr.allb_ok (by decide +kernel)
set_option maxRecDepth 100000 in
theorem ax_e131 : ax_t131.All (fun pc e => ax_okb ax_q131 pc e = true) := ax_Tr.allb_ok (by decide +kernel)
set_option maxRecDepth 100000 in
theorem ax_e132 : ax_t132.All (fun pc e => ax_okb ax_q132 pc e = true) := ax_Tr.allb_ok (by decide +kernel)
set_option maxRecDepth 100000 in
theorem ax_e133 : ax_t133.All (fun pc e => ax_okb ax_q133 pc e = true) := ax_Tr.allb_ok (by decide +kernel)
set_option maxRecDepth 100000 in
theorem ax_e134 : ax_t134.All (fun pc e => ax_okb ax_q134 pc e = true) := ax_Tr.allb_ok (by decide +kernel)
set_option maxRecDepth 100000 in
theorem ax_e135 : ax_t135.All (fun pc e => ax_okb ax_q135 pc e = true) := ax_Tr.allb_ok (by decide +kernel)
set_option maxRecDepth 100000 in
theorem ax_e136 : ax_t136.All (fun pc e => ax_okb ax_q136 pc e = true) := ax_Tr.allb_ok (by decide +kernel)
set_option maxRecDepth 100000 in
theorem ax_e137 : ax_t137.All (fun pc e => ax_okb ax_q137 pc e = true) := ax_Tr.allb_ok (by decide +kernel)
set_option maxRecDepth 100000 in
theorem ax_e138 : ax_t138.All (fun pc e => ax_okb ax_q138 pc e = true) := ax_Tr.allb_ok (by decide +kernel)
set_option maxRecDepth 100000 in
theorem ax_e139 : ax_t139.All (fun pc e => ax_okb ax_q139 pc e = true) := ax_Tr.allb_ok (by decide +kernel)
set_option maxRecDepth 100000 in
theorem ax_e140 : ax_t140.All (fun pc e => ax_okb ax_q140 pc e = true) := ax_Tr.allb_ok (by decide +kernel)
set_option maxRecDepth 100000 in
theorem ax_e141 : ax_t141.All (fun pc e => ax_okb ax_q141 pc e = true) := ax_Tr.allb_ok (by decide +kernel)
set_option maxRecDepth 100000 in
theorem ax_e142 : ax_t142.All (fun pc e => ax_okb ax_q142 pc e = true) := ax_Tr.allb_ok (by decide +kernel)
set_option maxRecDepth 100000 in
theorem ax_e143 : ax_t143.All (fun pc e => ax_okb ax_q143 pc e = true) := ax_Tr.allb_ok (by decide +kernel)
set_option maxRecDepth 100000 in
theorem ax_e144 : ax_t144.All (fun pc e => ax_okb ax_q144 pc e = true) := ax_Tr.allb_ok (by decide +kernel)
set_option maxRecDepth 100000 in
theorem ax_e145 : ax_t145.All (fun pc e => ax_okb ax_q145 pc e = true) := ax_Tr.allb_ok (by decide +kernel)
set_option maxRecDepth 100000 in
theorem ax_e146 : ax_t146.All (fun pc e => ax_okb ax_q146 pc e = true) := ax_Tr.allb_ok (by decide +kernel)
set_option maxRecDepth 100000 in
theorem ax_e147 : ax_t147.All (fun pc e => ax_okb ax_q147 pc e = true) := ax_Tr.allb_ok (by decide +kernel)
set_option maxRecDepth 100000 in
theorem ax_e148 : ax_t148.All (fun pc e => ax_okb ax_q148 pc e = true) := ax_Tr.allb_ok (by decide +kernel)
set_option maxRecDepth 100000 in
theorem ax_e149 : ax_t149.All (fun pc e => ax_okb ax_q149 pc e = true) := ax_Tr.allb_ok (by decide +kernel)
set_option maxRecDepth 100000 in
theorem ax_e150 : ax_t150.All (fun pc e => ax_okb ax_q150 pc e = true) := ax_Tr.allb_ok (by decide +kernel)
set_option maxRecDepth 100000 in
theorem ax_e151 : ax_t151.All (fun pc e => ax_okb ax_q151 pc e = true) := ax_Tr.allb_ok (by decide +kernel)
set_option maxRecDepth 100000 in
theorem ax_e152 : ax_t152.All (fun pc e => ax_okb ax_q152 pc e = true) := ax_Tr.allb_ok (by decide +kernel)
set_option maxRecDepth 100000 in
theorem ax_e153 : ax_t153.All (fun pc e => ax_okb ax_q153 pc e = true) := ax_Tr.allb_ok (by decide +kernel)
set_option maxRecDepth 100000 in
theorem ax_e154 : ax_t154.All (fun pc e => ax_okb ax_q154 pc e = true) := ax_Tr.allb_ok (by decide +kernel)
set_option maxRecDepth 100000 in
theorem ax_e155 : ax_t155.All (fun pc e => ax_okb ax_q155 pc e = true) := ax_Tr.allb_ok (by decide +kernel)
set_option maxRecDepth 100000 in
theorem ax_e156 : ax_t156.All (fun pc e => ax_okb ax_q156 pc e = true) := ax_Tr.allb_ok (by decide +kernel)
set_option maxRecDepth 100000 in
theorem ax_e157 : ax_t157.All (fun pc e => ax_okb ax_q157 pc e = true) := ax_Tr.allb_ok (by decide +kernel)
set_option maxRecDepth 100000 in
theorem ax_e158 : ax_t158.All (fun pc e => ax_okb ax_q158 pc e = true) := ax_Tr.allb_ok (by decide +kernel)
set_option maxRecDepth 100000 in
theorem ax_e159 : ax_t159.All (fun pc e => ax_okb ax_q159 pc e = true) := ax_Tr.allb_ok (by decide +kernel)
set_option maxRecDepth 100000 in
theorem ax_e160 : ax_t160.All (fun pc e => ax_okb ax_q160 pc e = true) := ax_Tr.allb_ok (by decide +kernel)
set_option maxRecDepth 100000 in
theorem ax_e161 : ax_t161.All (fun pc e => ax_okb ax_q161 pc e = true) := ax_Tr.allb_ok (by decide +kernel)
set_option maxRecDepth 100000 in
theorem ax_e162 : ax_t162.All (fun pc e => ax_okb ax_q162 pc e = true) := ax_Tr.allb_ok (by decide +kernel)
set_option maxRecDepth 100000 in
theorem ax_e163 : ax_t163.All (fun pc e => ax_okb ax_q163 pc e = true) := ax_Tr.allb_ok (by decide +kernel)
set_option maxRecDepth 100000 in
theorem ax_e164 : ax_t164.All (fun pc e => ax_okb ax_q164 pc e = true) := ax_Tr.allb_ok (by decide +kernel)
set_option maxRecDepth 100000 in
theorem ax_e165 : ax_t165.All (fun pc e => ax_okb ax_q165 pc e = true) := ax_Tr.allb_ok (by decide +kernel)
set_option maxRecDepth 100000 in
theorem ax_e166 : ax_t166.All (fun pc e => ax_okb ax_q166 pc e = true) := ax_Tr.allb_ok (by decide +kernel)
set_option maxRecDepth 100000 in
theorem ax_e167 : ax_t167.All (fun pc e => ax_okb ax_q167 pc e = true) := ax_Tr.allb_ok (by decide +kernel)
set_option maxRecDepth 100000 in
theorem ax_e168 : ax_t168.All (fun pc e => ax_okb ax_q168 pc e = true) := ax_Tr.allb_ok (by decide +kernel)
set_option maxRecDepth 100000 in
theorem ax_e169 : ax_t169.All (fun pc e => ax_okb ax_q169 pc e = true) := ax_Tr.allb_ok (by decide +kernel)
set_option maxRecDepth 100000 in
theorem ax_e170 : ax_t170.All (fun pc e => ax_okb ax_q170 pc e = true) := ax_Tr.allb_ok (by decide +kernel)
set_option maxRecDepth 100000 in
theorem ax_e171 : ax_t171.All (fun pc e => ax_okb ax_q171 pc e = true) := ax_Tr.allb_ok (by decide +kernel)
set_option maxRecDepth 100000 in
theorem ax_e172 : ax_t172.All (fun pc e => ax_okb ax_q172 pc e = true) := ax_Tr.allb_ok (by decide +kernel)
set_option maxRecDepth 100000 in
theorem ax_e173 : ax_t173.All (fun pc e => ax_okb ax_q173 pc e = true) := ax_Tr.allb_ok (by decide +kernel)
set_option maxRecDepth 100000 in
theorem ax_e174 : ax_t174.All (fun pc e => ax_okb ax_q174 pc e = true) := ax_Tr.allb_ok (by decide +kernel)
set_option maxRecDepth 100000 in
theorem ax_e175 : ax_t175.All (fun pc e => ax_okb ax_q175 pc e = true) := ax_Tr.allb_ok (by decide +kernel)
set_option maxRecDepth 100000 in
theorem ax_e176 : ax_t176.All (fun pc e => ax_okb ax_q176 pc e = true) := ax_Tr.allb_ok (by decide +kernel)
set_option maxRecDepth 100000 in
theorem ax_e177 : ax_t177.All (fun pc e => ax_okb ax_q177 pc e = true) := ax_Tr.allb_ok (by decide +kernel)
set_option maxRecDepth 100000 in
theorem ax_e178 : ax_t178.All (fun pc e => ax_okb ax_q178 pc e = true) := ax_Tr.allb_ok (by decide +kernel)
set_option maxRecDepth 100000 in
theorem ax_e179 : ax_t179.All (fun pc e => ax_okb ax_q179 pc e = true) := ax_Tr.allb_ok (by decide +kernel)
set_option maxRecDepth 100000 in
theorem ax_e180 : ax_t180.All (fun pc e => ax_okb ax_q180 pc e = true) := ax_Tr.allb_ok (by decide +kernel)
set_option maxRecDepth 100000 in
theorem ax_e181 : ax_t181.All (fun pc e => ax_okb ax_q181 pc e = true) := ax_Tr.allb_ok (by decide +kernel)
set_option maxRecDepth 100000 in
theorem ax_e182 : ax_t182.All (fun pc e => ax_okb ax_q182 pc e = true) := ax_Tr.allb_ok (by decide +kernel)
set_option maxRecDepth 100000 in
theorem ax_e183 : ax_t183.All (fun pc e => ax_okb ax_q183 pc e = true) := ax_Tr.allb_ok (by decide +kernel)
set_option maxRecDepth 100000 in
theorem ax_e184 : ax_t184.All (fun pc e => ax_okb ax_q184 pc e = true) := ax_Tr.allb_ok (by decide +kernel)
set_option maxRecDepth 100000 in
theorem ax_e185 : ax_t185.All (fun pc e => ax_okb ax_q185 pc e = true) := ax_Tr.allb_ok (by decide +kernel)
set_option maxRecDepth 100000 in
theorem ax_e186 : ax_t186.All (fun pc e => ax_okb ax_q186 pc e = true) := ax_Tr.allb_ok (by decide +kernel)
set_option maxRecDepth 100000 in
theorem ax_e187 : ax_t187.All (fun pc e => ax_okb ax_q187 pc e = true) := ax_Tr.allb_ok (by decide +kernel)
set_option maxRecDepth 100000 in
theorem ax_e188 : ax_t188.All (fun pc e => ax_okb ax_q188 pc e = true) := ax_Tr.allb_ok (by decide +kernel)
set_option maxRecDepth 100000 in
theorem ax_e189 : ax_t189.All (fun pc e => ax_okb ax_q189 pc e = true) := ax_Tr.allb_ok (by decide +kernel)
set_option maxRecDepth 100000 in
theorem ax_e190 : ax_t190.All (fun pc e => ax_okb ax_q190 pc e = true) := ax_Tr.allb_ok (by decide +kernel)
set_option maxRecDepth 100000 in
theorem ax_e191 : ax_t191.All (fun pc e => ax_okb ax_q191 pc e = true) := ax_Tr.allb_ok (by decide +kernel)
set_option maxRecDepth 100000 in
theorem ax_e192 : ax_t192.All (fun pc e => ax_okb ax_q192 pc e = true) := ax_Tr.allb_ok (by decide +kernel)
set_option maxRecDepth 100000 in
theorem ax_e193 : ax_t193.All (fun pc e => ax_okb ax_q193 pc e = true) := ax_Tr.allb_ok (by decide +kernel)
