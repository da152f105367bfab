/-! the rows of the linked code, 2 of 4 -/
set_option maxRecDepth 100000 in
theorem ax_e65 : ax_t65.all (fun e => ax_okb ax_q65 e) = true := by decide +kernel
set_option maxRecDepth 100000 in
theorem ax_f65 : ∀ w, ax_mw[65]? = some w → ax_mkb ax_q65 w = true := by
  intro w hw
  have e : w = (ax_mw[65]?).getD (0, 0, false, 0) := by rw [hw]; rfl
  subst e
  decide +kernel
set_option maxRecDepth 100000 in
theorem ax_e66 : ax_t66.all (fun e => ax_okb ax_q66 e) = true := by decide +kernel
set_option maxRecDepth 100000 in
theorem ax_f66 : ∀ w, ax_mw[66]? = some w → ax_mkb ax_q66 w = true := by
  intro w hw
  have e : w = (ax_mw[66]?).getD (0, 0, false, 0) := by rw [hw]; rfl
  subst e
  decide +kernel
set_option maxRecDepth 100000 in
theorem ax_e67 : ax_t67.all (fun e => ax_okb ax_q67 e) = true := by decide +kernel
set_option maxRecDepth 100000 in
theorem ax_f67 : ∀ w, ax_mw[67]? = some w → ax_mkb ax_q67 w = true := by
  intro w hw
  have e : w = (ax_mw[67]?).getD (0, 0, false, 0) := by rw [hw]; rfl
  subst e
  decide +kernel
set_option maxRecDepth 100000 in
theorem ax_e68 : ax_t68.all (fun e => ax_okb ax_q68 e) = true := by decide +kernel
set_option maxRecDepth 100000 in
theorem ax_f68 : ∀ w, ax_mw[68]? = some w → ax_mkb ax_q68 w = true := by
  intro w hw
  have e : w = (ax_mw[68]?).getD (0, 0, false, 0) := by rw [hw]; rfl
  subst e
  decide +kernel
set_option maxRecDepth 100000 in
theorem ax_e69 : ax_t69.all (fun e => ax_okb ax_q69 e) = true := by decide +kernel
set_option maxRecDepth 100000 in
theorem ax_f69 : ∀ w, ax_mw[69]? = some w → ax_mkb ax_q69 w = true := by
  intro w hw
  have e : w = (ax_mw[69]?).getD (0, 0, false, 0) := by rw [hw]; rfl
  subst e
  decide +kernel
set_option maxRecDepth 100000 in
theorem ax_e70 : ax_t70.all (fun e => ax_okb ax_q70 e) = true := by decide +kernel
set_option maxRecDepth 100000 in
theorem ax_f70 : ∀ w, ax_mw[70]? = some w → ax_mkb ax_q70 w = true := by
  intro w hw
  have e : w = (ax_mw[70]?).getD (0, 0, false, 0) := by rw [hw]; rfl
  subst e
  decide +kernel
set_option maxRecDepth 100000 in
theorem ax_e71 : ax_t71.all (fun e => ax_okb ax_q71 e) = true := by decide +kernel
set_option maxRecDepth 100000 in
theorem ax_f71 : ∀ w, ax_mw[71]? = some w → ax_mkb ax_q71 w = true := by
  intro w hw
  have e : w = (ax_mw[71]?).getD (0, 0, false, 0) := by rw [hw]; rfl
  subst e
  decide +kernel
set_option maxRecDepth 100000 in
theorem ax_e72 : ax_t72.all (fun e => ax_okb ax_q72 e) = true := by decide +kernel
set_option maxRecDepth 100000 in
theorem ax_f72 : ∀ w, ax_mw[72]? = some w → ax_mkb ax_q72 w = true := by
  intro w hw
  have e : w = (ax_mw[72]?).getD (0, 0, false, 0) := by rw [hw]; rfl
  subst e
  decide +kernel
set_option maxRecDepth 100000 in
theorem ax_e73 : ax_t73.all (fun e => ax_okb ax_q73 e) = true := by decide +kernel
set_option maxRecDepth 100000 in
theorem ax_f73 : ∀ w, ax_mw[73]? = some w → ax_mkb ax_q73 w = true := by
  intro w hw
  have e : w = (ax_mw[73]?).getD (0, 0, false, 0) := by rw [hw]; rfl
  subst e
  decide +kernel
set_option maxRecDepth 100000 in
theorem ax_e74 : ax_t74.all (fun e => ax_okb ax_q74 e) = true := by decide +kernel
set_option maxRecDepth 100000 in
theorem ax_f74 : ∀ w, ax_mw[74]? = some w → ax_mkb ax_q74 w = true := by
  intro w hw
  have e : w = (ax_mw[74]?).getD (0, 0, false, 0) := by rw [hw]; rfl
  subst e
  decide +kernel
set_option maxRecDepth 100000 in
theorem ax_e75 : ax_t75.all (fun e => ax_okb ax_q75 e) = true := by decide +kernel
set_option maxRecDepth 100000 in
theorem ax_f75 : ∀ w, ax_mw[75]? = some w → ax_mkb ax_q75 w = true := by
  intro w hw
  have e : w = (ax_mw[75]?).getD (0, 0, false, 0) := by rw [hw]; rfl
  subst e
  decide +kernel
set_option maxRecDepth 100000 in
theorem ax_e76 : ax_t76.all (fun e => ax_okb ax_q76 e) = true := by decide +kernel
set_option maxRecDepth 100000 in
theorem ax_f76 : ∀ w, ax_mw[76]? = some w → ax_mkb ax_q76 w = true := by
  intro w hw
  have e : w = (ax_mw[76]?).getD (0, 0, false, 0) := by rw [hw]; rfl
  subst e
  decide +kernel
set_option maxRecDepth 100000 in
theorem ax_e77 : ax_t77.all (fun e => ax_okb ax_q77 e) = true := by decide +kernel
set_option maxRecDepth 100000 in
theorem ax_f77 : ∀ w, ax_mw[77]? = some w → ax_mkb ax_q77 w = true := by
  intro w hw
  have e : w = (ax_mw[77]?).getD (0, 0, false, 0) := by rw [hw]; rfl
  subst e
  decide +kernel
set_option maxRecDepth 100000 in
theorem ax_e78 : ax_t78.all (fun e => ax_okb ax_q78 e) = true := by decide +kernel
set_option maxRecDepth 100000 in
theorem ax_f78 : ∀ w, ax_mw[78]? = some w → ax_mkb ax_q78 w = true := by
  intro w hw
  have e : w = (ax_mw[78]?).getD (0, 0, false, 0) := by rw [hw]; rfl
  subst e
  decide +kernel
set_option maxRecDepth 100000 in
theorem ax_e79 : ax_t79.all (fun e => ax_okb ax_q79 e) = true := by decide +kernel
set_option maxRecDepth 100000 in
theorem ax_f79 : ∀ w, ax_mw[79]? = some w → ax_mkb ax_q79 w = true := by
  intro w hw
  have e : w = (ax_mw[79]?).getD (0, 0, false, 0) := by rw [hw]; rfl
  subst e
  decide +kernel
set_option maxRecDepth 100000 in
theorem ax_e80 : ax_t80.all (fun e => ax_okb ax_q80 e) = true := by decide +kernel
set_option maxRecDepth 100000 in
theorem ax_f80 : ∀ w, ax_mw[80]? = some w → ax_mkb ax_q80 w = true := by
  intro w hw
  have e : w = (ax_mw[80]?).getD (0, 0, false, 0) := by rw [hw]; rfl
  subst e
  decide +kernel
set_option maxRecDepth 100000 in
theorem ax_e81 : ax_t81.all (fun e => ax_okb ax_q81 e) = true := by decide +kernel
set_option maxRecDepth 100000 in
theorem ax_f81 : ∀ w, ax_mw[81]? = some w → ax_mkb ax_q81 w = true := by
  intro w hw
  have e : w = (ax_mw[81]?).getD (0, 0, false, 0) := by rw [hw]; rfl
  subst e
  decide +kernel
set_option maxRecDepth 100000 in
theorem ax_e82 : ax_t82.all (fun e => ax_okb ax_q82 e) = true := by decide +kernel
set_option maxRecDepth 100000 in
theorem ax_f82 : ∀ w, ax_mw[82]? = some w → ax_mkb ax_q82 w = true := by
  intro w hw
  have e : w = (ax_mw[82]?).getD (0, 0, false, 0) := by rw [hw]; rfl
  subst e
  decide +kernel
set_option maxRecDepth 100000 in
theorem ax_e83 : ax_t83.all (fun e => ax_okb ax_q83 e) = true := by decide +kernel
set_option maxRecDepth 100000 in
theorem ax_f83 : ∀ w, ax_mw[83]? = some w → ax_mkb ax_q83 w = true := by
  intro w hw
  have e : w = (ax_mw[83]?).getD (0, 0, false, 0) := by rw [hw]; rfl
  subst e
  decide +kernel
set_option maxRecDepth 100000 in
theorem ax_e84 : ax_t84.all (fun e => ax_okb ax_q84 e) = true := by decide +kernel
set_option maxRecDepth 100000 in
theorem ax_f84 : ∀ w, ax_mw[84]? = some w → ax_mkb ax_q84 w = true := by
  intro w hw
  have e : w = (ax_mw[84]?).getD (0, 0, false, 0) := by rw [hw]; rfl
  subst e
  decide +kernel
set_option maxRecDepth 100000 in
theorem ax_e85 : ax_t85.all (fun e => ax_okb ax_q85 e) = true := by decide +kernel
set_option maxRecDepth 100000 in
theorem ax_f85 : ∀ w, ax_mw[85]? = some w → ax_mkb ax_q85 w = true := by
  intro w hw
  have e : w = (ax_mw[85]?).getD (0, 0, false, 0) := by rw [hw]; rfl
  subst e
  decide +kernel
set_option maxRecDepth 100000 in
theorem ax_e86 : ax_t86.all (fun e => ax_okb ax_q86 e) = true := by decide +kernel
set_option maxRecDepth 100000 in
theorem ax_f86 : ∀ w, ax_mw[86]? = some w → ax_mkb ax_q86 w = true := by
  intro w hw
  have e : w = (ax_mw[86]?).getD (0, 0, false, 0) := by rw [hw]; rfl
  subst e
  decide +kernel
set_option maxRecDepth 100000 in
theorem ax_e87 : ax_t87.all (fun e => ax_okb ax_q87 e) = true := by decide +kernel
set_option maxRecDepth 100000 in
theorem ax_f87 : ∀ w, ax_mw[87]? = some w → ax_mkb ax_q87 w = true := by
  intro w hw
  have e : w = (ax_mw[87]?).getD (0, 0, false, 0) := by rw [hw]; rfl
  subst e
  decide +kernel
set_option maxRecDepth 100000 in
theorem ax_e88 : ax_t88.all (fun e => ax_okb ax_q88 e) = true := by decide +kernel
set_option maxRecDepth 100000 in
theorem ax_f88 : ∀ w, ax_mw[88]? = some w → ax_mkb ax_q88 w = true := by
  intro w hw
  have e : w = (ax_mw[88]?).getD (0, 0, false, 0) := by rw [hw]; rfl
  subst e
  decide +kernel
set_option maxRecDepth 100000 in
theorem ax_e89 : ax_t89.all (fun e => ax_okb ax_q89 e) = true := by decide +kernel
set_option maxRecDepth 100000 in
theorem ax_f89 : ∀ w, ax_mw[89]? = some w → ax_mkb ax_q89 w = true := by
  intro w hw
  have e : w = (ax_mw[89]?).getD (0, 0, false, 0) := by rw [hw]; rfl
  subst e
  decide +kernel
set_option maxRecDepth 100000 in
theorem ax_e90 : ax_t90.all (fun e => ax_okb ax_q90 e) = true := by decide +kernel
set_option maxRecDepth 100000 in
theorem ax_f90 : ∀ w, ax_mw[90]? = some w → ax_mkb ax_q90 w = true := by
  intro w hw
  have e : w = (ax_mw[90]?).getD (0, 0, false, 0) := by rw [hw]; rfl
  subst e
  decide +kernel
set_option maxRecDepth 100000 in
theorem ax_e91 : ax_t91.all (fun e => ax_okb ax_q91 e) = true := by decide +kernel
set_option maxRecDepth 100000 in
theorem ax_f91 : ∀ w, ax_mw[91]? = some w → ax_mkb ax_q91 w = true := by
  intro w hw
  have e : w = (ax_mw[91]?).getD (0, 0, false, 0) := by rw [hw]; rfl
  subst e
  decide +kernel
set_option maxRecDepth 100000 in
theorem ax_e92 : ax_t92.all (fun e => ax_okb ax_q92 e) = true := by decide +kernel
set_option maxRecDepth 100000 in
theorem ax_f92 : ∀ w, ax_mw[92]? = some w → ax_mkb ax_q92 w = true := by
  intro w hw
  have e : w = (ax_mw[92]?).getD (0, 0, false, 0) := by rw [hw]; rfl
  subst e
  decide +kernel
set_option maxRecDepth 100000 in
theorem ax_e93 : ax_t93.all (fun e => ax_okb ax_q93 e) = true := by decide +kernel
set_option maxRecDepth 100000 in
theorem ax_f93 : ∀ w, ax_mw[93]? = some w → ax_mkb ax_q93 w = true := by
  intro w hw
  have e : w = (ax_mw[93]?).getD (0, 0, false, 0) := by rw [hw]; rfl
  subst e
  decide +kernel
set_option maxRecDepth 100000 in
theorem ax_e94 : ax_t94.all (fun e => ax_okb ax_q94 e) = true := by decide +kernel
set_option maxRecDepth 100000 in
theorem ax_f94 : ∀ w, ax_mw[94]? = some w → ax_mkb ax_q94 w = true := by
  intro w hw
  have e : w = (ax_mw[94]?).getD (0, 0, false, 0) := by rw [hw]; rfl
  subst e
  decide +kernel
set_option maxRecDepth 100000 in
theorem ax_e95 : ax_t95.all (fun e => ax_okb ax_q95 e) = true := by decide +kernel
set_option maxRecDepth 100000 in
theorem ax_f95 : ∀ w, ax_mw[95]? = some w → ax_mkb ax_q95 w = true := by
  intro w hw
  have e : w = (ax_mw[95]?).getD (0, 0, false, 0) := by rw [hw]; rfl
  subst e
  decide +kernel
set_option maxRecDepth 100000 in
theorem ax_e96 : ax_t96.all (fun e => ax_okb ax_q96 e) = true := by decide +kernel
set_option maxRecDepth 100000 in
theorem ax_f96 : ∀ w, ax_mw[96]? = some w → ax_mkb ax_q96 w = true := by
  intro w hw
  have e : w = (ax_mw[96]?).getD (0, 0, false, 0) := by rw [hw]; rfl
  subst e
  decide +kernel
set_option maxRecDepth 100000 in
theorem ax_e97 : ax_t97.all (fun e => ax_okb ax_q97 e) = true := by decide +kernel
set_option maxRecDepth 100000 in
theorem ax_f97 : ∀ w, ax_mw[97]? = some w → ax_mkb ax_q97 w = true := by
  intro w hw
  have e : w = (ax_mw[97]?).getD (0, 0, false, 0) := by rw [hw]; rfl
  subst e
  decide +kernel
set_option maxRecDepth 100000 in
theorem ax_e98 : ax_t98.all (fun e => ax_okb ax_q98 e) = true := by decide +kernel
set_option maxRecDepth 100000 in
theorem ax_f98 : ∀ w, ax_mw[98]? = some w → ax_mkb ax_q98 w = true := by
  intro w hw
  have e : w = (ax_mw[98]?).getD (0, 0, false, 0) := by rw [hw]; rfl
  subst e
  decide +kernel
set_option maxRecDepth 100000 in
theorem ax_e99 : ax_t99.all (fun e => ax_okb ax_q99 e) = true := by decide +kernel
set_option maxRecDepth 100000 in
theorem ax_f99 : ∀ w, ax_mw[99]? = some w → ax_mkb ax_q99 w = true := by
  intro w hw
  have e : w = (ax_mw[99]?).getD (0, 0, false, 0) := by rw [hw]; rfl
  subst e
  decide +kernel
set_option maxRecDepth 100000 in
theorem ax_e100 : ax_t100.all (fun e => ax_okb ax_q100 e) = true := by decide +kernel
set_option maxRecDepth 100000 in
theorem ax_f100 : ∀ w, ax_mw[100]? = some w → ax_mkb ax_q100 w = true := by
  intro w hw
  have e : w = (ax_mw[100]?).getD (0, 0, false, 0) := by rw [hw]; rfl
  subst e
  decide +kernel
set_option maxRecDepth 100000 in
theorem ax_e101 : ax_t101.all (fun e => ax_okb ax_q101 e) = true := by decide +kernel
set_option maxRecDepth 100000 in
theorem ax_f101 : ∀ w, ax_mw[101]? = some w → ax_mkb ax_q101 w = true := by
  intro w hw
  have e : w = (ax_mw[101]?).getD (0, 0, false, 0) := by rw [hw]; rfl
  subst e
  decide +kernel
set_option maxRecDepth 100000 in
theorem ax_e102 : ax_t102.all (fun e => ax_okb ax_q102 e) = true := by decide +kernel
set_option maxRecDepth 100000 in
theorem ax_f102 : ∀ w, ax_mw[102]? = some w → ax_mkb ax_q102 w = true := by
  intro w hw
  have e : w = (ax_mw[102]?).getD (0, 0, false, 0) := by rw [hw]; rfl
  subst e
  decide +kernel
set_option maxRecDepth 100000 in
theorem ax_e103 : ax_t103.all (fun e => ax_okb ax_q103 e) = true := by decide +kernel
set_option maxRecDepth 100000 in
theorem ax_f103 : ∀ w, ax_mw[103]? = some w → ax_mkb ax_q103 w = true := by
  intro w hw
  have e : w = (ax_mw[103]?).getD (0, 0, false, 0) := by rw [hw]; rfl
  subst e
  decide +kernel
set_option maxRecDepth 100000 in
theorem ax_e104 : ax_t104.all (fun e => ax_okb ax_q104 e) = true := by decide +kernel
set_option maxRecDepth 100000 in
theorem ax_f104 : ∀ w, ax_mw[104]? = some w → ax_mkb ax_q104 w = true := by
  intro w hw
  have e : w = (ax_mw[104]?).getD (0, 0, false, 0) := by rw [hw]; rfl
  subst e
  decide +kernel
set_option maxRecDepth 100000 in
theorem ax_e105 : ax_t105.all (fun e => ax_okb ax_q105 e) = true := by decide +kernel
set_option maxRecDepth 100000 in
theorem ax_f105 : ∀ w, ax_mw[105]? = some w → ax_mkb ax_q105 w = true := by
  intro w hw
  have e : w = (ax_mw[105]?).getD (0, 0, false, 0) := by rw [hw]; rfl
  subst e
  decide +kernel
set_option maxRecDepth 100000 in
theorem ax_e106 : ax_t106.all (fun e => ax_okb ax_q106 e) = true := by decide +kernel
set_option maxRecDepth 100000 in
theorem ax_f106 : ∀ w, ax_mw[106]? = some w → ax_mkb ax_q106 w = true := by
  intro w hw
  have e : w = (ax_mw[106]?).getD (0, 0, false, 0) := by rw [hw]; rfl
  subst e
  decide +kernel
set_option maxRecDepth 100000 in
theorem ax_e107 : ax_t107.all (fun e => ax_okb ax_q107 e) = true := by decide +kernel
set_option maxRecDepth 100000 in
theorem ax_f107 : ∀ w, ax_mw[107]? = some w → ax_mkb ax_q107 w = true := by
  intro w hw
  have e : w = (ax_mw[107]?).getD (0, 0, false, 0) := by rw [hw]; rfl
  subst e
  decide +kernel
set_option maxRecDepth 100000 in
theorem ax_e108 : ax_t108.all (fun e => ax_okb ax_q108 e) = true := by decide +kernel
set_option maxRecDepth 100000 in
theorem ax_f108 : ∀ w, ax_mw[108]? = some w → ax_mkb ax_q108 w = true := by
  intro w hw
  have e : w = (ax_mw[108]?).getD (0, 0, false, 0) := by rw [hw]; rfl
  subst e
  decide +kernel
set_option maxRecDepth 100000 in
theorem ax_e109 : ax_t109.all (fun e => ax_okb ax_q109 e) = true := by decide +kernel
set_option maxRecDepth 100000 in
theorem ax_f109 : ∀ w, ax_mw[109]? = some w → ax_mkb ax_q109 w = true := by
  intro w hw
  have e : w = (ax_mw[109]?).getD (0, 0, false, 0) := by rw [hw]; rfl
  subst e
  decide +kernel
set_option maxRecDepth 100000 in
theorem ax_e110 : ax_t110.all (fun e => ax_okb ax_q110 e) = true := by decide +kernel
set_option maxRecDepth 100000 in
theorem ax_f110 : ∀ w, ax_mw[110]? = some w → ax_mkb ax_q110 w = true := by
  intro w hw
  have e : w = (ax_mw[110]?).getD (0, 0, false, 0) := by rw [hw]; rfl
  subst e
  decide +kernel
set_option maxRecDepth 100000 in
theorem ax_e111 : ax_t111.all (fun e => ax_okb ax_q111 e) = true := by decide +kernel
set_option maxRecDepth 100000 in
theorem ax_f111 : ∀ w, ax_mw[111]? = some w → ax_mkb ax_q111 w = true := by
  intro w hw
  have e : w = (ax_mw[111]?).getD (0, 0, false, 0) := by rw [hw]; rfl
  subst e
  decide +kernel
set_option maxRecDepth 100000 in
theorem ax_e112 : ax_t112.all (fun e => ax_okb ax_q112 e) = true := by decide +kernel
set_option maxRecDepth 100000 in
theorem ax_f112 : ∀ w, ax_mw[112]? = some w → ax_mkb ax_q112 w = true := by
  intro w hw
  have e : w = (ax_mw[112]?).getD (0, 0, false, 0) := by rw [hw]; rfl
  subst e
  decide +kernel
set_option maxRecDepth 100000 in
theorem ax_e113 : ax_t113.all (fun e => ax_okb ax_q113 e) = true := by decide +kernel
set_option maxRecDepth 100000 in
theorem ax_f113 : ∀ w, ax_mw[113]? = some w → ax_mkb ax_q113 w = true := by
  intro w hw
  have e : w = (ax_mw[113]?).getD (0, 0, false, 0) := by rw [hw]; rfl
  subst e
  decide +kernel
set_option maxRecDepth 100000 in
theorem ax_e114 : ax_t114.all (fun e => ax_okb ax_q114 e) = true := by decide +kernel
set_option maxRecDepth 100000 in
theorem ax_f114 : ∀ w, ax_mw[114]? = some w → ax_mkb ax_q114 w = true := by
  intro w hw
  have e : w = (ax_mw[114]?).getD (0, 0, false, 0) := by rw [hw]; rfl
  subst e
  decide +kernel
set_option maxRecDepth 100000 in
theorem ax_e115 : ax_t115.all (fun e => ax_okb ax_q115 e) = true := by decide +kernel
set_option maxRecDepth 100000 in
theorem ax_f115 : ∀ w, ax_mw[115]? = some w → ax_mkb ax_q115 w = true := by
  intro w hw
  have e : w = (ax_mw[115]?).getD (0, 0, false, 0) := by rw [hw]; rfl
  subst e
  decide +kernel
set_option maxRecDepth 100000 in
theorem ax_e116 : ax_t116.all (fun e => ax_okb ax_q116 e) = true := by decide +kernel
set_option maxRecDepth 100000 in
theorem ax_f116 : ∀ w, ax_mw[116]? = some w → ax_mkb ax_q116 w = true := by
  intro w hw
  have e : w = (ax_mw[116]?).getD (0, 0, false, 0) := by rw [hw]; rfl
  subst e
  decide +kernel
set_option maxRecDepth 100000 in
theorem ax_e117 : ax_t117.all (fun e => ax_okb ax_q117 e) = true := by decide +kernel
set_option maxRecDepth 100000 in
theorem ax_f117 : ∀ w, ax_mw[117]? = some w → ax_mkb ax_q117 w = true := by
  intro w hw
  have e : w = (ax_mw[117]?).getD (0, 0, false, 0) := by rw [hw]; rfl
  subst e
  decide +kernel
set_option maxRecDepth 100000 in
theorem ax_e118 : ax_t118.all (fun e => ax_okb ax_q118 e) = true := by decide +kernel
set_option maxRecDepth 100000 in
theorem ax_f118 : ∀ w, ax_mw[118]? = some w → ax_mkb ax_q118 w = true := by
  intro w hw
  have e : w = (ax_mw[118]?).getD (0, 0, false, 0) := by rw [hw]; rfl
  subst e
  decide +kernel
set_option maxRecDepth 100000 in
theorem ax_e119 : ax_t119.all (fun e => ax_okb ax_q119 e) = true := by decide +kernel
set_option maxRecDepth 100000 in
theorem ax_f119 : ∀ w, ax_mw[119]? = some w → ax_mkb ax_q119 w = true := by
  intro w hw
  have e : w = (ax_mw[119]?).getD (0, 0, false, 0) := by rw [hw]; rfl
  subst e
  decide +kernel
set_option maxRecDepth 100000 in
theorem ax_e120 : ax_t120.all (fun e => ax_okb ax_q120 e) = true := by decide +kernel
set_option maxRecDepth 100000 in
theorem ax_f120 : ∀ w, ax_mw[120]? = some w → ax_mkb ax_q120 w = true := by
  intro w hw
  have e : w = (ax_mw[120]?).getD (0, 0, false, 0) := by rw [hw]; rfl
  subst e
  decide +kernel
set_option maxRecDepth 100000 in
theorem ax_e121 : ax_t121.all (fun e => ax_okb ax_q121 e) = true := by decide +kernel
set_option maxRecDepth 100000 in
theorem ax_f121 : ∀ w, ax_mw[121]? = some w → ax_mkb ax_q121 w = true := by
  intro w hw
  have e : w = (ax_mw[121]?).getD (0, 0, false, 0) := by rw [hw]; rfl
  subst e
  decide +kernel
set_option maxRecDepth 100000 in
theorem ax_e122 : ax_t122.all (fun e => ax_okb ax_q122 e) = true := by decide +kernel
set_option maxRecDepth 100000 in
theorem ax_f122 : ∀ w, ax_mw[122]? = some w → ax_mkb ax_q122 w = true := by
  intro w hw
  have e : w = (ax_mw[122]?).getD (0, 0, false, 0) := by rw [hw]; rfl
  subst e
  decide +kernel
set_option maxRecDepth 100000 in
theorem ax_e123 : ax_t123.all (fun e => ax_okb ax_q123 e) = true := by decide +kernel
set_option maxRecDepth 100000 in
theorem ax_f123 : ∀ w, ax_mw[123]? = some w → ax_mkb ax_q123 w = true := by
  intro w hw
  have e : w = (ax_mw[123]?).getD (0, 0, false, 0) := by rw [hw]; rfl
  subst e
  decide +kernel
set_option maxRecDepth 100000 in
theorem ax_e124 : ax_t124.all (fun e => ax_okb ax_q124 e) = true := by decide +kernel
set_option maxRecDepth 100000 in
theorem ax_f124 : ∀ w, ax_mw[124]? = some w → ax_mkb ax_q124 w = true := by
  intro w hw
  have e : w = (ax_mw[124]?).getD (0, 0, false, 0) := by rw [hw]; rfl
  subst e
  decide +kernel
set_option maxRecDepth 100000 in
theorem ax_e125 : ax_t125.all (fun e => ax_okb ax_q125 e) = true := by decide +kernel
set_option maxRecDepth 100000 in
theorem ax_f125 : ∀ w, ax_mw[125]? = some w → ax_mkb ax_q125 w = true := by
  intro w hw
  have e : w = (ax_mw[125]?).getD (0, 0, false, 0) := by rw [hw]; rfl
  subst e
  decide +kernel
set_option maxRecDepth 100000 in
theorem ax_e126 : ax_t126.all (fun e => ax_okb ax_q126 e) = true := by decide +kernel
set_option maxRecDepth 100000 in
theorem ax_f126 : ∀ w, ax_mw[126]? = some w → ax_mkb ax_q126 w = true := by
  intro w hw
  have e : w = (ax_mw[126]?).getD (0, 0, false, 0) := by rw [hw]; rfl
  subst e
  decide +kernel
set_option maxRecDepth 100000 in
theorem ax_e127 : ax_t127.all (fun e => ax_okb ax_q127 e) = true := by decide +kernel
set_option maxRecDepth 100000 in
theorem ax_f127 : ∀ w, ax_mw[127]? = some w → ax_mkb ax_q127 w = true := by
  intro w hw
  have e : w = (ax_mw[127]?).getD (0, 0, false, 0) := by rw [hw]; rfl
  subst e
  decide +kernel
set_option maxRecDepth 100000 in
theorem ax_e128 : ax_t128.all (fun e => ax_okb ax_q128 e) = true := by decide +kernel
set_option maxRecDepth 100000 in
theorem ax_f128 : ∀ w, ax_mw[128]? = some w → ax_mkb ax_q128 w = true := by
  intro w hw
  have e : w = (ax_mw[128]?).getD (0, 0, false, 0) := by rw [hw]; rfl
  subst e
  decide +kernel
set_option maxRecDepth 100000 in
theorem ax_e129 : ax_t129.all (fun e => ax_okb ax_q129 e) = true := by decide +kernel
set_option maxRecDepth 100000 in
theorem ax_f129 : ∀ w, ax_mw[129]? = some w → ax_mkb ax_q129 w = true := by
  intro w hw
  have e : w = (ax_mw[129]?).getD (0, 0, false, 0) := by rw [hw]; rfl
  subst e
  decide +kernel
