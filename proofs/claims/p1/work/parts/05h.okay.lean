/-! the rows of the law, 3 of 6 -/
set_option maxRecDepth 100000 in
theorem ax_l10 : ax_t258_10.All (fun pc e => ax_okb ax_q258 pc e = true) := ax_Tr.allb_ok (by decide +kernel)
set_option maxRecDepth 100000 in
theorem ax_l11 : ax_t258_11.All (fun pc e => ax_okb ax_q258 pc e = true) := ax_Tr.allb_ok (by decide +kernel)
set_option maxRecDepth 100000 in
theorem ax_l12 : ax_t258_12.All (fun pc e => ax_okb ax_q258 pc e = true) := ax_Tr.allb_ok (by decide +kernel)
set_option maxRecDepth 100000 in
theorem ax_l13 : ax_t258_13.All (fun pc e => ax_okb ax_q258 pc e = true) := ax_Tr.allb_ok (by decide +kernel)
set_option maxRecDepth 100000 in
theorem ax_l14 : ax_t258_14.All (fun pc e => ax_okb ax_q258 pc e = true) := ax_Tr.allb_ok (by decide +kernel)
