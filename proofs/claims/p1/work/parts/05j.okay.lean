/-! the rows of the law, 5 of 6 -/
set_option maxRecDepth 100000 in
theorem ax_l20 : ax_t258_20.All (fun pc e => ax_okb ax_q258 pc e = true) := ax_Tr.allb_ok (by decide +kernel)
set_option maxRecDepth 100000 in
theorem ax_l21 : ax_t258_21.All (fun pc e => ax_okb ax_q258 pc e = true) := ax_Tr.allb_ok (by decide +kernel)
set_option maxRecDepth 100000 in
theorem ax_l22 : ax_t258_22.All (fun pc e => ax_okb ax_q258 pc e = true) := ax_Tr.allb_ok (by decide +kernel)
set_option maxRecDepth 100000 in
theorem ax_l23 : ax_t258_23.All (fun pc e => ax_okb ax_q258 pc e = true) := ax_Tr.allb_ok (by decide +kernel)
set_option maxRecDepth 100000 in
theorem ax_l24 : ax_t258_24.All (fun pc e => ax_okb ax_q258 pc e = true) := ax_Tr.allb_ok (by decide +kernel)
