/-! the rows of the law, 4 of 6 -/
set_option maxRecDepth 100000 in
theorem ax_l15 : ax_t258_15.All (fun pc e => ax_okb ax_q258 pc e = true) := ax_Tr.allb_ok (by decide +kernel)
set_option maxRecDepth 100000 in
theorem ax_l16 : ax_t258_16.All (fun pc e => ax_okb ax_q258 pc e = true) := ax_Tr.allb_ok (by decide +kernel)
set_option maxRecDepth 100000 in
theorem ax_l17 : ax_t258_17.All (fun pc e => ax_okb ax_q258 pc e = true) := ax_Tr.allb_ok (by decide +kernel)
set_option maxRecDepth 100000 in
theorem ax_l18 : ax_t258_18.All (fun pc e => ax_okb ax_q258 pc e = true) := ax_Tr.allb_ok (by decide +kernel)
set_option maxRecDepth 100000 in
theorem ax_l19 : ax_t258_19.All (fun pc e => ax_okb ax_q258 pc e = true) := ax_Tr.allb_ok (by decide +kernel)
