/-! the rows of the law, 2 of 6 -/
set_option maxRecDepth 100000 in
theorem ax_l5 : ax_t258_5.All (fun pc e => ax_okb ax_q258 pc e = true) := ax_Tr.allb_ok (by decide +kernel)
set_option maxRecDepth 100000 in
theorem ax_l6 : ax_t258_6.All (fun pc e => ax_okb ax_q258 pc e = true) := ax_Tr.allb_ok (by decide +kernel)
set_option maxRecDepth 100000 in
theorem ax_l7 : ax_t258_7.All (fun pc e => ax_okb ax_q258 pc e = true) := ax_Tr.allb_ok (by decide +kernel)
set_option maxRecDepth 100000 in
theorem ax_l8 : ax_t258_8.All (fun pc e => ax_okb ax_q258 pc e = true) := ax_Tr.allb_ok (by decide +kernel)
set_option maxRecDepth 100000 in
theorem ax_l9 : ax_t258_9.All (fun pc e => ax_okb ax_q258 pc e = true) := ax_Tr.allb_ok (by decide +kernel)
