/-! the rows of the law, 6 of 6 -/
set_option maxRecDepth 100000 in
theorem ax_l25 : ax_t258_25.All (fun pc e => ax_okb ax_q258 pc e = true) := ax_Tr.allb_ok (by decide +kernel)
set_option maxRecDepth 100000 in
theorem ax_l26 : ax_t258_26.All (fun pc e => ax_okb ax_q258 pc e = true) := ax_Tr.allb_ok (by decide +kernel)
set_option maxRecDepth 100000 in
theorem ax_l27 : ax_t258_27.All (fun pc e => ax_okb ax_q258 pc e = true) := ax_Tr.allb_ok (by decide +kernel)
set_option maxRecDepth 100000 in
theorem ax_l28 : ax_t258_28.All (fun pc e => ax_okb ax_q258 pc e = true) := ax_Tr.allb_ok (by decide +kernel)
set_option maxRecDepth 100000 in
theorem ax_l29 : ax_t258_29.All (fun pc e => ax_okb ax_q258 pc e = true) := ax_Tr.allb_ok (by decide +kernel)
