/-! the rows of the law, 4 of 6 -/
set_option maxRecDepth 100000 in
theorem ax_l19 : ∀ z ∈ ax_t258_19, ax_okb ax_q258 z.1 z.2 = true := ax_o1 (p := ax_okb ax_q258) (by decide +kernel)
set_option maxRecDepth 100000 in
theorem ax_l20 : ∀ z ∈ ax_t258_20, ax_okb ax_q258 z.1 z.2 = true := ax_o1 (p := ax_okb ax_q258) (by decide +kernel)
set_option maxRecDepth 100000 in
theorem ax_l21 : ∀ z ∈ ax_t258_21, ax_okb ax_q258 z.1 z.2 = true := ax_o1 (p := ax_okb ax_q258) (by decide +kernel)
set_option maxRecDepth 100000 in
theorem ax_l22 : ∀ z ∈ ax_t258_22, ax_okb ax_q258 z.1 z.2 = true := ax_o1 (p := ax_okb ax_q258) (by decide +kernel)
set_option maxRecDepth 100000 in
theorem ax_l23 : ∀ z ∈ ax_t258_23, ax_okb ax_q258 z.1 z.2 = true := ax_o1 (p := ax_okb ax_q258) (by decide +kernel)
set_option maxRecDepth 100000 in
theorem ax_l24 : ∀ z ∈ ax_t258_24, ax_okb ax_q258 z.1 z.2 = true := ax_o1 (p := ax_okb ax_q258) (by decide +kernel)
