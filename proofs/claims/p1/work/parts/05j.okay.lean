/-! the rows of the law, 5 of 6 -/
set_option maxRecDepth 100000 in
theorem ax_lr25 : ∀ z ∈ ax_t258_25, ax_okb ax_q258 z.1 z.2 = true := ax_o1 (p := ax_okb ax_q258) (by decide +kernel)
set_option maxRecDepth 100000 in
theorem ax_lr26 : ∀ z ∈ ax_t258_26, ax_okb ax_q258 z.1 z.2 = true := ax_o1 (p := ax_okb ax_q258) (by decide +kernel)
set_option maxRecDepth 100000 in
theorem ax_lr27 : ∀ z ∈ ax_t258_27, ax_okb ax_q258 z.1 z.2 = true := ax_o1 (p := ax_okb ax_q258) (by decide +kernel)
set_option maxRecDepth 100000 in
theorem ax_lr28 : ∀ z ∈ ax_t258_28, ax_okb ax_q258 z.1 z.2 = true := ax_o1 (p := ax_okb ax_q258) (by decide +kernel)
set_option maxRecDepth 100000 in
theorem ax_lr29 : ∀ z ∈ ax_t258_29, ax_okb ax_q258 z.1 z.2 = true := ax_o1 (p := ax_okb ax_q258) (by decide +kernel)
set_option maxRecDepth 100000 in
theorem ax_lr30 : ∀ z ∈ ax_t258_30, ax_okb ax_q258 z.1 z.2 = true := ax_o1 (p := ax_okb ax_q258) (by decide +kernel)
