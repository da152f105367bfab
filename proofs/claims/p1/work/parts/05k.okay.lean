/-! the rows of the law, 6 of 6 -/
set_option maxRecDepth 100000 in
theorem ax_lr31 : ∀ z ∈ ax_t258_31, ax_okb ax_q258 z.1 z.2 = true := ax_o1 (p := ax_okb ax_q258) (by decide +kernel)
set_option maxRecDepth 100000 in
theorem ax_lr32 : ∀ z ∈ ax_t258_32, ax_okb ax_q258 z.1 z.2 = true := ax_o1 (p := ax_okb ax_q258) (by decide +kernel)
set_option maxRecDepth 100000 in
theorem ax_lr33 : ∀ z ∈ ax_t258_33, ax_okb ax_q258 z.1 z.2 = true := ax_o1 (p := ax_okb ax_q258) (by decide +kernel)
set_option maxRecDepth 100000 in
theorem ax_lr34 : ∀ z ∈ ax_t258_34, ax_okb ax_q258 z.1 z.2 = true := ax_o1 (p := ax_okb ax_q258) (by decide +kernel)
set_option maxRecDepth 100000 in
theorem ax_lr35 : ∀ z ∈ ax_t258_35, ax_okb ax_q258 z.1 z.2 = true := ax_o1 (p := ax_okb ax_q258) (by decide +kernel)
set_option maxRecDepth 100000 in
theorem ax_lr36 : ∀ z ∈ ax_t258_36, ax_okb ax_q258 z.1 z.2 = true := ax_o1 (p := ax_okb ax_q258) (by decide +kernel)
