/-! the rows of the law, 6 of 6 -/
set_option maxRecDepth 100000 in
theorem ax_lr31 : ∀ z ∈ ax_t260_31, ax_okb ax_q260 z.1 z.2 = true := ax_o1 (p := ax_okb ax_q260) (by decide +kernel)
set_option maxRecDepth 100000 in
theorem ax_lr32 : ∀ z ∈ ax_t260_32, ax_okb ax_q260 z.1 z.2 = true := ax_o1 (p := ax_okb ax_q260) (by decide +kernel)
set_option maxRecDepth 100000 in
theorem ax_lr33 : ∀ z ∈ ax_t260_33, ax_okb ax_q260 z.1 z.2 = true := ax_o1 (p := ax_okb ax_q260) (by decide +kernel)
set_option maxRecDepth 100000 in
theorem ax_lr34 : ∀ z ∈ ax_t260_34, ax_okb ax_q260 z.1 z.2 = true := ax_o1 (p := ax_okb ax_q260) (by decide +kernel)
set_option maxRecDepth 100000 in
theorem ax_lr35 : ∀ z ∈ ax_t260_35, ax_okb ax_q260 z.1 z.2 = true := ax_o1 (p := ax_okb ax_q260) (by decide +kernel)
set_option maxRecDepth 100000 in
theorem ax_lr36 : ∀ z ∈ ax_t260_36, ax_okb ax_q260 z.1 z.2 = true := ax_o1 (p := ax_okb ax_q260) (by decide +kernel)
