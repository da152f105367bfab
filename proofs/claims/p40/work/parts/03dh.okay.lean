/-! the rows of the law, 3 of 6 -/
set_option maxRecDepth 100000 in
theorem ax_lr10 : ∀ z ∈ ax_t260_10, ax_okb ax_q260 z.1 z.2 = true := ax_o1 (p := ax_okb ax_q260) (by decide +kernel)
set_option maxRecDepth 100000 in
theorem ax_lr11 : ∀ z ∈ ax_t260_11, ax_okb ax_q260 z.1 z.2 = true := ax_o1 (p := ax_okb ax_q260) (by decide +kernel)
set_option maxRecDepth 100000 in
theorem ax_lr12 : ∀ z ∈ ax_t260_12, ax_okb ax_q260 z.1 z.2 = true := ax_o1 (p := ax_okb ax_q260) (by decide +kernel)
set_option maxRecDepth 100000 in
theorem ax_lr13 : ∀ z ∈ ax_t260_13, ax_okb ax_q260 z.1 z.2 = true := ax_o1 (p := ax_okb ax_q260) (by decide +kernel)
