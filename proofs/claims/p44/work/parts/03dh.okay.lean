/-! the rows of the law, 3 of 6 -/
set_option maxRecDepth 100000 in
theorem ax_lr8 : ∀ z ∈ ax_t285_8, ax_okb ax_q285 z.1 z.2 = true := ax_o1 (p := ax_okb ax_q285) (by decide +kernel)
set_option maxRecDepth 100000 in
theorem ax_lr9 : ∀ z ∈ ax_t285_9, ax_okb ax_q285 z.1 z.2 = true := ax_o1 (p := ax_okb ax_q285) (by decide +kernel)
set_option maxRecDepth 100000 in
theorem ax_lr10 : ∀ z ∈ ax_t285_10, ax_okb ax_q285 z.1 z.2 = true := ax_o1 (p := ax_okb ax_q285) (by decide +kernel)
