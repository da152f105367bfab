/-! the rows of the law, 5 of 6 -/
set_option maxRecDepth 100000 in
theorem ax_lr15 : ∀ z ∈ ax_t285_15, ax_okb ax_q285 z.1 z.2 = true := ax_o1 (p := ax_okb ax_q285) (by decide +kernel)
set_option maxRecDepth 100000 in
theorem ax_lr16 : ∀ z ∈ ax_t285_16, ax_okb ax_q285 z.1 z.2 = true := ax_o1 (p := ax_okb ax_q285) (by decide +kernel)
set_option maxRecDepth 100000 in
theorem ax_lr17 : ∀ z ∈ ax_t285_17, ax_okb ax_q285 z.1 z.2 = true := ax_o1 (p := ax_okb ax_q285) (by decide +kernel)
set_option maxRecDepth 100000 in
theorem ax_lr18 : ∀ z ∈ ax_t285_18, ax_okb ax_q285 z.1 z.2 = true := ax_o1 (p := ax_okb ax_q285) (by decide +kernel)
