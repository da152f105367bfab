/-! the rows of the law, 6 of 6 -/
set_option maxRecDepth 100000 in
theorem ax_lr19 : ∀ z ∈ ax_t285_19, ax_okb ax_q285 z.1 z.2 = true := ax_o1 (p := ax_okb ax_q285) (by decide +kernel)
set_option maxRecDepth 100000 in
theorem ax_lr20 : ∀ z ∈ ax_t285_20, ax_okb ax_q285 z.1 z.2 = true := ax_o1 (p := ax_okb ax_q285) (by decide +kernel)
set_option maxRecDepth 100000 in
theorem ax_lr21 : ∀ z ∈ ax_t285_21, ax_okb ax_q285 z.1 z.2 = true := ax_o1 (p := ax_okb ax_q285) (by decide +kernel)
