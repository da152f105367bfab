/-! the rows of the law, 2 of 6 -/
set_option maxRecDepth 100000 in
theorem ax_lr4 : ∀ z ∈ ax_t285_4, ax_okb ax_q285 z.1 z.2 = true := ax_o1 (p := ax_okb ax_q285) (by decide +kernel)
set_option maxRecDepth 100000 in
theorem ax_lr5 : ∀ z ∈ ax_t285_5, ax_okb ax_q285 z.1 z.2 = true := ax_o1 (p := ax_okb ax_q285) (by decide +kernel)
set_option maxRecDepth 100000 in
theorem ax_lr6 : ∀ z ∈ ax_t285_6, ax_okb ax_q285 z.1 z.2 = true := ax_o1 (p := ax_okb ax_q285) (by decide +kernel)
set_option maxRecDepth 100000 in
theorem ax_lr7 : ∀ z ∈ ax_t285_7, ax_okb ax_q285 z.1 z.2 = true := ax_o1 (p := ax_okb ax_q285) (by decide +kernel)
