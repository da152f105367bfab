/-! the rows of the law, 1 of 6 -/
set_option maxRecDepth 100000 in
theorem ax_lr0 : ∀ z ∈ ax_t285_0, ax_okb ax_q285 z.1 z.2 = true := ax_o1 (p := ax_okb ax_q285) (by decide +kernel)
set_option maxRecDepth 100000 in
theorem ax_lr1 : ∀ z ∈ ax_t285_1, ax_okb ax_q285 z.1 z.2 = true := ax_o1 (p := ax_okb ax_q285) (by decide +kernel)
set_option maxRecDepth 100000 in
theorem ax_lr2 : ∀ z ∈ ax_t285_2, ax_okb ax_q285 z.1 z.2 = true := ax_o1 (p := ax_okb ax_q285) (by decide +kernel)
set_option maxRecDepth 100000 in
theorem ax_lr3 : ∀ z ∈ ax_t285_3, ax_okb ax_q285 z.1 z.2 = true := ax_o1 (p := ax_okb ax_q285) (by decide +kernel)
