/-! p1: THE OPCODES of a script of six ints -/
section AXP
variable {l : Launch} {xs : Nat → Int32}
set_option maxRecDepth 100000 in
theorem ax_op0 (hl : l.stackTraces = false) : ax_go40 l xs 0 := by
  obtain ⟨h0l, h0u, h1l, h1u, h2l, h2u, h3l, h3u, h4l, h4u⟩ := ax_bnd xs
  exact ax_fin hl (as := [.float 0, .float 0, .float 0, .float 0, .float 0, .float 0]) (by decide +kernel) rfl (ax_hv6 (ax_any _) (ax_inv (q := ((-2147483648), 2147483647)) rfl h0l h0u) (ax_inv (q := ((-2147483648), 2147483647)) rfl h1l h1u) (ax_inv (q := ((-2147483648), 2147483647)) rfl h2l h2u) (ax_inv (q := ((-2147483648), 2147483647)) rfl h3l h3u) (ax_inv (q := ((-2147483648), 2147483647)) rfl h4l h4u))
set_option maxRecDepth 100000 in
theorem ax_op1 (hl : l.stackTraces = false) : ax_go40 l xs 1 := by
  obtain ⟨h0l, h0u, h1l, h1u, h2l, h2u, h3l, h3u, h4l, h4u⟩ := ax_bnd xs
  rcases (by omega : ((-2147483648) ≤ (xs 1).toInt ∧ (xs 1).toInt ≤ (-1)) ∨ (0 ≤ (xs 1).toInt ∧ (xs 1).toInt ≤ 2147483647)) with ⟨h0l, h0u⟩ | ⟨h0l, h0u⟩
  · exact ax_fin hl (as := [.float 0, .float 1, .float 0, .float 0, .float 0, .float 0]) (by decide +kernel) rfl (ax_hv6 (ax_any _) (ax_inv (q := ((-2147483648), (-1))) rfl h0l h0u) (ax_inv (q := ((-2147483648), 2147483647)) rfl h1l h1u) (ax_inv (q := ((-2147483648), 2147483647)) rfl h2l h2u) (ax_inv (q := ((-2147483648), 2147483647)) rfl h3l h3u) (ax_inv (q := ((-2147483648), 2147483647)) rfl h4l h4u))
  · rcases (by omega : (0 ≤ (xs 1).toInt ∧ (xs 1).toInt ≤ 0) ∨ (1 ≤ (xs 1).toInt ∧ (xs 1).toInt ≤ 2147483647)) with ⟨h0l, h0u⟩ | ⟨h0l, h0u⟩
    · exact ax_fin hl (as := [.float 0, .int 0, .float 0, .float 0, .float 0, .float 0]) (by decide +kernel) rfl (ax_hv6 (ax_any _) (ax_eqv h0l h0u) (ax_inv (q := ((-2147483648), 2147483647)) rfl h1l h1u) (ax_inv (q := ((-2147483648), 2147483647)) rfl h2l h2u) (ax_inv (q := ((-2147483648), 2147483647)) rfl h3l h3u) (ax_inv (q := ((-2147483648), 2147483647)) rfl h4l h4u))
    · exact ax_fin hl (as := [.float 0, .float 10, .float 0, .float 0, .float 0, .float 0]) (by decide +kernel) rfl (ax_hv6 (ax_any _) (ax_inv (q := (1, 2147483647)) rfl h0l h0u) (ax_inv (q := ((-2147483648), 2147483647)) rfl h1l h1u) (ax_inv (q := ((-2147483648), 2147483647)) rfl h2l h2u) (ax_inv (q := ((-2147483648), 2147483647)) rfl h3l h3u) (ax_inv (q := ((-2147483648), 2147483647)) rfl h4l h4u))
set_option maxRecDepth 100000 in
theorem ax_op2 (hl : l.stackTraces = false) : ax_go40 l xs 2 := by
  obtain ⟨h0l, h0u, h1l, h1u, h2l, h2u, h3l, h3u, h4l, h4u⟩ := ax_bnd xs
  exact ax_fin hl (as := [.float 0, .float 0, .float 0, .float 0, .float 0, .float 0]) (by decide +kernel) rfl (ax_hv6 (ax_any _) (ax_inv (q := ((-2147483648), 2147483647)) rfl h0l h0u) (ax_inv (q := ((-2147483648), 2147483647)) rfl h1l h1u) (ax_inv (q := ((-2147483648), 2147483647)) rfl h2l h2u) (ax_inv (q := ((-2147483648), 2147483647)) rfl h3l h3u) (ax_inv (q := ((-2147483648), 2147483647)) rfl h4l h4u))
set_option maxRecDepth 100000 in
theorem ax_op3 (hl : l.stackTraces = false) : ax_go40 l xs 3 := by
  obtain ⟨h0l, h0u, h1l, h1u, h2l, h2u, h3l, h3u, h4l, h4u⟩ := ax_bnd xs
  exact ax_fin hl (as := [.float 0, .float 0, .float 0, .float 0, .float 0, .float 0]) (by decide +kernel) rfl (ax_hv6 (ax_any _) (ax_inv (q := ((-2147483648), 2147483647)) rfl h0l h0u) (ax_inv (q := ((-2147483648), 2147483647)) rfl h1l h1u) (ax_inv (q := ((-2147483648), 2147483647)) rfl h2l h2u) (ax_inv (q := ((-2147483648), 2147483647)) rfl h3l h3u) (ax_inv (q := ((-2147483648), 2147483647)) rfl h4l h4u))
set_option maxRecDepth 100000 in
theorem ax_op4 (hl : l.stackTraces = false) : ax_go40 l xs 4 := by
  obtain ⟨h0l, h0u, h1l, h1u, h2l, h2u, h3l, h3u, h4l, h4u⟩ := ax_bnd xs
  exact ax_fin hl (as := [.float 0, .float 0, .float 0, .float 0, .float 0, .float 0]) (by decide +kernel) rfl (ax_hv6 (ax_any _) (ax_inv (q := ((-2147483648), 2147483647)) rfl h0l h0u) (ax_inv (q := ((-2147483648), 2147483647)) rfl h1l h1u) (ax_inv (q := ((-2147483648), 2147483647)) rfl h2l h2u) (ax_inv (q := ((-2147483648), 2147483647)) rfl h3l h3u) (ax_inv (q := ((-2147483648), 2147483647)) rfl h4l h4u))
set_option maxRecDepth 100000 in
theorem ax_op5 (hl : l.stackTraces = false) : ax_go40 l xs 5 := by
  obtain ⟨h0l, h0u, h1l, h1u, h2l, h2u, h3l, h3u, h4l, h4u⟩ := ax_bnd xs
  rcases (by omega : ((-2147483648) ≤ (xs 1).toInt ∧ (xs 1).toInt ≤ (-1)) ∨ (0 ≤ (xs 1).toInt ∧ (xs 1).toInt ≤ 2147483647)) with ⟨h0l, h0u⟩ | ⟨h0l, h0u⟩
  · exact ax_fin hl (as := [.float 0, .float 1, .float 0, .float 0, .float 0, .float 0]) (by decide +kernel) rfl (ax_hv6 (ax_any _) (ax_inv (q := ((-2147483648), (-1))) rfl h0l h0u) (ax_inv (q := ((-2147483648), 2147483647)) rfl h1l h1u) (ax_inv (q := ((-2147483648), 2147483647)) rfl h2l h2u) (ax_inv (q := ((-2147483648), 2147483647)) rfl h3l h3u) (ax_inv (q := ((-2147483648), 2147483647)) rfl h4l h4u))
  · exact ax_fin hl (as := [.float 0, .float 2, .float 0, .float 0, .float 0, .float 0]) (by decide +kernel) rfl (ax_hv6 (ax_any _) (ax_inv (q := (0, 2147483647)) rfl h0l h0u) (ax_inv (q := ((-2147483648), 2147483647)) rfl h1l h1u) (ax_inv (q := ((-2147483648), 2147483647)) rfl h2l h2u) (ax_inv (q := ((-2147483648), 2147483647)) rfl h3l h3u) (ax_inv (q := ((-2147483648), 2147483647)) rfl h4l h4u))
set_option maxRecDepth 100000 in
theorem ax_op6 (hl : l.stackTraces = false) : ax_go40 l xs 6 := by
  obtain ⟨h0l, h0u, h1l, h1u, h2l, h2u, h3l, h3u, h4l, h4u⟩ := ax_bnd xs
  rcases (by omega : ((-2147483648) ≤ (xs 1).toInt ∧ (xs 1).toInt ≤ (-1)) ∨ (0 ≤ (xs 1).toInt ∧ (xs 1).toInt ≤ 2147483647)) with ⟨h0l, h0u⟩ | ⟨h0l, h0u⟩
  · exact ax_fin hl (as := [.float 0, .float 1, .float 0, .float 0, .float 0, .float 0]) (by decide +kernel) rfl (ax_hv6 (ax_any _) (ax_inv (q := ((-2147483648), (-1))) rfl h0l h0u) (ax_inv (q := ((-2147483648), 2147483647)) rfl h1l h1u) (ax_inv (q := ((-2147483648), 2147483647)) rfl h2l h2u) (ax_inv (q := ((-2147483648), 2147483647)) rfl h3l h3u) (ax_inv (q := ((-2147483648), 2147483647)) rfl h4l h4u))
  · exact ax_fin hl (as := [.float 0, .float 2, .float 0, .float 0, .float 0, .float 0]) (by decide +kernel) rfl (ax_hv6 (ax_any _) (ax_inv (q := (0, 2147483647)) rfl h0l h0u) (ax_inv (q := ((-2147483648), 2147483647)) rfl h1l h1u) (ax_inv (q := ((-2147483648), 2147483647)) rfl h2l h2u) (ax_inv (q := ((-2147483648), 2147483647)) rfl h3l h3u) (ax_inv (q := ((-2147483648), 2147483647)) rfl h4l h4u))
set_option maxRecDepth 100000 in
theorem ax_op7 (hl : l.stackTraces = false) : ax_go40 l xs 7 := by
  obtain ⟨h0l, h0u, h1l, h1u, h2l, h2u, h3l, h3u, h4l, h4u⟩ := ax_bnd xs
  exact ax_fin hl (as := [.float 0, .float 0, .float 0, .float 0, .float 0, .float 0]) (by decide +kernel) rfl (ax_hv6 (ax_any _) (ax_inv (q := ((-2147483648), 2147483647)) rfl h0l h0u) (ax_inv (q := ((-2147483648), 2147483647)) rfl h1l h1u) (ax_inv (q := ((-2147483648), 2147483647)) rfl h2l h2u) (ax_inv (q := ((-2147483648), 2147483647)) rfl h3l h3u) (ax_inv (q := ((-2147483648), 2147483647)) rfl h4l h4u))
set_option maxRecDepth 100000 in
theorem ax_op8 (hl : l.stackTraces = false) : ax_go40 l xs 8 := by
  obtain ⟨h0l, h0u, h1l, h1u, h2l, h2u, h3l, h3u, h4l, h4u⟩ := ax_bnd xs
  rcases (by omega : ((-2147483648) ≤ (xs 1).toInt ∧ (xs 1).toInt ≤ (-1)) ∨ (0 ≤ (xs 1).toInt ∧ (xs 1).toInt ≤ 2147483647)) with ⟨h0l, h0u⟩ | ⟨h0l, h0u⟩
  · exact ax_fin hl (as := [.float 0, .float 1, .float 0, .float 0, .float 0, .float 0]) (by decide +kernel) rfl (ax_hv6 (ax_any _) (ax_inv (q := ((-2147483648), (-1))) rfl h0l h0u) (ax_inv (q := ((-2147483648), 2147483647)) rfl h1l h1u) (ax_inv (q := ((-2147483648), 2147483647)) rfl h2l h2u) (ax_inv (q := ((-2147483648), 2147483647)) rfl h3l h3u) (ax_inv (q := ((-2147483648), 2147483647)) rfl h4l h4u))
  · exact ax_fin hl (as := [.float 0, .float 2, .float 0, .float 0, .float 0, .float 0]) (by decide +kernel) rfl (ax_hv6 (ax_any _) (ax_inv (q := (0, 2147483647)) rfl h0l h0u) (ax_inv (q := ((-2147483648), 2147483647)) rfl h1l h1u) (ax_inv (q := ((-2147483648), 2147483647)) rfl h2l h2u) (ax_inv (q := ((-2147483648), 2147483647)) rfl h3l h3u) (ax_inv (q := ((-2147483648), 2147483647)) rfl h4l h4u))
set_option maxRecDepth 100000 in
theorem ax_op9 (hl : l.stackTraces = false) : ax_go40 l xs 9 := by
  obtain ⟨h0l, h0u, h1l, h1u, h2l, h2u, h3l, h3u, h4l, h4u⟩ := ax_bnd xs
  rcases (by omega : ((-2147483648) ≤ (xs 1).toInt ∧ (xs 1).toInt ≤ (-1)) ∨ (0 ≤ (xs 1).toInt ∧ (xs 1).toInt ≤ 2147483647)) with ⟨h0l, h0u⟩ | ⟨h0l, h0u⟩
  · exact ax_fin hl (as := [.float 0, .float 1, .float 0, .float 0, .float 0, .float 0]) (by decide +kernel) rfl (ax_hv6 (ax_any _) (ax_inv (q := ((-2147483648), (-1))) rfl h0l h0u) (ax_inv (q := ((-2147483648), 2147483647)) rfl h1l h1u) (ax_inv (q := ((-2147483648), 2147483647)) rfl h2l h2u) (ax_inv (q := ((-2147483648), 2147483647)) rfl h3l h3u) (ax_inv (q := ((-2147483648), 2147483647)) rfl h4l h4u))
  · exact ax_fin hl (as := [.float 0, .float 2, .float 0, .float 0, .float 0, .float 0]) (by decide +kernel) rfl (ax_hv6 (ax_any _) (ax_inv (q := (0, 2147483647)) rfl h0l h0u) (ax_inv (q := ((-2147483648), 2147483647)) rfl h1l h1u) (ax_inv (q := ((-2147483648), 2147483647)) rfl h2l h2u) (ax_inv (q := ((-2147483648), 2147483647)) rfl h3l h3u) (ax_inv (q := ((-2147483648), 2147483647)) rfl h4l h4u))
set_option maxRecDepth 100000 in
theorem ax_op10 (hl : l.stackTraces = false) : ax_go40 l xs 10 := by
  obtain ⟨h0l, h0u, h1l, h1u, h2l, h2u, h3l, h3u, h4l, h4u⟩ := ax_bnd xs
  rcases (by omega : ((-2147483648) ≤ (xs 1).toInt ∧ (xs 1).toInt ≤ (-1)) ∨ (0 ≤ (xs 1).toInt ∧ (xs 1).toInt ≤ 2147483647)) with ⟨h0l, h0u⟩ | ⟨h0l, h0u⟩
  · exact ax_fin hl (as := [.float 0, .float 1, .float 0, .float 0, .float 0, .float 0]) (by decide +kernel) rfl (ax_hv6 (ax_any _) (ax_inv (q := ((-2147483648), (-1))) rfl h0l h0u) (ax_inv (q := ((-2147483648), 2147483647)) rfl h1l h1u) (ax_inv (q := ((-2147483648), 2147483647)) rfl h2l h2u) (ax_inv (q := ((-2147483648), 2147483647)) rfl h3l h3u) (ax_inv (q := ((-2147483648), 2147483647)) rfl h4l h4u))
  · exact ax_fin hl (as := [.float 0, .float 2, .float 0, .float 0, .float 0, .float 0]) (by decide +kernel) rfl (ax_hv6 (ax_any _) (ax_inv (q := (0, 2147483647)) rfl h0l h0u) (ax_inv (q := ((-2147483648), 2147483647)) rfl h1l h1u) (ax_inv (q := ((-2147483648), 2147483647)) rfl h2l h2u) (ax_inv (q := ((-2147483648), 2147483647)) rfl h3l h3u) (ax_inv (q := ((-2147483648), 2147483647)) rfl h4l h4u))
set_option maxRecDepth 100000 in
theorem ax_op11 (hl : l.stackTraces = false) : ax_go40 l xs 11 := by
  obtain ⟨h0l, h0u, h1l, h1u, h2l, h2u, h3l, h3u, h4l, h4u⟩ := ax_bnd xs
  rcases (by omega : ((-2147483648) ≤ (xs 1).toInt ∧ (xs 1).toInt ≤ (-1)) ∨ (0 ≤ (xs 1).toInt ∧ (xs 1).toInt ≤ 2147483647)) with ⟨h0l, h0u⟩ | ⟨h0l, h0u⟩
  · exact ax_fin hl (as := [.float 0, .float 1, .float 0, .float 0, .float 0, .float 0]) (by decide +kernel) rfl (ax_hv6 (ax_any _) (ax_inv (q := ((-2147483648), (-1))) rfl h0l h0u) (ax_inv (q := ((-2147483648), 2147483647)) rfl h1l h1u) (ax_inv (q := ((-2147483648), 2147483647)) rfl h2l h2u) (ax_inv (q := ((-2147483648), 2147483647)) rfl h3l h3u) (ax_inv (q := ((-2147483648), 2147483647)) rfl h4l h4u))
  · exact ax_fin hl (as := [.float 0, .float 2, .float 0, .float 0, .float 0, .float 0]) (by decide +kernel) rfl (ax_hv6 (ax_any _) (ax_inv (q := (0, 2147483647)) rfl h0l h0u) (ax_inv (q := ((-2147483648), 2147483647)) rfl h1l h1u) (ax_inv (q := ((-2147483648), 2147483647)) rfl h2l h2u) (ax_inv (q := ((-2147483648), 2147483647)) rfl h3l h3u) (ax_inv (q := ((-2147483648), 2147483647)) rfl h4l h4u))
set_option maxRecDepth 100000 in
theorem ax_op12 (hl : l.stackTraces = false) : ax_go40 l xs 12 := by
  obtain ⟨h0l, h0u, h1l, h1u, h2l, h2u, h3l, h3u, h4l, h4u⟩ := ax_bnd xs
  rcases (by omega : ((-2147483648) ≤ (xs 1).toInt ∧ (xs 1).toInt ≤ (-1)) ∨ (0 ≤ (xs 1).toInt ∧ (xs 1).toInt ≤ 2147483647)) with ⟨h0l, h0u⟩ | ⟨h0l, h0u⟩
  · exact ax_fin hl (as := [.float 0, .float 1, .float 0, .float 0, .float 0, .float 0]) (by decide +kernel) rfl (ax_hv6 (ax_any _) (ax_inv (q := ((-2147483648), (-1))) rfl h0l h0u) (ax_inv (q := ((-2147483648), 2147483647)) rfl h1l h1u) (ax_inv (q := ((-2147483648), 2147483647)) rfl h2l h2u) (ax_inv (q := ((-2147483648), 2147483647)) rfl h3l h3u) (ax_inv (q := ((-2147483648), 2147483647)) rfl h4l h4u))
  · exact ax_fin hl (as := [.float 0, .float 2, .float 0, .float 0, .float 0, .float 0]) (by decide +kernel) rfl (ax_hv6 (ax_any _) (ax_inv (q := (0, 2147483647)) rfl h0l h0u) (ax_inv (q := ((-2147483648), 2147483647)) rfl h1l h1u) (ax_inv (q := ((-2147483648), 2147483647)) rfl h2l h2u) (ax_inv (q := ((-2147483648), 2147483647)) rfl h3l h3u) (ax_inv (q := ((-2147483648), 2147483647)) rfl h4l h4u))
set_option maxRecDepth 100000 in
theorem ax_op13 (hl : l.stackTraces = false) : ax_go40 l xs 13 := by
  obtain ⟨h0l, h0u, h1l, h1u, h2l, h2u, h3l, h3u, h4l, h4u⟩ := ax_bnd xs
  rcases (by omega : ((-2147483648) ≤ (xs 1).toInt ∧ (xs 1).toInt ≤ (-1)) ∨ (0 ≤ (xs 1).toInt ∧ (xs 1).toInt ≤ 2147483647)) with ⟨h0l, h0u⟩ | ⟨h0l, h0u⟩
  · exact ax_fin hl (as := [.float 0, .float 1, .float 0, .float 0, .float 0, .float 0]) (by decide +kernel) rfl (ax_hv6 (ax_any _) (ax_inv (q := ((-2147483648), (-1))) rfl h0l h0u) (ax_inv (q := ((-2147483648), 2147483647)) rfl h1l h1u) (ax_inv (q := ((-2147483648), 2147483647)) rfl h2l h2u) (ax_inv (q := ((-2147483648), 2147483647)) rfl h3l h3u) (ax_inv (q := ((-2147483648), 2147483647)) rfl h4l h4u))
  · exact ax_fin hl (as := [.float 0, .float 2, .float 0, .float 0, .float 0, .float 0]) (by decide +kernel) rfl (ax_hv6 (ax_any _) (ax_inv (q := (0, 2147483647)) rfl h0l h0u) (ax_inv (q := ((-2147483648), 2147483647)) rfl h1l h1u) (ax_inv (q := ((-2147483648), 2147483647)) rfl h2l h2u) (ax_inv (q := ((-2147483648), 2147483647)) rfl h3l h3u) (ax_inv (q := ((-2147483648), 2147483647)) rfl h4l h4u))
set_option maxRecDepth 100000 in
theorem ax_op14 (hl : l.stackTraces = false) : ax_go40 l xs 14 := by
  obtain ⟨h0l, h0u, h1l, h1u, h2l, h2u, h3l, h3u, h4l, h4u⟩ := ax_bnd xs
  rcases (by omega : ((-2147483648) ≤ (xs 1).toInt ∧ (xs 1).toInt ≤ (-1)) ∨ (0 ≤ (xs 1).toInt ∧ (xs 1).toInt ≤ 2147483647)) with ⟨h0l, h0u⟩ | ⟨h0l, h0u⟩
  · exact ax_fin hl (as := [.float 0, .float 1, .float 0, .float 0, .float 0, .float 0]) (by decide +kernel) rfl (ax_hv6 (ax_any _) (ax_inv (q := ((-2147483648), (-1))) rfl h0l h0u) (ax_inv (q := ((-2147483648), 2147483647)) rfl h1l h1u) (ax_inv (q := ((-2147483648), 2147483647)) rfl h2l h2u) (ax_inv (q := ((-2147483648), 2147483647)) rfl h3l h3u) (ax_inv (q := ((-2147483648), 2147483647)) rfl h4l h4u))
  · exact ax_fin hl (as := [.float 0, .float 2, .float 0, .float 0, .float 0, .float 0]) (by decide +kernel) rfl (ax_hv6 (ax_any _) (ax_inv (q := (0, 2147483647)) rfl h0l h0u) (ax_inv (q := ((-2147483648), 2147483647)) rfl h1l h1u) (ax_inv (q := ((-2147483648), 2147483647)) rfl h2l h2u) (ax_inv (q := ((-2147483648), 2147483647)) rfl h3l h3u) (ax_inv (q := ((-2147483648), 2147483647)) rfl h4l h4u))
set_option maxRecDepth 100000 in
theorem ax_op15 (hl : l.stackTraces = false) : ax_go40 l xs 15 := by
  obtain ⟨h0l, h0u, h1l, h1u, h2l, h2u, h3l, h3u, h4l, h4u⟩ := ax_bnd xs
  rcases (by omega : ((-2147483648) ≤ (xs 1).toInt ∧ (xs 1).toInt ≤ (-1)) ∨ (0 ≤ (xs 1).toInt ∧ (xs 1).toInt ≤ 2147483647)) with ⟨h0l, h0u⟩ | ⟨h0l, h0u⟩
  · exact ax_fin hl (as := [.float 0, .float 1, .float 0, .float 0, .float 0, .float 0]) (by decide +kernel) rfl (ax_hv6 (ax_any _) (ax_inv (q := ((-2147483648), (-1))) rfl h0l h0u) (ax_inv (q := ((-2147483648), 2147483647)) rfl h1l h1u) (ax_inv (q := ((-2147483648), 2147483647)) rfl h2l h2u) (ax_inv (q := ((-2147483648), 2147483647)) rfl h3l h3u) (ax_inv (q := ((-2147483648), 2147483647)) rfl h4l h4u))
  · exact ax_fin hl (as := [.float 0, .float 2, .float 0, .float 0, .float 0, .float 0]) (by decide +kernel) rfl (ax_hv6 (ax_any _) (ax_inv (q := (0, 2147483647)) rfl h0l h0u) (ax_inv (q := ((-2147483648), 2147483647)) rfl h1l h1u) (ax_inv (q := ((-2147483648), 2147483647)) rfl h2l h2u) (ax_inv (q := ((-2147483648), 2147483647)) rfl h3l h3u) (ax_inv (q := ((-2147483648), 2147483647)) rfl h4l h4u))
set_option maxRecDepth 100000 in
theorem ax_op16 (hl : l.stackTraces = false) : ax_go40 l xs 16 := by
  obtain ⟨h0l, h0u, h1l, h1u, h2l, h2u, h3l, h3u, h4l, h4u⟩ := ax_bnd xs
  rcases (by omega : ((-2147483648) ≤ (xs 1).toInt ∧ (xs 1).toInt ≤ (-1)) ∨ (0 ≤ (xs 1).toInt ∧ (xs 1).toInt ≤ 2147483647)) with ⟨h0l, h0u⟩ | ⟨h0l, h0u⟩
  · exact ax_fin hl (as := [.float 0, .float 1, .float 0, .float 0, .float 0, .float 0]) (by decide +kernel) rfl (ax_hv6 (ax_any _) (ax_inv (q := ((-2147483648), (-1))) rfl h0l h0u) (ax_inv (q := ((-2147483648), 2147483647)) rfl h1l h1u) (ax_inv (q := ((-2147483648), 2147483647)) rfl h2l h2u) (ax_inv (q := ((-2147483648), 2147483647)) rfl h3l h3u) (ax_inv (q := ((-2147483648), 2147483647)) rfl h4l h4u))
  · exact ax_fin hl (as := [.float 0, .float 2, .float 0, .float 0, .float 0, .float 0]) (by decide +kernel) rfl (ax_hv6 (ax_any _) (ax_inv (q := (0, 2147483647)) rfl h0l h0u) (ax_inv (q := ((-2147483648), 2147483647)) rfl h1l h1u) (ax_inv (q := ((-2147483648), 2147483647)) rfl h2l h2u) (ax_inv (q := ((-2147483648), 2147483647)) rfl h3l h3u) (ax_inv (q := ((-2147483648), 2147483647)) rfl h4l h4u))
set_option maxRecDepth 100000 in
theorem ax_op17 (hl : l.stackTraces = false) : ax_go40 l xs 17 := by
  obtain ⟨h0l, h0u, h1l, h1u, h2l, h2u, h3l, h3u, h4l, h4u⟩ := ax_bnd xs
  rcases (by omega : ((-2147483648) ≤ (xs 1).toInt ∧ (xs 1).toInt ≤ (-1)) ∨ (0 ≤ (xs 1).toInt ∧ (xs 1).toInt ≤ 2147483647)) with ⟨h0l, h0u⟩ | ⟨h0l, h0u⟩
  · exact ax_fin hl (as := [.float 0, .float 1, .float 0, .float 0, .float 0, .float 0]) (by decide +kernel) rfl (ax_hv6 (ax_any _) (ax_inv (q := ((-2147483648), (-1))) rfl h0l h0u) (ax_inv (q := ((-2147483648), 2147483647)) rfl h1l h1u) (ax_inv (q := ((-2147483648), 2147483647)) rfl h2l h2u) (ax_inv (q := ((-2147483648), 2147483647)) rfl h3l h3u) (ax_inv (q := ((-2147483648), 2147483647)) rfl h4l h4u))
  · exact ax_fin hl (as := [.float 0, .float 2, .float 0, .float 0, .float 0, .float 0]) (by decide +kernel) rfl (ax_hv6 (ax_any _) (ax_inv (q := (0, 2147483647)) rfl h0l h0u) (ax_inv (q := ((-2147483648), 2147483647)) rfl h1l h1u) (ax_inv (q := ((-2147483648), 2147483647)) rfl h2l h2u) (ax_inv (q := ((-2147483648), 2147483647)) rfl h3l h3u) (ax_inv (q := ((-2147483648), 2147483647)) rfl h4l h4u))
set_option maxRecDepth 100000 in
theorem ax_op18 (hl : l.stackTraces = false) : ax_go40 l xs 18 := by
  obtain ⟨h0l, h0u, h1l, h1u, h2l, h2u, h3l, h3u, h4l, h4u⟩ := ax_bnd xs
  rcases (by omega : ((-2147483648) ≤ (xs 1).toInt ∧ (xs 1).toInt ≤ (-1)) ∨ (0 ≤ (xs 1).toInt ∧ (xs 1).toInt ≤ 2147483647)) with ⟨h0l, h0u⟩ | ⟨h0l, h0u⟩
  · exact ax_fin hl (as := [.float 0, .float 1, .float 0, .float 0, .float 0, .float 0]) (by decide +kernel) rfl (ax_hv6 (ax_any _) (ax_inv (q := ((-2147483648), (-1))) rfl h0l h0u) (ax_inv (q := ((-2147483648), 2147483647)) rfl h1l h1u) (ax_inv (q := ((-2147483648), 2147483647)) rfl h2l h2u) (ax_inv (q := ((-2147483648), 2147483647)) rfl h3l h3u) (ax_inv (q := ((-2147483648), 2147483647)) rfl h4l h4u))
  · exact ax_fin hl (as := [.float 0, .float 2, .float 0, .float 0, .float 0, .float 0]) (by decide +kernel) rfl (ax_hv6 (ax_any _) (ax_inv (q := (0, 2147483647)) rfl h0l h0u) (ax_inv (q := ((-2147483648), 2147483647)) rfl h1l h1u) (ax_inv (q := ((-2147483648), 2147483647)) rfl h2l h2u) (ax_inv (q := ((-2147483648), 2147483647)) rfl h3l h3u) (ax_inv (q := ((-2147483648), 2147483647)) rfl h4l h4u))
set_option maxRecDepth 100000 in
theorem ax_op19 (hl : l.stackTraces = false) : ax_go40 l xs 19 := by
  obtain ⟨h0l, h0u, h1l, h1u, h2l, h2u, h3l, h3u, h4l, h4u⟩ := ax_bnd xs
  rcases (by omega : ((-2147483648) ≤ (xs 1).toInt ∧ (xs 1).toInt ≤ (-1)) ∨ (0 ≤ (xs 1).toInt ∧ (xs 1).toInt ≤ 2147483647)) with ⟨h0l, h0u⟩ | ⟨h0l, h0u⟩
  · exact ax_fin hl (as := [.float 0, .float 1, .float 0, .float 0, .float 0, .float 0]) (by decide +kernel) rfl (ax_hv6 (ax_any _) (ax_inv (q := ((-2147483648), (-1))) rfl h0l h0u) (ax_inv (q := ((-2147483648), 2147483647)) rfl h1l h1u) (ax_inv (q := ((-2147483648), 2147483647)) rfl h2l h2u) (ax_inv (q := ((-2147483648), 2147483647)) rfl h3l h3u) (ax_inv (q := ((-2147483648), 2147483647)) rfl h4l h4u))
  · exact ax_fin hl (as := [.float 0, .float 2, .float 0, .float 0, .float 0, .float 0]) (by decide +kernel) rfl (ax_hv6 (ax_any _) (ax_inv (q := (0, 2147483647)) rfl h0l h0u) (ax_inv (q := ((-2147483648), 2147483647)) rfl h1l h1u) (ax_inv (q := ((-2147483648), 2147483647)) rfl h2l h2u) (ax_inv (q := ((-2147483648), 2147483647)) rfl h3l h3u) (ax_inv (q := ((-2147483648), 2147483647)) rfl h4l h4u))
set_option maxRecDepth 100000 in
theorem ax_op22 (hl : l.stackTraces = false) : ax_go40 l xs 22 := by
  obtain ⟨h0l, h0u, h1l, h1u, h2l, h2u, h3l, h3u, h4l, h4u⟩ := ax_bnd xs
  rcases (by omega : ((-2147483648) ≤ (xs 1).toInt ∧ (xs 1).toInt ≤ (-1)) ∨ (0 ≤ (xs 1).toInt ∧ (xs 1).toInt ≤ 2147483647)) with ⟨h0l, h0u⟩ | ⟨h0l, h0u⟩
  · exact ax_fin hl (as := [.float 0, .float 1, .float 0, .float 0, .float 0, .float 0]) (by decide +kernel) rfl (ax_hv6 (ax_any _) (ax_inv (q := ((-2147483648), (-1))) rfl h0l h0u) (ax_inv (q := ((-2147483648), 2147483647)) rfl h1l h1u) (ax_inv (q := ((-2147483648), 2147483647)) rfl h2l h2u) (ax_inv (q := ((-2147483648), 2147483647)) rfl h3l h3u) (ax_inv (q := ((-2147483648), 2147483647)) rfl h4l h4u))
  · exact ax_fin hl (as := [.float 0, .float 2, .float 0, .float 0, .float 0, .float 0]) (by decide +kernel) rfl (ax_hv6 (ax_any _) (ax_inv (q := (0, 2147483647)) rfl h0l h0u) (ax_inv (q := ((-2147483648), 2147483647)) rfl h1l h1u) (ax_inv (q := ((-2147483648), 2147483647)) rfl h2l h2u) (ax_inv (q := ((-2147483648), 2147483647)) rfl h3l h3u) (ax_inv (q := ((-2147483648), 2147483647)) rfl h4l h4u))
set_option maxRecDepth 100000 in
theorem ax_op23 (hl : l.stackTraces = false) : ax_go40 l xs 23 := by
  obtain ⟨h0l, h0u, h1l, h1u, h2l, h2u, h3l, h3u, h4l, h4u⟩ := ax_bnd xs
  exact ax_fin hl (as := [.float 0, .float 0, .float 0, .float 0, .float 0, .float 0]) (by decide +kernel) rfl (ax_hv6 (ax_any _) (ax_inv (q := ((-2147483648), 2147483647)) rfl h0l h0u) (ax_inv (q := ((-2147483648), 2147483647)) rfl h1l h1u) (ax_inv (q := ((-2147483648), 2147483647)) rfl h2l h2u) (ax_inv (q := ((-2147483648), 2147483647)) rfl h3l h3u) (ax_inv (q := ((-2147483648), 2147483647)) rfl h4l h4u))
set_option maxRecDepth 100000 in
theorem ax_op24 (hl : l.stackTraces = false) : ax_go40 l xs 24 := by
  obtain ⟨h0l, h0u, h1l, h1u, h2l, h2u, h3l, h3u, h4l, h4u⟩ := ax_bnd xs
  rcases (by omega : ((-2147483648) ≤ (xs 1).toInt ∧ (xs 1).toInt ≤ (-1)) ∨ (0 ≤ (xs 1).toInt ∧ (xs 1).toInt ≤ 2147483647)) with ⟨h0l, h0u⟩ | ⟨h0l, h0u⟩
  · exact ax_fin hl (as := [.float 0, .float 1, .float 0, .float 0, .float 0, .float 0]) (by decide +kernel) rfl (ax_hv6 (ax_any _) (ax_inv (q := ((-2147483648), (-1))) rfl h0l h0u) (ax_inv (q := ((-2147483648), 2147483647)) rfl h1l h1u) (ax_inv (q := ((-2147483648), 2147483647)) rfl h2l h2u) (ax_inv (q := ((-2147483648), 2147483647)) rfl h3l h3u) (ax_inv (q := ((-2147483648), 2147483647)) rfl h4l h4u))
  · rcases (by omega : (0 ≤ (xs 1).toInt ∧ (xs 1).toInt ≤ 23) ∨ (24 ≤ (xs 1).toInt ∧ (xs 1).toInt ≤ 2147483647)) with ⟨h0l, h0u⟩ | ⟨h0l, h0u⟩
    · obtain ⟨k, hk, ek⟩ := ax_small 24 h0l (by omega)
      exact ax_fin hl (as := [.float 0, .int (Int32.ofNat k), .float 0, .float 0, .float 0, .float 0]) (ax_rng (p := fun k => ax_runs ax_no 24 [.float 0, .int (Int32.ofNat k), .float 0, .float 0, .float 0, .float 0]) (by decide +kernel) k hk) rfl (ax_hv6 (ax_any _) ek (ax_inv (q := ((-2147483648), 2147483647)) rfl h1l h1u) (ax_inv (q := ((-2147483648), 2147483647)) rfl h2l h2u) (ax_inv (q := ((-2147483648), 2147483647)) rfl h3l h3u) (ax_inv (q := ((-2147483648), 2147483647)) rfl h4l h4u))
    · exact ax_fin hl (as := [.float 0, .float 3, .float 0, .float 0, .float 0, .float 0]) (by decide +kernel) rfl (ax_hv6 (ax_any _) (ax_inv (q := (24, 2147483647)) rfl h0l h0u) (ax_inv (q := ((-2147483648), 2147483647)) rfl h1l h1u) (ax_inv (q := ((-2147483648), 2147483647)) rfl h2l h2u) (ax_inv (q := ((-2147483648), 2147483647)) rfl h3l h3u) (ax_inv (q := ((-2147483648), 2147483647)) rfl h4l h4u))
set_option maxRecDepth 100000 in
theorem ax_op25 (hl : l.stackTraces = false) : ax_go40 l xs 25 := by
  obtain ⟨h0l, h0u, h1l, h1u, h2l, h2u, h3l, h3u, h4l, h4u⟩ := ax_bnd xs
  exact ax_fin hl (as := [.float 0, .float 0, .float 0, .float 0, .float 0, .float 0]) (by decide +kernel) rfl (ax_hv6 (ax_any _) (ax_inv (q := ((-2147483648), 2147483647)) rfl h0l h0u) (ax_inv (q := ((-2147483648), 2147483647)) rfl h1l h1u) (ax_inv (q := ((-2147483648), 2147483647)) rfl h2l h2u) (ax_inv (q := ((-2147483648), 2147483647)) rfl h3l h3u) (ax_inv (q := ((-2147483648), 2147483647)) rfl h4l h4u))
set_option maxRecDepth 100000 in
theorem ax_op26 (hl : l.stackTraces = false) : ax_go40 l xs 26 := by
  obtain ⟨h0l, h0u, h1l, h1u, h2l, h2u, h3l, h3u, h4l, h4u⟩ := ax_bnd xs
  exact ax_fin hl (as := [.float 0, .float 0, .float 0, .float 0, .float 0, .float 0]) (by decide +kernel) rfl (ax_hv6 (ax_any _) (ax_inv (q := ((-2147483648), 2147483647)) rfl h0l h0u) (ax_inv (q := ((-2147483648), 2147483647)) rfl h1l h1u) (ax_inv (q := ((-2147483648), 2147483647)) rfl h2l h2u) (ax_inv (q := ((-2147483648), 2147483647)) rfl h3l h3u) (ax_inv (q := ((-2147483648), 2147483647)) rfl h4l h4u))
set_option maxRecDepth 100000 in
theorem ax_op27 (hl : l.stackTraces = false) : ax_go40 l xs 27 := by
  obtain ⟨h0l, h0u, h1l, h1u, h2l, h2u, h3l, h3u, h4l, h4u⟩ := ax_bnd xs
  exact ax_fin hl (as := [.float 0, .float 0, .float 0, .float 0, .float 0, .float 0]) (by decide +kernel) rfl (ax_hv6 (ax_any _) (ax_inv (q := ((-2147483648), 2147483647)) rfl h0l h0u) (ax_inv (q := ((-2147483648), 2147483647)) rfl h1l h1u) (ax_inv (q := ((-2147483648), 2147483647)) rfl h2l h2u) (ax_inv (q := ((-2147483648), 2147483647)) rfl h3l h3u) (ax_inv (q := ((-2147483648), 2147483647)) rfl h4l h4u))
set_option maxRecDepth 100000 in
theorem ax_op28 (hl : l.stackTraces = false) : ax_go40 l xs 28 := by
  obtain ⟨h0l, h0u, h1l, h1u, h2l, h2u, h3l, h3u, h4l, h4u⟩ := ax_bnd xs
  rcases (by omega : ((-2147483648) ≤ (xs 1).toInt ∧ (xs 1).toInt ≤ (-1)) ∨ (0 ≤ (xs 1).toInt ∧ (xs 1).toInt ≤ 2147483647)) with ⟨h0l, h0u⟩ | ⟨h0l, h0u⟩
  · exact ax_fin hl (as := [.float 0, .float 1, .float 0, .float 0, .float 0, .float 0]) (by decide +kernel) rfl (ax_hv6 (ax_any _) (ax_inv (q := ((-2147483648), (-1))) rfl h0l h0u) (ax_inv (q := ((-2147483648), 2147483647)) rfl h1l h1u) (ax_inv (q := ((-2147483648), 2147483647)) rfl h2l h2u) (ax_inv (q := ((-2147483648), 2147483647)) rfl h3l h3u) (ax_inv (q := ((-2147483648), 2147483647)) rfl h4l h4u))
  · rcases (by omega : (0 ≤ (xs 1).toInt ∧ (xs 1).toInt ≤ 11) ∨ (12 ≤ (xs 1).toInt ∧ (xs 1).toInt ≤ 2147483647)) with ⟨h0l, h0u⟩ | ⟨h0l, h0u⟩
    · obtain ⟨k, hk, ek⟩ := ax_small 12 h0l (by omega)
      exact ax_fin hl (as := [.float 0, .int (Int32.ofNat k), .float 0, .float 0, .float 0, .float 0]) (ax_rng (p := fun k => ax_runs ax_no 28 [.float 0, .int (Int32.ofNat k), .float 0, .float 0, .float 0, .float 0]) (by decide +kernel) k hk) rfl (ax_hv6 (ax_any _) ek (ax_inv (q := ((-2147483648), 2147483647)) rfl h1l h1u) (ax_inv (q := ((-2147483648), 2147483647)) rfl h2l h2u) (ax_inv (q := ((-2147483648), 2147483647)) rfl h3l h3u) (ax_inv (q := ((-2147483648), 2147483647)) rfl h4l h4u))
    · exact ax_fin hl (as := [.float 0, .float 4, .float 0, .float 0, .float 0, .float 0]) (by decide +kernel) rfl (ax_hv6 (ax_any _) (ax_inv (q := (12, 2147483647)) rfl h0l h0u) (ax_inv (q := ((-2147483648), 2147483647)) rfl h1l h1u) (ax_inv (q := ((-2147483648), 2147483647)) rfl h2l h2u) (ax_inv (q := ((-2147483648), 2147483647)) rfl h3l h3u) (ax_inv (q := ((-2147483648), 2147483647)) rfl h4l h4u))
set_option maxRecDepth 100000 in
theorem ax_op29 (hl : l.stackTraces = false) : ax_go40 l xs 29 := by
  obtain ⟨h0l, h0u, h1l, h1u, h2l, h2u, h3l, h3u, h4l, h4u⟩ := ax_bnd xs
  exact ax_fin hl (as := [.float 0, .float 0, .float 0, .float 0, .float 0, .float 0]) (by decide +kernel) rfl (ax_hv6 (ax_any _) (ax_inv (q := ((-2147483648), 2147483647)) rfl h0l h0u) (ax_inv (q := ((-2147483648), 2147483647)) rfl h1l h1u) (ax_inv (q := ((-2147483648), 2147483647)) rfl h2l h2u) (ax_inv (q := ((-2147483648), 2147483647)) rfl h3l h3u) (ax_inv (q := ((-2147483648), 2147483647)) rfl h4l h4u))
set_option maxRecDepth 100000 in
theorem ax_op33 (hl : l.stackTraces = false) : ax_go40 l xs 33 := by
  obtain ⟨h0l, h0u, h1l, h1u, h2l, h2u, h3l, h3u, h4l, h4u⟩ := ax_bnd xs
  rcases (by omega : ((-2147483648) ≤ (xs 1).toInt ∧ (xs 1).toInt ≤ (-1)) ∨ (0 ≤ (xs 1).toInt ∧ (xs 1).toInt ≤ 2147483647)) with ⟨h0l, h0u⟩ | ⟨h0l, h0u⟩
  · exact ax_fin hl (as := [.float 0, .float 1, .float 0, .float 0, .float 0, .float 0]) (by decide +kernel) rfl (ax_hv6 (ax_any _) (ax_inv (q := ((-2147483648), (-1))) rfl h0l h0u) (ax_inv (q := ((-2147483648), 2147483647)) rfl h1l h1u) (ax_inv (q := ((-2147483648), 2147483647)) rfl h2l h2u) (ax_inv (q := ((-2147483648), 2147483647)) rfl h3l h3u) (ax_inv (q := ((-2147483648), 2147483647)) rfl h4l h4u))
  · rcases (by omega : (0 ≤ (xs 1).toInt ∧ (xs 1).toInt ≤ 11) ∨ (12 ≤ (xs 1).toInt ∧ (xs 1).toInt ≤ 2147483647)) with ⟨h0l, h0u⟩ | ⟨h0l, h0u⟩
    · rcases (by omega : ((-2147483648) ≤ (xs 2).toInt ∧ (xs 2).toInt ≤ (-1001)) ∨ ((-1000) ≤ (xs 2).toInt ∧ (xs 2).toInt ≤ 2147483647)) with ⟨h1l, h1u⟩ | ⟨h1l, h1u⟩
      · exact ax_fin hl (as := [.float 0, .float 12, .float 6, .float 0, .float 0, .float 0]) (by decide +kernel) rfl (ax_hv6 (ax_any _) (ax_inv (q := (0, 11)) rfl h0l h0u) (ax_inv (q := ((-2147483648), (-1001))) rfl h1l h1u) (ax_inv (q := ((-2147483648), 2147483647)) rfl h2l h2u) (ax_inv (q := ((-2147483648), 2147483647)) rfl h3l h3u) (ax_inv (q := ((-2147483648), 2147483647)) rfl h4l h4u))
      · rcases (by omega : ((-1000) ≤ (xs 2).toInt ∧ (xs 2).toInt ≤ 1000) ∨ (1001 ≤ (xs 2).toInt ∧ (xs 2).toInt ≤ 2147483647)) with ⟨h1l, h1u⟩ | ⟨h1l, h1u⟩
        · obtain ⟨k, hk, ek⟩ := ax_small 12 h0l (by omega)
          exact ax_fin hl (as := [.float 0, .int (Int32.ofNat k), .float 8, .float 0, .float 0, .float 0]) (ax_rng (p := fun k => ax_runs ax_no 33 [.float 0, .int (Int32.ofNat k), .float 8, .float 0, .float 0, .float 0]) (by decide +kernel) k hk) rfl (ax_hv6 (ax_any _) ek (ax_inv (q := ((-1000), 1000)) rfl h1l h1u) (ax_inv (q := ((-2147483648), 2147483647)) rfl h2l h2u) (ax_inv (q := ((-2147483648), 2147483647)) rfl h3l h3u) (ax_inv (q := ((-2147483648), 2147483647)) rfl h4l h4u))
        · exact ax_fin hl (as := [.float 0, .float 12, .float 7, .float 0, .float 0, .float 0]) (by decide +kernel) rfl (ax_hv6 (ax_any _) (ax_inv (q := (0, 11)) rfl h0l h0u) (ax_inv (q := (1001, 2147483647)) rfl h1l h1u) (ax_inv (q := ((-2147483648), 2147483647)) rfl h2l h2u) (ax_inv (q := ((-2147483648), 2147483647)) rfl h3l h3u) (ax_inv (q := ((-2147483648), 2147483647)) rfl h4l h4u))
    · exact ax_fin hl (as := [.float 0, .float 4, .float 0, .float 0, .float 0, .float 0]) (by decide +kernel) rfl (ax_hv6 (ax_any _) (ax_inv (q := (12, 2147483647)) rfl h0l h0u) (ax_inv (q := ((-2147483648), 2147483647)) rfl h1l h1u) (ax_inv (q := ((-2147483648), 2147483647)) rfl h2l h2u) (ax_inv (q := ((-2147483648), 2147483647)) rfl h3l h3u) (ax_inv (q := ((-2147483648), 2147483647)) rfl h4l h4u))
set_option maxRecDepth 100000 in
theorem ax_op37 (hl : l.stackTraces = false) : ax_go40 l xs 37 := by
  obtain ⟨h0l, h0u, h1l, h1u, h2l, h2u, h3l, h3u, h4l, h4u⟩ := ax_bnd xs
  rcases (by omega : ((-2147483648) ≤ (xs 1).toInt ∧ (xs 1).toInt ≤ (-1)) ∨ (0 ≤ (xs 1).toInt ∧ (xs 1).toInt ≤ 2147483647)) with ⟨h0l, h0u⟩ | ⟨h0l, h0u⟩
  · exact ax_fin hl (as := [.float 0, .float 1, .float 0, .float 0, .float 0, .float 0]) (by decide +kernel) rfl (ax_hv6 (ax_any _) (ax_inv (q := ((-2147483648), (-1))) rfl h0l h0u) (ax_inv (q := ((-2147483648), 2147483647)) rfl h1l h1u) (ax_inv (q := ((-2147483648), 2147483647)) rfl h2l h2u) (ax_inv (q := ((-2147483648), 2147483647)) rfl h3l h3u) (ax_inv (q := ((-2147483648), 2147483647)) rfl h4l h4u))
  · exact ax_fin hl (as := [.float 0, .float 2, .float 0, .float 0, .float 0, .float 0]) (by decide +kernel) rfl (ax_hv6 (ax_any _) (ax_inv (q := (0, 2147483647)) rfl h0l h0u) (ax_inv (q := ((-2147483648), 2147483647)) rfl h1l h1u) (ax_inv (q := ((-2147483648), 2147483647)) rfl h2l h2u) (ax_inv (q := ((-2147483648), 2147483647)) rfl h3l h3u) (ax_inv (q := ((-2147483648), 2147483647)) rfl h4l h4u))
set_option maxRecDepth 100000 in
theorem ax_op38 (hl : l.stackTraces = false) : ax_go40 l xs 38 := by
  obtain ⟨h0l, h0u, h1l, h1u, h2l, h2u, h3l, h3u, h4l, h4u⟩ := ax_bnd xs
  exact ax_fin hl (as := [.float 0, .float 0, .float 0, .float 0, .float 0, .float 0]) (by decide +kernel) rfl (ax_hv6 (ax_any _) (ax_inv (q := ((-2147483648), 2147483647)) rfl h0l h0u) (ax_inv (q := ((-2147483648), 2147483647)) rfl h1l h1u) (ax_inv (q := ((-2147483648), 2147483647)) rfl h2l h2u) (ax_inv (q := ((-2147483648), 2147483647)) rfl h3l h3u) (ax_inv (q := ((-2147483648), 2147483647)) rfl h4l h4u))
set_option maxRecDepth 100000 in
theorem ax_op39 (hl : l.stackTraces = false) : ax_go40 l xs 39 := by
  obtain ⟨h0l, h0u, h1l, h1u, h2l, h2u, h3l, h3u, h4l, h4u⟩ := ax_bnd xs
  exact ax_fin hl (as := [.float 0, .float 0, .float 0, .float 0, .float 0, .float 0]) (by decide +kernel) rfl (ax_hv6 (ax_any _) (ax_inv (q := ((-2147483648), 2147483647)) rfl h0l h0u) (ax_inv (q := ((-2147483648), 2147483647)) rfl h1l h1u) (ax_inv (q := ((-2147483648), 2147483647)) rfl h2l h2u) (ax_inv (q := ((-2147483648), 2147483647)) rfl h3l h3u) (ax_inv (q := ((-2147483648), 2147483647)) rfl h4l h4u))
set_option maxRecDepth 100000 in
theorem ax_op40 (hl : l.stackTraces = false) : ax_go40 l xs 40 := by
  obtain ⟨h0l, h0u, h1l, h1u, h2l, h2u, h3l, h3u, h4l, h4u⟩ := ax_bnd xs
  exact ax_fin hl (as := [.float 0, .float 0, .float 0, .float 0, .float 0, .float 0]) (by decide +kernel) rfl (ax_hv6 (ax_any _) (ax_inv (q := ((-2147483648), 2147483647)) rfl h0l h0u) (ax_inv (q := ((-2147483648), 2147483647)) rfl h1l h1u) (ax_inv (q := ((-2147483648), 2147483647)) rfl h2l h2u) (ax_inv (q := ((-2147483648), 2147483647)) rfl h3l h3u) (ax_inv (q := ((-2147483648), 2147483647)) rfl h4l h4u))
end AXP
