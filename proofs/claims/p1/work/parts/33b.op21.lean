/-! group: the literals -/
set_option maxRecDepth 100000 in
theorem ax_x21_0 : ax_runs ax_no 21 [.float 0, .int (Int32.ofNat 0), .float 0, .float 0, .float 0, .float 0] = true := by decide +kernel
set_option maxRecDepth 100000 in
theorem ax_x21_1 : ax_runs ax_no 21 [.float 0, .int (Int32.ofNat 1), .float 0, .float 0, .float 0, .float 0] = true := by decide +kernel
set_option maxRecDepth 100000 in
theorem ax_x21_2 : ax_runs ax_no 21 [.float 0, .int (Int32.ofNat 2), .float 0, .float 0, .float 0, .float 0] = true := by decide +kernel
set_option maxRecDepth 100000 in
theorem ax_x21_3 : ax_runs ax_no 21 [.float 0, .int (Int32.ofNat 3), .float 0, .float 0, .float 0, .float 0] = true := by decide +kernel
set_option maxRecDepth 100000 in
theorem ax_x21_4 : ax_runs ax_no 21 [.float 0, .int (Int32.ofNat 4), .float 0, .float 0, .float 0, .float 0] = true := by decide +kernel
set_option maxRecDepth 100000 in
theorem ax_x21_5 : ax_runs ax_no 21 [.float 0, .int (Int32.ofNat 5), .float 0, .float 0, .float 0, .float 0] = true := by decide +kernel
set_option maxRecDepth 100000 in
theorem ax_x21_6 : ax_runs ax_no 21 [.float 0, .int (Int32.ofNat 6), .float 0, .float 0, .float 0, .float 0] = true := by decide +kernel
set_option maxRecDepth 100000 in
theorem ax_x21_7 : ax_runs ax_no 21 [.float 0, .int (Int32.ofNat 7), .float 0, .float 0, .float 0, .float 0] = true := by decide +kernel
set_option maxRecDepth 100000 in
theorem ax_x21_8 : ax_runs ax_no 21 [.float 0, .int (Int32.ofNat 8), .float 0, .float 0, .float 0, .float 0] = true := by decide +kernel
set_option maxRecDepth 100000 in
theorem ax_x21_9 : ax_runs ax_no 21 [.float 0, .int (Int32.ofNat 9), .float 0, .float 0, .float 0, .float 0] = true := by decide +kernel
set_option maxRecDepth 100000 in
theorem ax_x21_10 : ax_runs ax_no 21 [.float 0, .int (Int32.ofNat 10), .float 0, .float 0, .float 0, .float 0] = true := by decide +kernel
set_option maxRecDepth 100000 in
theorem ax_x21_11 : ax_runs ax_no 21 [.float 0, .int (Int32.ofNat 11), .float 0, .float 0, .float 0, .float 0] = true := by decide +kernel
set_option maxRecDepth 100000 in
theorem ax_x21_12 : ax_runs ax_no 21 [.float 0, .int (Int32.ofNat 12), .float 0, .float 0, .float 0, .float 0] = true := by decide +kernel
set_option maxRecDepth 100000 in
theorem ax_x21_13 : ax_runs ax_no 21 [.float 0, .int (Int32.ofNat 13), .float 0, .float 0, .float 0, .float 0] = true := by decide +kernel
set_option maxRecDepth 100000 in
theorem ax_x21_14 : ax_runs ax_no 21 [.float 0, .int (Int32.ofNat 14), .float 0, .float 0, .float 0, .float 0] = true := by decide +kernel
set_option maxRecDepth 100000 in
theorem ax_x21_15 : ax_runs ax_no 21 [.float 0, .int (Int32.ofNat 15), .float 0, .float 0, .float 0, .float 0] = true := by decide +kernel
set_option maxRecDepth 100000 in
theorem ax_x21_16 : ax_runs ax_no 21 [.float 0, .int (Int32.ofNat 16), .float 0, .float 0, .float 0, .float 0] = true := by decide +kernel
set_option maxRecDepth 100000 in
theorem ax_x21_17 : ax_runs ax_no 21 [.float 0, .int (Int32.ofNat 17), .float 0, .float 0, .float 0, .float 0] = true := by decide +kernel
set_option maxRecDepth 100000 in
theorem ax_x21_18 : ax_runs ax_no 21 [.float 0, .int (Int32.ofNat 18), .float 0, .float 0, .float 0, .float 0] = true := by decide +kernel
set_option maxRecDepth 100000 in
theorem ax_x21_19 : ax_runs ax_no 21 [.float 0, .int (Int32.ofNat 19), .float 0, .float 0, .float 0, .float 0] = true := by decide +kernel
set_option maxRecDepth 100000 in
theorem ax_x21_20 : ax_runs ax_no 21 [.float 0, .int (Int32.ofNat 20), .float 0, .float 0, .float 0, .float 0] = true := by decide +kernel
set_option maxRecDepth 100000 in
theorem ax_x21_21 : ax_runs ax_no 21 [.float 0, .int (Int32.ofNat 21), .float 0, .float 0, .float 0, .float 0] = true := by decide +kernel
set_option maxRecDepth 100000 in
theorem ax_x21_22 : ax_runs ax_no 21 [.float 0, .int (Int32.ofNat 22), .float 0, .float 0, .float 0, .float 0] = true := by decide +kernel
set_option maxRecDepth 100000 in
theorem ax_x21_23 : ax_runs ax_no 21 [.float 0, .int (Int32.ofNat 23), .float 0, .float 0, .float 0, .float 0] = true := by decide +kernel
theorem ax_x21 (k : Nat) (hk : k < 24) : ax_runs ax_no 21 [.float 0, .int (Int32.ofNat k), .float 0, .float 0, .float 0, .float 0] = true := by
  match k, hk with
  | 0, _ => exact ax_x21_0
  | 1, _ => exact ax_x21_1
  | 2, _ => exact ax_x21_2
  | 3, _ => exact ax_x21_3
  | 4, _ => exact ax_x21_4
  | 5, _ => exact ax_x21_5
  | 6, _ => exact ax_x21_6
  | 7, _ => exact ax_x21_7
  | 8, _ => exact ax_x21_8
  | 9, _ => exact ax_x21_9
  | 10, _ => exact ax_x21_10
  | 11, _ => exact ax_x21_11
  | 12, _ => exact ax_x21_12
  | 13, _ => exact ax_x21_13
  | 14, _ => exact ax_x21_14
  | 15, _ => exact ax_x21_15
  | 16, _ => exact ax_x21_16
  | 17, _ => exact ax_x21_17
  | 18, _ => exact ax_x21_18
  | 19, _ => exact ax_x21_19
  | 20, _ => exact ax_x21_20
  | 21, _ => exact ax_x21_21
  | 22, _ => exact ax_x21_22
  | 23, _ => exact ax_x21_23
  | k + 24, hk => omega
section AXP
variable {l : Launch} {xs : Nat → Int32}
set_option maxRecDepth 100000 in
theorem ax_op21 (hl : l.stackTraces = false) : ax_go40 l xs 21 := by
  obtain ⟨h0l, h0u, h1l, h1u, h2l, h2u, h3l, h3u, h4l, h4u⟩ := ax_bnd xs
  rcases (by omega : ((-2147483648) ≤ (xs 1).toInt ∧ (xs 1).toInt ≤ (-1)) ∨ (0 ≤ (xs 1).toInt ∧ (xs 1).toInt ≤ 2147483647)) with ⟨h0l, h0u⟩ | ⟨h0l, h0u⟩
  · exact ax_fin hl (as := [.float 0, .float 1, .float 0, .float 0, .float 0, .float 0]) (by decide +kernel) rfl (ax_hv6 (ax_any _) (ax_inv (q := ((-2147483648), (-1))) rfl h0l h0u) (ax_inv (q := ((-2147483648), 2147483647)) rfl h1l h1u) (ax_inv (q := ((-2147483648), 2147483647)) rfl h2l h2u) (ax_inv (q := ((-2147483648), 2147483647)) rfl h3l h3u) (ax_inv (q := ((-2147483648), 2147483647)) rfl h4l h4u))
  · rcases (by omega : (0 ≤ (xs 1).toInt ∧ (xs 1).toInt ≤ 23) ∨ (24 ≤ (xs 1).toInt ∧ (xs 1).toInt ≤ 2147483647)) with ⟨h0l, h0u⟩ | ⟨h0l, h0u⟩
    · obtain ⟨k, hk, ek⟩ := ax_small 24 h0l (by omega)
      exact ax_fin hl (as := [.float 0, .int (Int32.ofNat k), .float 0, .float 0, .float 0, .float 0]) (ax_x21 k hk) rfl (ax_hv6 (ax_any _) ek (ax_any _) (ax_any _) (ax_any _) (ax_any _))
    · exact ax_fin hl (as := [.float 0, .float 3, .float 0, .float 0, .float 0, .float 0]) (by decide +kernel) rfl (ax_hv6 (ax_any _) (ax_inv (q := (24, 2147483647)) rfl h0l h0u) (ax_inv (q := ((-2147483648), 2147483647)) rfl h1l h1u) (ax_inv (q := ((-2147483648), 2147483647)) rfl h2l h2u) (ax_inv (q := ((-2147483648), 2147483647)) rfl h3l h3u) (ax_inv (q := ((-2147483648), 2147483647)) rfl h4l h4u))
end AXP
