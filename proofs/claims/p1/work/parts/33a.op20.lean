/-! exclude: the pairs of literals -/
set_option maxRecDepth 100000 in
theorem ax_x20_0 : (List.range 24).all (fun j => ax_runs ax_no 20 [.float 0, .int (Int32.ofNat 0), .int (Int32.ofNat j), .float 0, .float 0, .float 0]) = true := by decide +kernel
set_option maxRecDepth 100000 in
theorem ax_x20_1 : (List.range 24).all (fun j => ax_runs ax_no 20 [.float 0, .int (Int32.ofNat 1), .int (Int32.ofNat j), .float 0, .float 0, .float 0]) = true := by decide +kernel
set_option maxRecDepth 100000 in
theorem ax_x20_2 : (List.range 24).all (fun j => ax_runs ax_no 20 [.float 0, .int (Int32.ofNat 2), .int (Int32.ofNat j), .float 0, .float 0, .float 0]) = true := by decide +kernel
set_option maxRecDepth 100000 in
theorem ax_x20_3 : (List.range 24).all (fun j => ax_runs ax_no 20 [.float 0, .int (Int32.ofNat 3), .int (Int32.ofNat j), .float 0, .float 0, .float 0]) = true := by decide +kernel
set_option maxRecDepth 100000 in
theorem ax_x20_4 : (List.range 24).all (fun j => ax_runs ax_no 20 [.float 0, .int (Int32.ofNat 4), .int (Int32.ofNat j), .float 0, .float 0, .float 0]) = true := by decide +kernel
set_option maxRecDepth 100000 in
theorem ax_x20_5 : (List.range 24).all (fun j => ax_runs ax_no 20 [.float 0, .int (Int32.ofNat 5), .int (Int32.ofNat j), .float 0, .float 0, .float 0]) = true := by decide +kernel
set_option maxRecDepth 100000 in
theorem ax_x20_6 : (List.range 24).all (fun j => ax_runs ax_no 20 [.float 0, .int (Int32.ofNat 6), .int (Int32.ofNat j), .float 0, .float 0, .float 0]) = true := by decide +kernel
set_option maxRecDepth 100000 in
theorem ax_x20_7 : (List.range 24).all (fun j => ax_runs ax_no 20 [.float 0, .int (Int32.ofNat 7), .int (Int32.ofNat j), .float 0, .float 0, .float 0]) = true := by decide +kernel
set_option maxRecDepth 100000 in
theorem ax_x20_8 : (List.range 24).all (fun j => ax_runs ax_no 20 [.float 0, .int (Int32.ofNat 8), .int (Int32.ofNat j), .float 0, .float 0, .float 0]) = true := by decide +kernel
set_option maxRecDepth 100000 in
theorem ax_x20_9 : (List.range 24).all (fun j => ax_runs ax_no 20 [.float 0, .int (Int32.ofNat 9), .int (Int32.ofNat j), .float 0, .float 0, .float 0]) = true := by decide +kernel
set_option maxRecDepth 100000 in
theorem ax_x20_10 : (List.range 24).all (fun j => ax_runs ax_no 20 [.float 0, .int (Int32.ofNat 10), .int (Int32.ofNat j), .float 0, .float 0, .float 0]) = true := by decide +kernel
set_option maxRecDepth 100000 in
theorem ax_x20_11 : (List.range 24).all (fun j => ax_runs ax_no 20 [.float 0, .int (Int32.ofNat 11), .int (Int32.ofNat j), .float 0, .float 0, .float 0]) = true := by decide +kernel
set_option maxRecDepth 100000 in
theorem ax_x20_12 : (List.range 24).all (fun j => ax_runs ax_no 20 [.float 0, .int (Int32.ofNat 12), .int (Int32.ofNat j), .float 0, .float 0, .float 0]) = true := by decide +kernel
set_option maxRecDepth 100000 in
theorem ax_x20_13 : (List.range 24).all (fun j => ax_runs ax_no 20 [.float 0, .int (Int32.ofNat 13), .int (Int32.ofNat j), .float 0, .float 0, .float 0]) = true := by decide +kernel
set_option maxRecDepth 100000 in
theorem ax_x20_14 : (List.range 24).all (fun j => ax_runs ax_no 20 [.float 0, .int (Int32.ofNat 14), .int (Int32.ofNat j), .float 0, .float 0, .float 0]) = true := by decide +kernel
set_option maxRecDepth 100000 in
theorem ax_x20_15 : (List.range 24).all (fun j => ax_runs ax_no 20 [.float 0, .int (Int32.ofNat 15), .int (Int32.ofNat j), .float 0, .float 0, .float 0]) = true := by decide +kernel
set_option maxRecDepth 100000 in
theorem ax_x20_16 : (List.range 24).all (fun j => ax_runs ax_no 20 [.float 0, .int (Int32.ofNat 16), .int (Int32.ofNat j), .float 0, .float 0, .float 0]) = true := by decide +kernel
set_option maxRecDepth 100000 in
theorem ax_x20_17 : (List.range 24).all (fun j => ax_runs ax_no 20 [.float 0, .int (Int32.ofNat 17), .int (Int32.ofNat j), .float 0, .float 0, .float 0]) = true := by decide +kernel
set_option maxRecDepth 100000 in
theorem ax_x20_18 : (List.range 24).all (fun j => ax_runs ax_no 20 [.float 0, .int (Int32.ofNat 18), .int (Int32.ofNat j), .float 0, .float 0, .float 0]) = true := by decide +kernel
set_option maxRecDepth 100000 in
theorem ax_x20_19 : (List.range 24).all (fun j => ax_runs ax_no 20 [.float 0, .int (Int32.ofNat 19), .int (Int32.ofNat j), .float 0, .float 0, .float 0]) = true := by decide +kernel
set_option maxRecDepth 100000 in
theorem ax_x20_20 : (List.range 24).all (fun j => ax_runs ax_no 20 [.float 0, .int (Int32.ofNat 20), .int (Int32.ofNat j), .float 0, .float 0, .float 0]) = true := by decide +kernel
set_option maxRecDepth 100000 in
theorem ax_x20_21 : (List.range 24).all (fun j => ax_runs ax_no 20 [.float 0, .int (Int32.ofNat 21), .int (Int32.ofNat j), .float 0, .float 0, .float 0]) = true := by decide +kernel
set_option maxRecDepth 100000 in
theorem ax_x20_22 : (List.range 24).all (fun j => ax_runs ax_no 20 [.float 0, .int (Int32.ofNat 22), .int (Int32.ofNat j), .float 0, .float 0, .float 0]) = true := by decide +kernel
set_option maxRecDepth 100000 in
theorem ax_x20_23 : (List.range 24).all (fun j => ax_runs ax_no 20 [.float 0, .int (Int32.ofNat 23), .int (Int32.ofNat j), .float 0, .float 0, .float 0]) = true := by decide +kernel
theorem ax_x20 (k : Nat) (hk : k < 24) : (List.range 24).all (fun j => ax_runs ax_no 20 [.float 0, .int (Int32.ofNat k), .int (Int32.ofNat j), .float 0, .float 0, .float 0]) = true := by
  match k, hk with
  | 0, _ => exact ax_x20_0
  | 1, _ => exact ax_x20_1
  | 2, _ => exact ax_x20_2
  | 3, _ => exact ax_x20_3
  | 4, _ => exact ax_x20_4
  | 5, _ => exact ax_x20_5
  | 6, _ => exact ax_x20_6
  | 7, _ => exact ax_x20_7
  | 8, _ => exact ax_x20_8
  | 9, _ => exact ax_x20_9
  | 10, _ => exact ax_x20_10
  | 11, _ => exact ax_x20_11
  | 12, _ => exact ax_x20_12
  | 13, _ => exact ax_x20_13
  | 14, _ => exact ax_x20_14
  | 15, _ => exact ax_x20_15
  | 16, _ => exact ax_x20_16
  | 17, _ => exact ax_x20_17
  | 18, _ => exact ax_x20_18
  | 19, _ => exact ax_x20_19
  | 20, _ => exact ax_x20_20
  | 21, _ => exact ax_x20_21
  | 22, _ => exact ax_x20_22
  | 23, _ => exact ax_x20_23
  | k + 24, hk => omega
section AXP
variable {l : Launch} {xs : Nat → Int32}
set_option maxRecDepth 100000 in
theorem ax_op20 (hl : l.stackTraces = false) : ax_go40 l xs 20 := by
  obtain ⟨h0l, h0u, h1l, h1u, h2l, h2u, h3l, h3u, h4l, h4u⟩ := ax_bnd xs
  rcases (by omega : ((-2147483648) ≤ (xs 1).toInt ∧ (xs 1).toInt ≤ (-1)) ∨ (0 ≤ (xs 1).toInt ∧ (xs 1).toInt ≤ 2147483647)) with ⟨h0l, h0u⟩ | ⟨h0l, h0u⟩
  · exact ax_fin hl (as := [.float 0, .float 1, .float 0, .float 0, .float 0, .float 0]) (by decide +kernel) rfl (ax_hv6 (ax_any _) (ax_inv (q := ((-2147483648), (-1))) rfl h0l h0u) (ax_inv (q := ((-2147483648), 2147483647)) rfl h1l h1u) (ax_inv (q := ((-2147483648), 2147483647)) rfl h2l h2u) (ax_inv (q := ((-2147483648), 2147483647)) rfl h3l h3u) (ax_inv (q := ((-2147483648), 2147483647)) rfl h4l h4u))
  · rcases (by omega : (0 ≤ (xs 1).toInt ∧ (xs 1).toInt ≤ 23) ∨ (24 ≤ (xs 1).toInt ∧ (xs 1).toInt ≤ 2147483647)) with ⟨h0l, h0u⟩ | ⟨h0l, h0u⟩
    · rcases (by omega : ((-2147483648) ≤ (xs 2).toInt ∧ (xs 2).toInt ≤ (-1)) ∨ (0 ≤ (xs 2).toInt ∧ (xs 2).toInt ≤ 2147483647)) with ⟨h1l, h1u⟩ | ⟨h1l, h1u⟩
      · exact ax_fin hl (as := [.float 0, .float 11, .float 1, .float 0, .float 0, .float 0]) (by decide +kernel) rfl (ax_hv6 (ax_any _) (ax_inv (q := (0, 23)) rfl h0l h0u) (ax_inv (q := ((-2147483648), (-1))) rfl h1l h1u) (ax_inv (q := ((-2147483648), 2147483647)) rfl h2l h2u) (ax_inv (q := ((-2147483648), 2147483647)) rfl h3l h3u) (ax_inv (q := ((-2147483648), 2147483647)) rfl h4l h4u))
      · rcases (by omega : (0 ≤ (xs 2).toInt ∧ (xs 2).toInt ≤ 23) ∨ (24 ≤ (xs 2).toInt ∧ (xs 2).toInt ≤ 2147483647)) with ⟨h1l, h1u⟩ | ⟨h1l, h1u⟩
        · obtain ⟨k, hk, ek⟩ := ax_small 24 h0l (by omega)
          obtain ⟨j, hj, ej⟩ := ax_small 24 h1l (by omega)
          exact ax_fin hl (as := [.float 0, .int (Int32.ofNat k), .int (Int32.ofNat j), .float 0, .float 0, .float 0]) (ax_rng (p := fun j => ax_runs ax_no 20 [.float 0, .int (Int32.ofNat k), .int (Int32.ofNat j), .float 0, .float 0, .float 0]) (ax_x20 k hk) j hj) rfl (ax_hv6 (ax_any _) ek ej (ax_any _) (ax_any _) (ax_any _))
        · exact ax_fin hl (as := [.float 0, .float 11, .float 3, .float 0, .float 0, .float 0]) (by decide +kernel) rfl (ax_hv6 (ax_any _) (ax_inv (q := (0, 23)) rfl h0l h0u) (ax_inv (q := (24, 2147483647)) rfl h1l h1u) (ax_inv (q := ((-2147483648), 2147483647)) rfl h2l h2u) (ax_inv (q := ((-2147483648), 2147483647)) rfl h3l h3u) (ax_inv (q := ((-2147483648), 2147483647)) rfl h4l h4u))
    · exact ax_fin hl (as := [.float 0, .float 3, .float 0, .float 0, .float 0, .float 0]) (by decide +kernel) rfl (ax_hv6 (ax_any _) (ax_inv (q := (24, 2147483647)) rfl h0l h0u) (ax_inv (q := ((-2147483648), 2147483647)) rfl h1l h1u) (ax_inv (q := ((-2147483648), 2147483647)) rfl h2l h2u) (ax_inv (q := ((-2147483648), 2147483647)) rfl h3l h3u) (ax_inv (q := ((-2147483648), 2147483647)) rfl h4l h4u))
end AXP
