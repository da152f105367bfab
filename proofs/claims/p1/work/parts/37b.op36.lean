/-! OPCODE 36 at the law -/
section AXB
variable {l : Launch} {xs : Nat → Int32}
noncomputable def ax_ends (pc : Nat) (lv : List (Nat × Value)) (st : List Value) (h : ax_H) (uc0 us0 : Nat) : Bool := match ax_ex (ax_rU (List.replicate 6 (.float 0))) (ax_cl (ax_rU (List.replicate 6 (.float 0))) ax_no 20000 8) 260 20000 pc lv st h 0 0 with
  | some (.inl (some (.int 1)), _, uc, us) => Nat.ble uc uc0 && Nat.ble us us0
  | _ => false
theorem ax_endC (hl : l.stackTraces = false) {pc : Nat} {lv : List (Nat × Value)} {st : List Value} {h : ax_H} {bc bs : Nat} (hE : ax_ends pc lv st h bc bs = true) : AR ax_ns l (ax_mm 260) 9 (ax_r 6 xs) ax_PE ax_XE pc lv st h bc bs := by
  refine AR.weak (r := ax_rU (List.replicate 6 (.float 0))) (fun s b o H q => ax_O_script rfl (ax_hv6 (ax_any _) (ax_any _) (ax_any _) (ax_any _) (ax_any _) (ax_any _)) q) ?_
  unfold ax_ends at hE
  split at hE
  · rename_i h1 uc us he
    simp only [Bool.and_eq_true] at hE
    have g1 := Nat.le_of_ble_eq_true hE.1
    have g2 := Nat.le_of_ble_eq_true hE.2
    obtain ⟨e1, e2, K⟩ := ax_ex_ok (l := l) (dy := 8) (fun a as h res h' dc ds q => ax_cl_ok hl ax_no_ok 8 a as h res h' dc ds q) _ _ _ _ _ _ _ _ _ _ _ he
    refine AR.lt (by omega) (by omega) (AR.post K (fun pc lv st h bc bs q => ax_ret_mono (fun res h q => q.1) q) (fun pc lv E h bc bs q => ?_))
    exact absurd q.2.1 (by intro e; cases e)
  · cases hE
set_option maxRecDepth 100000 in
theorem ax_o36a (hl : l.stackTraces = false) {Y N : Nat} (hY : Y < 4096) (hN : N < 4096) (hy : xs 1 = nI Y) (hz : xs 2 = nI N) (hYN : Y &&& N = 0) : ax_go40 l xs 36 := by
  unfold ax_go40
  have hn : (ax_mm 260).2.2.1 = 8 := by decide +kernel
  have hM1 : AM ax_ns l (ax_mm 249) 8 (ax_r 6 xs) 1 6 [.ref 0, .int (xs 1), .int (xs 2), .ref 197] ax_mid (ax_QR (.inl (some (.int (Int32.ofInt 2)))) ax_m1) := by
    have := ax_explainL (r := ax_r 6 xs) hl rfl hY hN
    rw [if_pos hYN] at this
    rw [hy, hz]
    exact this
  have hM2 : AM ax_ns l (ax_mm 214) 8 (ax_r 6 xs) 1 24 [.ref 181, .int (xs 1), .int (xs 2)] ax_m1 (ax_QR (.inl (some (.int 0))) ax_n2) := by
    rw [hy, hz]
    exact ax_explainR2 hl hY hN hYN
  refine AR.s (.tableswitch 2268 0 40 #[180, 284, 340, 384, 435, 448, 504, 560, 573, 629, 685, 753, 808, 864, 932, 1000, 1068, 1124, 1192, 1272, 1328, 1403, 1459, 1515, 1559, 1615, 1659, 1672, 1685, 1741, 1754, 1810, 1823, 1886, 1954, 1998, 2042, 2110, 2166, 2210, 2254], (0, 0, 0), .null, []) hn (by decide +kernel) rfl ?_
  refine AR.s (.aload_n 1, (0, 0, 0), .null, []) hn (by decide +kernel) rfl ?_
  refine AR.s (.aload_n 0, (0, 0, 0), .null, []) hn (by decide +kernel) rfl ?_
  refine AR.s (.iload 4, (0, 0, 0), .null, []) hn (by decide +kernel) rfl ?_
  refine AR.s (.iconst 1, (0, 0, 0), .null, []) hn (by decide +kernel) rfl ?_
  refine AR.s (.iadd, (0, 0, 0), .null, []) hn (by decide +kernel) rfl ?_
  refine AR.iaload (vs := (List.range 6).map (fun j => .int (xs j))) (x := .int (xs 1)) (ax_look_ok (i := 260) (pc := 2088) (e := (.iaload, (0, 0, 0), .null, [])) (by decide +kernel)).1 rfl (by decide) rfl ?_
  refine AR.s (.aload_n 0, (0, 0, 0), .null, []) hn (by decide +kernel) rfl ?_
  refine AR.s (.iload 4, (0, 0, 0), .null, []) hn (by decide +kernel) rfl ?_
  refine AR.s (.iconst 2, (0, 0, 0), .null, []) hn (by decide +kernel) rfl ?_
  refine AR.s (.iadd, (0, 0, 0), .null, []) hn (by decide +kernel) rfl ?_
  refine AR.iaload (vs := (List.range 6).map (fun j => .int (xs j))) (x := .int (xs 2)) (ax_look_ok (i := 260) (pc := 2094) (e := (.iaload, (0, 0, 0), .null, [])) (by decide +kernel)).1 rfl (by decide) rfl ?_
  refine AR.s (.aload_n 3, (0, 0, 0), .null, []) hn (by decide +kernel) rfl ?_
  refine AR.call (ins := .invokestatic 258) (a := 249) (b := 4) (c := 0) (v := .null) (ws := [6128]) (by decide +kernel) (ax_argS (by decide +kernel) (by decide +kernel) (by show 4 ≤ 4; decide) (Nat.le_of_ble_eq_true rfl)) (mc := 1) (ms := 6) hM1 (by decide) (by decide) (by decide) (fun v h' hq => ?_) (fun E h' hq => ?_)
  rotate_left
  · obtain ⟨q1, -⟩ := hq
    cases q1
  obtain ⟨q1, q2⟩ := hq
  cases q1
  have q2 : h' = ax_m1 := q2
  subst q2
  refine AR.s (.istore 5, (0, 0, 0), .null, []) hn (by decide +kernel) rfl ?_
  refine AR.s (.aload_n 2, (0, 0, 0), .null, []) hn (by decide +kernel) rfl ?_
  refine AR.s (.aload_n 0, (0, 0, 0), .null, []) hn (by decide +kernel) rfl ?_
  refine AR.s (.iload 4, (0, 0, 0), .null, []) hn (by decide +kernel) rfl ?_
  refine AR.s (.iconst 1, (0, 0, 0), .null, []) hn (by decide +kernel) rfl ?_
  refine AR.s (.iadd, (0, 0, 0), .null, []) hn (by decide +kernel) rfl ?_
  refine AR.iaload (vs := (List.range 6).map (fun j => .int (xs j))) (x := .int (xs 1)) (ax_look_ok (i := 260) (pc := 2107) (e := (.iaload, (0, 0, 0), .null, [])) (by decide +kernel)).1 rfl (by decide) rfl ?_
  refine AR.s (.aload_n 0, (0, 0, 0), .null, []) hn (by decide +kernel) rfl ?_
  refine AR.s (.iload 4, (0, 0, 0), .null, []) hn (by decide +kernel) rfl ?_
  refine AR.s (.iconst 2, (0, 0, 0), .null, []) hn (by decide +kernel) rfl ?_
  refine AR.s (.iadd, (0, 0, 0), .null, []) hn (by decide +kernel) rfl ?_
  refine AR.iaload (vs := (List.range 6).map (fun j => .int (xs j))) (x := .int (xs 2)) (ax_look_ok (i := 260) (pc := 2113) (e := (.iaload, (0, 0, 0), .null, [])) (by decide +kernel)).1 rfl (by decide) rfl ?_
  refine AR.call (ins := .invokevirtual 260) (a := 214) (b := 2) (c := 9) (v := .null) (ws := [8119, 8121]) (by decide +kernel) (ax_argV (q := 181) (rest := []) rfl rfl (by decide +kernel) (by decide +kernel) (by decide +kernel) (by show 2 ≤ 3; decide) (Nat.le_of_ble_eq_true rfl)) hM2 (by decide) (by decide) (by decide) (fun v h' hq => ?_) (fun E h' hq => ?_)
  rotate_left
  · obtain ⟨q1, -⟩ := hq
    cases q1
  obtain ⟨q1, q2⟩ := hq
  cases q1
  have q2 : h' = ax_n2 := q2
  subst q2
  exact ax_endC hl (by decide +kernel)

set_option maxRecDepth 100000 in
theorem ax_o36b (hl : l.stackTraces = false) {Y N : Nat} (hY : Y < 4096) (hN : N < 4096) (hy : xs 1 = nI Y) (hz : xs 2 = nI N) (hYN : ¬ Y &&& N = 0) : ax_go40 l xs 36 := by
  unfold ax_go40
  have hn : (ax_mm 260).2.2.1 = 8 := by decide +kernel
  have hM1 : AM ax_ns l (ax_mm 249) 8 (ax_r 6 xs) 1 6 [.ref 0, .int (xs 1), .int (xs 2), .ref 197] ax_mid (ax_QR (.inl (some (.int (Int32.ofInt 1)))) ax_m1) := by
    have := ax_explainL (r := ax_r 6 xs) hl rfl hY hN
    rw [if_neg hYN] at this
    rw [hy, hz]
    exact this
  have hM2 : AM ax_ns l (ax_mm 214) 8 (ax_r 6 xs) 0 0 [.ref 181, .int (xs 1), .int (xs 2)] ax_m1 (ax_QR (.inl (some (.int 0))) ax_n1) := by
    rw [hy, hz]
    exact ax_explainR1 hl hY hN hYN
  refine AR.s (.tableswitch 2268 0 40 #[180, 284, 340, 384, 435, 448, 504, 560, 573, 629, 685, 753, 808, 864, 932, 1000, 1068, 1124, 1192, 1272, 1328, 1403, 1459, 1515, 1559, 1615, 1659, 1672, 1685, 1741, 1754, 1810, 1823, 1886, 1954, 1998, 2042, 2110, 2166, 2210, 2254], (0, 0, 0), .null, []) hn (by decide +kernel) rfl ?_
  refine AR.s (.aload_n 1, (0, 0, 0), .null, []) hn (by decide +kernel) rfl ?_
  refine AR.s (.aload_n 0, (0, 0, 0), .null, []) hn (by decide +kernel) rfl ?_
  refine AR.s (.iload 4, (0, 0, 0), .null, []) hn (by decide +kernel) rfl ?_
  refine AR.s (.iconst 1, (0, 0, 0), .null, []) hn (by decide +kernel) rfl ?_
  refine AR.s (.iadd, (0, 0, 0), .null, []) hn (by decide +kernel) rfl ?_
  refine AR.iaload (vs := (List.range 6).map (fun j => .int (xs j))) (x := .int (xs 1)) (ax_look_ok (i := 260) (pc := 2088) (e := (.iaload, (0, 0, 0), .null, [])) (by decide +kernel)).1 rfl (by decide) rfl ?_
  refine AR.s (.aload_n 0, (0, 0, 0), .null, []) hn (by decide +kernel) rfl ?_
  refine AR.s (.iload 4, (0, 0, 0), .null, []) hn (by decide +kernel) rfl ?_
  refine AR.s (.iconst 2, (0, 0, 0), .null, []) hn (by decide +kernel) rfl ?_
  refine AR.s (.iadd, (0, 0, 0), .null, []) hn (by decide +kernel) rfl ?_
  refine AR.iaload (vs := (List.range 6).map (fun j => .int (xs j))) (x := .int (xs 2)) (ax_look_ok (i := 260) (pc := 2094) (e := (.iaload, (0, 0, 0), .null, [])) (by decide +kernel)).1 rfl (by decide) rfl ?_
  refine AR.s (.aload_n 3, (0, 0, 0), .null, []) hn (by decide +kernel) rfl ?_
  refine AR.call (ins := .invokestatic 258) (a := 249) (b := 4) (c := 0) (v := .null) (ws := [6128]) (by decide +kernel) (ax_argS (by decide +kernel) (by decide +kernel) (by show 4 ≤ 4; decide) (Nat.le_of_ble_eq_true rfl)) (mc := 1) (ms := 6) hM1 (by decide) (by decide) (by decide) (fun v h' hq => ?_) (fun E h' hq => ?_)
  rotate_left
  · obtain ⟨q1, -⟩ := hq
    cases q1
  obtain ⟨q1, q2⟩ := hq
  cases q1
  have q2 : h' = ax_m1 := q2
  subst q2
  refine AR.s (.istore 5, (0, 0, 0), .null, []) hn (by decide +kernel) rfl ?_
  refine AR.s (.aload_n 2, (0, 0, 0), .null, []) hn (by decide +kernel) rfl ?_
  refine AR.s (.aload_n 0, (0, 0, 0), .null, []) hn (by decide +kernel) rfl ?_
  refine AR.s (.iload 4, (0, 0, 0), .null, []) hn (by decide +kernel) rfl ?_
  refine AR.s (.iconst 1, (0, 0, 0), .null, []) hn (by decide +kernel) rfl ?_
  refine AR.s (.iadd, (0, 0, 0), .null, []) hn (by decide +kernel) rfl ?_
  refine AR.iaload (vs := (List.range 6).map (fun j => .int (xs j))) (x := .int (xs 1)) (ax_look_ok (i := 260) (pc := 2107) (e := (.iaload, (0, 0, 0), .null, [])) (by decide +kernel)).1 rfl (by decide) rfl ?_
  refine AR.s (.aload_n 0, (0, 0, 0), .null, []) hn (by decide +kernel) rfl ?_
  refine AR.s (.iload 4, (0, 0, 0), .null, []) hn (by decide +kernel) rfl ?_
  refine AR.s (.iconst 2, (0, 0, 0), .null, []) hn (by decide +kernel) rfl ?_
  refine AR.s (.iadd, (0, 0, 0), .null, []) hn (by decide +kernel) rfl ?_
  refine AR.iaload (vs := (List.range 6).map (fun j => .int (xs j))) (x := .int (xs 2)) (ax_look_ok (i := 260) (pc := 2113) (e := (.iaload, (0, 0, 0), .null, [])) (by decide +kernel)).1 rfl (by decide) rfl ?_
  refine AR.call (ins := .invokevirtual 260) (a := 214) (b := 2) (c := 9) (v := .null) (ws := [8119, 8121]) (by decide +kernel) (ax_argV (q := 181) (rest := []) rfl rfl (by decide +kernel) (by decide +kernel) (by decide +kernel) (by show 2 ≤ 3; decide) (Nat.le_of_ble_eq_true rfl)) hM2 (by decide) (by decide) (by decide) (fun v h' hq => ?_) (fun E h' hq => ?_)
  rotate_left
  · obtain ⟨q1, -⟩ := hq
    cases q1
  obtain ⟨q1, q2⟩ := hq
  cases q1
  have q2 : h' = ax_n1 := q2
  subst q2
  exact ax_endC hl (by decide +kernel)

set_option maxRecDepth 100000 in
theorem ax_op36 (hl : l.stackTraces = false) : ax_go40 l xs 36 := by
  obtain ⟨h0l, h0u, h1l, h1u, h2l, h2u, h3l, h3u, h4l, h4u⟩ := ax_bnd xs
  rcases (by omega : ((-2147483648) ≤ (xs 1).toInt ∧ (xs 1).toInt ≤ (-1)) ∨ (0 ≤ (xs 1).toInt ∧ (xs 1).toInt ≤ 2147483647)) with ⟨h0l, h0u⟩ | ⟨h0l, h0u⟩
  · exact ax_fin hl (as := [.float 0, .float 1, .float 0, .float 0, .float 0, .float 0]) (by decide +kernel) rfl (ax_hv6 (ax_any _) (ax_inv (q := ((-2147483648), (-1))) rfl h0l h0u) (ax_inv (q := ((-2147483648), 2147483647)) rfl h1l h1u) (ax_inv (q := ((-2147483648), 2147483647)) rfl h2l h2u) (ax_inv (q := ((-2147483648), 2147483647)) rfl h3l h3u) (ax_inv (q := ((-2147483648), 2147483647)) rfl h4l h4u))
  · rcases (by omega : (0 ≤ (xs 1).toInt ∧ (xs 1).toInt ≤ 4095) ∨ (4096 ≤ (xs 1).toInt ∧ (xs 1).toInt ≤ 2147483647)) with ⟨h0l, h0u⟩ | ⟨h0l, h0u⟩
    · rcases (by omega : ((-2147483648) ≤ (xs 2).toInt ∧ (xs 2).toInt ≤ (-1)) ∨ (0 ≤ (xs 2).toInt ∧ (xs 2).toInt ≤ 2147483647)) with ⟨h1l, h1u⟩ | ⟨h1l, h1u⟩
      · exact ax_fin hl (as := [.float 0, .float 9, .float 1, .float 0, .float 0, .float 0]) (by decide +kernel) rfl (ax_hv6 (ax_any _) (ax_inv (q := (0, 4095)) rfl h0l h0u) (ax_inv (q := ((-2147483648), (-1))) rfl h1l h1u) (ax_inv (q := ((-2147483648), 2147483647)) rfl h2l h2u) (ax_inv (q := ((-2147483648), 2147483647)) rfl h3l h3u) (ax_inv (q := ((-2147483648), 2147483647)) rfl h4l h4u))
      · rcases (by omega : (0 ≤ (xs 2).toInt ∧ (xs 2).toInt ≤ 4095) ∨ (4096 ≤ (xs 2).toInt ∧ (xs 2).toInt ≤ 2147483647)) with ⟨h1l, h1u⟩ | ⟨h1l, h1u⟩
        · obtain ⟨Y, hY, ey⟩ := ax_small 4096 h0l (by omega)
          obtain ⟨N, hN, en⟩ := ax_small 4096 h1l (by omega)
          by_cases hYN : Y &&& N = 0
          · exact ax_o36a hl hY hN ey en hYN
          · exact ax_o36b hl hY hN ey en hYN
        · exact ax_fin hl (as := [.float 0, .float 9, .float 5, .float 0, .float 0, .float 0]) (by decide +kernel) rfl (ax_hv6 (ax_any _) (ax_inv (q := (0, 4095)) rfl h0l h0u) (ax_inv (q := (4096, 2147483647)) rfl h1l h1u) (ax_inv (q := ((-2147483648), 2147483647)) rfl h2l h2u) (ax_inv (q := ((-2147483648), 2147483647)) rfl h3l h3u) (ax_inv (q := ((-2147483648), 2147483647)) rfl h4l h4u))
    · exact ax_fin hl (as := [.float 0, .float 5, .float 0, .float 0, .float 0, .float 0]) (by decide +kernel) rfl (ax_hv6 (ax_any _) (ax_inv (q := (4096, 2147483647)) rfl h0l h0u) (ax_inv (q := ((-2147483648), 2147483647)) rfl h1l h1u) (ax_inv (q := ((-2147483648), 2147483647)) rfl h2l h2u) (ax_inv (q := ((-2147483648), 2147483647)) rfl h3l h3u) (ax_inv (q := ((-2147483648), 2147483647)) rfl h4l h4u))
end AXB
