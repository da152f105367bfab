/-! THE CLASS'S explain ON A FRESH OBJECT, for all masks -/
section AXB
variable {l : Launch} {d : Nat} {r : ax_H} {P : ax_P} {X : ax_PX} {i pc : Nat} {lv : List (Nat × Value)} {st : List Value} {h : ax_H} {bc bs : Nat} {Q : ax_Q}
theorem ax_argV {ix a b c q : Nat} {vs rest : List Value} (hd : st.drop b = .ref q :: rest) (hg : ax_get r h q = some (c, vs)) (h1 : ax_has a = true) (h2 : ax_st a = false) (h3 : (ax_mm a).2.2.2.2 = []) (h4 : b ≤ st.length) (h5 : (rest.map fun v => v.category).sum ≤ 8) : ax_arg r (.invokevirtual ix) a b c st h = some (.ref q :: (st.take b).reverse, rest) := by
  simp only [ax_arg, hd, hg]
  rw [if_pos ⟨h1, h2, h3, h4, h5, trivial⟩]
theorem ax_argS {ix a b c : Nat} (h1 : ax_has a = true) (h2 : ax_st a = true) (h4 : b ≤ st.length) (h5 : ((st.drop b).map fun v => v.category).sum ≤ 8) : ax_arg r (.invokestatic ix) a b c st h = some ((st.take b).reverse, st.drop b) := by
  simp only [ax_arg]
  rw [if_pos ⟨h1, h2, h4, h5⟩]
theorem ax_retX {n : Nat} (hm : (i, pc, n) ∈ ax_thrs) (hnil : (ax_mm i).2.2.2.2 = []) (h1 : 1 ≤ bc) (h2 : 6 ≤ bs) (hcat : (st.map fun v => v.category).sum ≤ 100) (hQ : Q (.inr (ax_exc.getD n "")) (h ++ [(99, [])])) : AR ax_ns l (ax_mm i) d r (ax_ret ax_ns (ax_mm i) Q) X pc lv st h bc bs :=
  AR.at (Or.inr (Or.inr (Or.inr (Or.inr (Or.inr ⟨_, ax_thr_ok (i, pc, n) hm, hnil, h1, h2, hcat, hQ⟩)))))
theorem ax_lg0 {g : Int64} : lg_cmp g (Int64.ofNat 0) = 0 ↔ g = 0 := by
  have e : Int64.ofNat 0 = 0 := by decide
  rw [e]
  unfold lg_cmp
  constructor
  · intro h
    split at h
    · exact absurd h (by decide)
    · split at h
      · assumption
      · exact absurd h (by decide)
  · rintro rfl
    decide
set_option maxRecDepth 100000 in
theorem ax_k255 : ax_rets (ax_cl [] ax_no 2000 2 255 [.double 0] ax_mid) (.float 9) ax_mid 0 0 = true := by decide +kernel
set_option maxRecDepth 100000 in
theorem ax_k122 : ax_rets (ax_cl [] ax_no 2000 3 122 [.ref 0] ax_mid) (.ref 147) ax_mid 0 0 = true := by decide +kernel
set_option maxRecDepth 100000 in
theorem ax_k123 : ax_rets (ax_cl [] ax_no 2000 3 123 [.ref 0] ax_mid) (.int 0) ax_mid 0 0 = true := by decide +kernel
set_option maxRecDepth 100000 in
theorem ax_k124 : ax_rets (ax_cl [] ax_no 2000 3 124 [.ref 0] ax_mid) (.int 0) ax_mid 0 0 = true := by decide +kernel
set_option maxRecDepth 100000 in
theorem ax_k116 : ax_rets (ax_cl [] ax_no 2000 2 116 [.float 9] ax_mid) (.int 1) ax_mid 0 0 = true := by decide +kernel
abbrev ax_QL : ax_Q := fun res h => ∃ v : Int32, res = .inl (some (.int v)) ∧ ¬ v < 0 ∧ h = ax_mid

theorem ax_lstep (hl : l.stackTraces = false) (hr0 : r[0]? = some (101, ax_bits)) {Y N : Nat} (hY : Y < 4096) (hN : N < 4096) (hYN : Y &&& N = 0) {w : Nat} (hw : w ≤ Y / 64) (ih : w < Y / 64 → AR ax_ns l (ax_mm 44) 5 r (ax_ret ax_ns (ax_mm 44) ax_QL) X 10 [(4, .int (nI (w + 1))), (0, .ref 147), (1, .int (Int32.ofInt 0)), (2, .int (nI Y)), (3, .int (nI N))] [] ax_mid 0 0) : AR ax_ns l (ax_mm 44) 5 r (ax_ret ax_ns (ax_mm 44) ax_QL) X 10 [(4, .int (nI w)), (0, .ref 147), (1, .int (Int32.ofInt 0)), (2, .int (nI Y)), (3, .int (nI N))] [] ax_mid 0 0 := by
  have hn : (ax_mm 44).2.2.1 = 9 := by decide +kernel
  have ht : (ax_mm 44).2.2.2.1 = some .int := by decide +kernel
  have hw64 : w < 64 := by omega
  have key : ∀ g : Int64, (w = Y / 64 → g ≠ 0) → AR ax_ns l (ax_mm 44) 5 r (ax_ret ax_ns (ax_mm 44) ax_QL) X 49 [(5, .long g), (4, .int (nI w)), (0, .ref 147), (1, .int (Int32.ofInt 0)), (2, .int (nI Y)), (3, .int (nI N))] [] ax_mid 0 0 := by
    intro g hg
    refine AR.s (.lload 5, (0, 0, 0), .null, []) hn (by decide +kernel) rfl ?_
    refine AR.s (.lconst 0, (0, 0, 0), .null, []) hn (by decide +kernel) rfl ?_
    refine AR.s (.lcmp, (0, 0, 0), .null, []) hn (by decide +kernel) rfl ?_
    refine AR.if_eq (off := 25) (tgt := 78) (ax_look_ok (i := 44) (pc := 53) (e := (.ifCond .eq 25, (0, 0, 0), .null, [])) (by decide +kernel)).1 (by decide) (fun h0 => ?_) (fun h0 => ?_)
    · have h1 := ax_lg0.mp h0
      have h2 : w < Y / 64 := by
        rcases Nat.lt_or_ge w (Y / 64) with h | h
        · exact h
        · exact absurd h1 (hg (by omega))
      refine AR.iinc (x := .int (nI w)) (ax_look_ok (i := 44) (pc := 78) (e := (.iinc 4 1, (0, 0, 0), .null, [])) (by decide +kernel)).1 (by rw [hn]; decide) rfl rfl ?_
      refine AR.goto (tgt := 10) (ax_look_ok (i := 44) (pc := 81) (e := (.goto (-71), (0, 0, 0), .null, [])) (by decide +kernel)).1 (by decide) ?_
      have e9 : nI w + Int32.ofInt 1 = nI (w + 1) := by rw [show Int32.ofInt 1 = 1 from by decide, ← nI_succ]
      refine AR.sub (lv' := [(4, .int (nI (w + 1))), (0, .ref 147), (1, .int (Int32.ofInt 0)), (2, .int (nI Y)), (3, .int (nI N))]) ?_ (ih h2)
      intro q hq
      simp only [List.mem_cons, List.not_mem_nil, or_false] at hq
      rcases hq with h | h | h | h | h <;> subst h <;> (first | (simp [ax_s1, ax_k1, nI_succ, Value.category]; done) | (simp [ax_s1, ax_k1, nI_succ, Value.category]; rfl))
    · refine AR.s (.lload 5, (0, 0, 0), .null, []) hn (by decide +kernel) rfl ?_
      refine AR.s (.lload 5, (0, 0, 0), .null, []) hn (by decide +kernel) rfl ?_
      refine AR.s (.lneg, (0, 0, 0), .null, []) hn (by decide +kernel) rfl ?_
      refine AR.s (.land, (0, 0, 0), .null, []) hn (by decide +kernel) rfl ?_
      refine AR.s (.lstore 7, (0, 0, 0), .null, []) hn (by decide +kernel) rfl ?_
      refine AR.s (.iload 4, (0, 0, 0), .null, []) hn (by decide +kernel) rfl ?_
      refine AR.s (.bipush 64, (0, 0, 0), .null, []) hn (by decide +kernel) rfl ?_
      refine AR.s (.imul, (0, 0, 0), .null, []) hn (by decide +kernel) rfl ?_
      refine AR.s (.lload 7, (0, 0, 0), .null, []) hn (by decide +kernel) rfl ?_
      refine AR.s (.lconst 1, (0, 0, 0), .null, []) hn (by decide +kernel) rfl ?_
      refine AR.s (.lsub, (0, 0, 0), .null, []) hn (by decide +kernel) rfl ?_
      refine AR.callC hl (ins := .invokestatic 43) (a := 255) (b := 1) (c := 0) (v := .null) (ws := [2092]) (by decide +kernel) (ax_argS (by decide +kernel) (by decide +kernel) (by show 1 ≤ 2; decide) (by show 1 ≤ 8; decide)) ax_k255 rfl (by decide) (Nat.zero_le _) (Nat.zero_le _) ?_
      refine AR.split rfl (fun i hi => ?_)
      refine AR.s (.iadd, (0, 0, 0), .null, []) hn (by decide +kernel) rfl ?_
      refine ax_retI (ei := ((0, 0, 0), .null, [])) (by decide +kernel) ht (Or.inl rfl) rfl ⟨_, rfl, ?_, rfl⟩
      have hi1 : (0 : Int) ≤ i.toInt := hi.1
      have hi2 : i.toInt ≤ (4095 : Int) := hi.2
      obtain ⟨c, hc, rfl⟩ := ax_small 4096 hi1 (by omega)
      have e64 : (Int8.ofInt 64).toInt32 = nI 64 := by decide
      try dsimp only
      rw [e64, pk_mul, show Int32.ofNat c = nI c from rfl, nI_add]
      exact nI_pos (by omega)
  refine AR.s (.iload 4, (0, 0, 0), .null, []) hn (by decide +kernel) rfl ?_
  refine AR.s (.bipush 64, (0, 0, 0), .null, []) hn (by decide +kernel) rfl ?_
  refine AR.icmp_ge (off := 70) (tgt := 84) (ax_look_ok (i := 44) (pc := 14) (e := (.if_icmp .ge 70, (0, 0, 0), .null, [])) (by decide +kernel)).1 (by decide) (fun hge => ?_) (fun _ => ?_)
  · exfalso
    have e64 : (Int8.ofInt 64).toInt32 = nI 64 := by decide
    rw [e64, nI_leI (by omega) (by omega)] at hge
    omega
  refine AR.s (.aload_n 0, (0, 0, 0), .null, []) hn (by decide +kernel) rfl ?_
  refine AR.s (.iload 4, (0, 0, 0), .null, []) hn (by decide +kernel) rfl ?_
  refine AR.s (.iload_n 2, (0, 0, 0), .null, []) hn (by decide +kernel) rfl ?_
  refine AR.s (.iload_n 3, (0, 0, 0), .null, []) hn (by decide +kernel) rfl ?_
  refine AR.call (ins := .invokevirtual 39) (a := 47) (b := 3) (c := 5) (v := .null) (ws := [2086, 3]) (by decide +kernel) (ax_argV (q := 147) (rest := []) rfl rfl (by decide +kernel) (by decide +kernel) (by decide +kernel) (by show 3 ≤ 4; decide) (Nat.le_of_ble_eq_true rfl)) (ax_matching (d := 4) hl hr0 hw64 hY hN) (by decide) (Nat.zero_le _) (Nat.zero_le _) (fun v h' hq => ?_) (fun E h' hq => ?_)
  rotate_left
  · obtain ⟨f, q1, -⟩ := hq
    cases q1
  obtain ⟨f, q1, q2, q3, -⟩ := hq
  cases q1
  subst q2
  refine AR.s (.lstore 5, (0, 0, 0), .null, []) hn (by decide +kernel) rfl ?_
  refine AR.s (.iload 4, (0, 0, 0), .null, []) hn (by decide +kernel) rfl ?_
  refine AR.s (.iload_n 1, (0, 0, 0), .null, []) hn (by decide +kernel) rfl ?_
  refine AR.s (.bipush 64, (0, 0, 0), .null, []) hn (by decide +kernel) rfl ?_
  refine AR.s (.idiv, (0, 0, 0), .null, []) hn (by decide +kernel) rfl ?_
  refine AR.icmp_ne (off := 16) (tgt := 49) (ax_look_ok (i := 44) (pc := 33) (e := (.if_icmp .ne 16, (0, 0, 0), .null, [])) (by decide +kernel)).1 (by decide) (fun _ => key f (fun h => q3 h hYN)) (fun _ => ?_)
  refine AR.s (.lload 5, (0, 0, 0), .null, []) hn (by decide +kernel) rfl ?_
  refine AR.s (.ldc2_w 13, (0, 0, 0), .long (-1), [1220]) hn (by decide +kernel) rfl ?_
  refine AR.s (.iload_n 1, (0, 0, 0), .null, []) hn (by decide +kernel) rfl ?_
  refine AR.s (.bipush 64, (0, 0, 0), .null, []) hn (by decide +kernel) rfl ?_
  refine AR.s (.irem, (0, 0, 0), .null, []) hn (by decide +kernel) rfl ?_
  refine AR.s (.lshl, (0, 0, 0), .null, []) hn (by decide +kernel) rfl ?_
  refine AR.s (.land, (0, 0, 0), .null, []) hn (by decide +kernel) rfl ?_
  refine AR.s (.lstore 5, (0, 0, 0), .null, []) hn (by decide +kernel) rfl ?_
  refine AR.lessL (lv' := [(5, .long f), (4, .int (nI w)), (0, .ref 147), (1, .int (Int32.ofInt 0)), (2, .int (nI Y)), (3, .int (nI N))]) (fun q hq => ?_) (key f (fun h => q3 h hYN))
  simp only [List.mem_cons, List.not_mem_nil, or_false] at hq
  rcases hq with h | h | h | h | h | h
  · subst h
    refine ⟨_, List.mem_cons_self, decide_eq_true ?_⟩
    have e1 : ((-1 : Int64) <<< ((Int32.ofInt 0 - Int32.ofInt 0 / (Int8.ofInt 64).toInt32 * (Int8.ofInt 64).toInt32).toInt64 &&& 63)) = -1 := by decide +kernel
    try dsimp only
    rw [e1]
    apply Int64.toBitVec.inj
    rw [Int64.toBitVec_and]
    have e2 : (-1 : Int64).toBitVec = BitVec.allOnes 64 := by decide
    rw [e2, BitVec.and_allOnes]
  all_goals (subst h; refine ⟨_, ?_, ax_le_self _⟩; simp)

theorem ax_lloop (hl : l.stackTraces = false) (hr0 : r[0]? = some (101, ax_bits)) {Y N : Nat} (hY : Y < 4096) (hN : N < 4096) (hYN : Y &&& N = 0) : ∀ (t w : Nat), w + t = Y / 64 → AR ax_ns l (ax_mm 44) 5 r (ax_ret ax_ns (ax_mm 44) ax_QL) X 10 [(4, .int (nI w)), (0, .ref 147), (1, .int (Int32.ofInt 0)), (2, .int (nI Y)), (3, .int (nI N))] [] ax_mid 0 0 := by
  have hn : (ax_mm 44).2.2.1 = 9 := by decide +kernel
  have ht : (ax_mm 44).2.2.2.1 = some .int := by decide +kernel
  intro t
  induction t with
  | zero =>
    intro w hw
    exact ax_lstep hl hr0 hY hN hYN (by omega) (fun h => absurd h (by omega))
  | succ t ih =>
    intro w hw
    exact ax_lstep hl hr0 hY hN hYN (by omega) (fun _ => ih (w + 1) (by omega))

theorem ax_leastFrom (hl : l.stackTraces = false) (hr0 : r[0]? = some (101, ax_bits)) {Y N : Nat} (hY : Y < 4096) (hN : N < 4096) (hYN : Y &&& N = 0) : AM ax_ns l (ax_mm 44) 5 r 0 0 [.ref 147, .int (Int32.ofInt 0), .int (nI Y), .int (nI N)] ax_mid ax_QL := by
  have hn : (ax_mm 44).2.2.1 = 9 := by decide +kernel
  refine ax_of (as := [.ref 147, .int (Int32.ofInt 0), .int (nI Y), .int (nI N)]) (lv0 := [(0, .ref 147), (1, .int (Int32.ofInt 0)), (2, .int (nI Y)), (3, .int (nI N))]) rfl hl (by decide +kernel) hn (by show 4 ≤ 9; decide) ?_
  refine AR.s (.iconst 0, (0, 0, 0), .null, []) hn (by decide +kernel) rfl ?_
  refine AR.s (.iload_n 1, (0, 0, 0), .null, []) hn (by decide +kernel) rfl ?_
  refine AR.s (.bipush 64, (0, 0, 0), .null, []) hn (by decide +kernel) rfl ?_
  refine AR.s (.idiv, (0, 0, 0), .null, []) hn (by decide +kernel) rfl ?_
  refine AR.s (.invokestatic 33, (702, 2, 0), .null, [2083]) hn (by decide +kernel) rfl ?_
  refine AR.s (.istore 4, (0, 0, 0), .null, []) hn (by decide +kernel) rfl ?_
  refine AR.lessL (lv' := [(4, .int (nI 0)), (0, .ref 147), (1, .int (Int32.ofInt 0)), (2, .int (nI Y)), (3, .int (nI N))]) (fun q hq => ?_) (ax_lloop hl hr0 hY hN hYN (Y / 64) 0 (by omega))
  simp only [List.mem_cons, List.not_mem_nil, or_false] at hq
  rcases hq with h | h | h | h | h
  · subst h
    refine ⟨_, List.mem_cons_self, ?_⟩
    decide +kernel
  all_goals (subst h; refine ⟨_, ?_, ax_le_self _⟩; simp)

theorem ax_hasModelWith (hl : l.stackTraces = false) (hr0 : r[0]? = some (101, ax_bits)) {Y N : Nat} (hY : Y < 4096) (hN : N < 4096) (hYN : Y &&& N = 0) : AM ax_ns l (ax_mm 125) 6 r 0 0 [.ref 0, .int (nI Y), .int (nI N)] ax_mid (ax_QR (.inl (some (.int (Int32.ofInt 1)))) ax_mid) := by
  have hn : (ax_mm 125).2.2.1 = 3 := by decide +kernel
  have ht : (ax_mm 125).2.2.2.1 = some .boolean := by decide +kernel
  refine ax_of (as := [.ref 0, .int (nI Y), .int (nI N)]) (lv0 := [(0, .ref 0), (1, .int (nI Y)), (2, .int (nI N))]) rfl hl (by decide +kernel) hn (by show 3 ≤ 3; decide) ?_
  refine AR.s (.aload_n 0, (0, 0, 0), .null, []) hn (by decide +kernel) rfl ?_
  refine AR.callC hl (ins := .invokevirtual 299) (a := 122) (b := 0) (c := 8) (v := .null) (ws := [2063, 0]) (by decide +kernel) (ax_argV (q := 0) (rest := []) rfl rfl (by decide +kernel) (by decide +kernel) (by decide +kernel) (by show 0 ≤ 1; decide) (Nat.le_of_ble_eq_true rfl)) ax_k122 rfl (by decide) (Nat.zero_le _) (Nat.zero_le _) ?_
  refine AR.s (.iconst 0, (0, 0, 0), .null, []) hn (by decide +kernel) rfl ?_
  refine AR.s (.aload_n 0, (0, 0, 0), .null, []) hn (by decide +kernel) rfl ?_
  refine AR.callC hl (ins := .invokevirtual 303) (a := 123) (b := 0) (c := 8) (v := .null) (ws := [2067, 1]) (by decide +kernel) (ax_argV (q := 0) (rest := [.int (Int32.ofInt 0), .ref 147]) rfl rfl (by decide +kernel) (by decide +kernel) (by decide +kernel) (by show 0 ≤ 3; decide) (Nat.le_of_ble_eq_true rfl)) ax_k123 rfl (by decide) (Nat.zero_le _) (Nat.zero_le _) ?_
  refine AR.s (.iload_n 1, (0, 0, 0), .null, []) hn (by decide +kernel) rfl ?_
  refine AR.s (.ior, (0, 0, 0), .null, []) hn (by decide +kernel) rfl ?_
  refine AR.s (.aload_n 0, (0, 0, 0), .null, []) hn (by decide +kernel) rfl ?_
  refine AR.callC hl (ins := .invokevirtual 306) (a := 124) (b := 0) (c := 8) (v := .null) (ws := [2075, 2]) (by decide +kernel) (ax_argV (q := 0) (rest := [.int (0 ||| nI Y), .int (Int32.ofInt 0), .ref 147]) rfl rfl (by decide +kernel) (by decide +kernel) (by decide +kernel) (by show 0 ≤ 4; decide) (Nat.le_of_ble_eq_true rfl)) ax_k124 rfl (by decide) (Nat.zero_le _) (Nat.zero_le _) ?_
  refine AR.s (.iload_n 2, (0, 0, 0), .null, []) hn (by decide +kernel) rfl ?_
  refine AR.s (.ior, (0, 0, 0), .null, []) hn (by decide +kernel) rfl ?_
  try dsimp only
  rw [Int32.zero_or, Int32.zero_or]
  refine AR.call (ins := .invokevirtual 309) (a := 44) (b := 3) (c := 5) (v := .null) (ws := [2079, 2081]) (by decide +kernel) (ax_argV (q := 147) (rest := []) rfl rfl (by decide +kernel) (by decide +kernel) (by decide +kernel) (by show 3 ≤ 4; decide) (Nat.le_of_ble_eq_true rfl)) (ax_leastFrom hl hr0 hY hN hYN) (by decide) (Nat.zero_le _) (Nat.zero_le _) (fun v h' hq => ?_) (fun E h' hq => ?_)
  rotate_left
  · obtain ⟨f, q1, -⟩ := hq
    cases q1
  obtain ⟨f, q1, q2, q3⟩ := hq
  cases q1
  subst q3
  refine AR.if_lt (off := 7) (tgt := 27) (ax_look_ok (i := 125) (pc := 20) (e := (.ifCond .lt 7, (0, 0, 0), .null, [])) (by decide +kernel)).1 (by decide) (fun h0 => absurd h0 q2) (fun _ => ?_)
  refine AR.s (.iconst 1, (0, 0, 0), .null, []) hn (by decide +kernel) rfl ?_
  refine AR.s (.goto 4, (0, 0, 0), .null, []) hn (by decide +kernel) rfl ?_
  exact ax_retI (ei := ((0, 0, 0), .null, [])) (by decide +kernel) ht (Or.inr rfl) rfl ⟨rfl, rfl⟩

theorem ax_explainC (hl : l.stackTraces = false) (hr0 : r[0]? = some (101, ax_bits)) {Y N : Nat} (hY : Y < 4096) (hN : N < 4096) : AM ax_ns l (ax_mm 106) 7 r 1 6 [.ref 0, .int (nI Y), .int (nI N)] ax_mid (ax_QR (.inr (if Y &&& N = 0 then "java/util/NoSuchElementException" else "java/lang/IllegalArgumentException")) (ax_mid ++ [(99, [])])) := by
  have hn : (ax_mm 106).2.2.1 = 8 := by decide +kernel
  have hx : (ax_mm 106).2.2.2.2 = [] := by decide +kernel
  refine ax_of (as := [.ref 0, .int (nI Y), .int (nI N)]) (lv0 := [(0, .ref 0), (1, .int (nI Y)), (2, .int (nI N))]) rfl hl (by decide +kernel) hn (by show 3 ≤ 8; decide) ?_
  refine AR.s (.iload_n 1, (0, 0, 0), .null, []) hn (by decide +kernel) rfl ?_
  refine AR.callC hl (ins := .invokestatic 313) (a := 116) (b := 1) (c := 0) (v := .null) (ws := [6073]) (by decide +kernel) (ax_argS (by decide +kernel) (by decide +kernel) (by show 1 ≤ 1; decide) (Nat.le_of_ble_eq_true rfl)) ax_k116 (ax_le9 hY) (by decide) (Nat.zero_le _) (Nat.zero_le _) ?_
  refine AR.s (.ifCond .eq 16, (0, 0, 0), .null, []) hn (by decide +kernel) rfl ?_
  refine AR.s (.iload_n 2, (0, 0, 0), .null, []) hn (by decide +kernel) rfl ?_
  refine AR.callC hl (ins := .invokestatic 313) (a := 116) (b := 1) (c := 0) (v := .null) (ws := [6073]) (by decide +kernel) (ax_argS (by decide +kernel) (by decide +kernel) (by show 1 ≤ 1; decide) (Nat.le_of_ble_eq_true rfl)) ax_k116 (ax_le9 hN) (by decide) (Nat.zero_le _) (Nat.zero_le _) ?_
  refine AR.s (.ifCond .eq 9, (0, 0, 0), .null, []) hn (by decide +kernel) rfl ?_
  refine AR.s (.iload_n 1, (0, 0, 0), .null, []) hn (by decide +kernel) rfl ?_
  refine AR.s (.iload_n 2, (0, 0, 0), .null, []) hn (by decide +kernel) rfl ?_
  refine AR.s (.iand, (0, 0, 0), .null, []) hn (by decide +kernel) rfl ?_
  try dsimp only
  rw [ax_nIand hY hN]
  have hb : Y &&& N < 4096 := Nat.lt_of_le_of_lt Nat.and_le_left hY
  refine AR.if_eq (off := 14) (tgt := 31) (ax_look_ok (i := 106) (pc := 17) (e := (.ifCond .eq 14, (0, 0, 0), .null, [])) (by decide +kernel)).1 (by decide) (fun h0 => ?_) (fun h0 => ?_)
  · have hYN : Y &&& N = 0 := (nI_eq (b := 0) (by omega) (by omega)).mp h0
    rw [if_pos hYN]
    refine AR.s (.aload_n 0, (0, 0, 0), .null, []) hn (by decide +kernel) rfl ?_
    refine AR.s (.iload_n 1, (0, 0, 0), .null, []) hn (by decide +kernel) rfl ?_
    refine AR.s (.iload_n 2, (0, 0, 0), .null, []) hn (by decide +kernel) rfl ?_
    refine AR.call (ins := .invokevirtual 321) (a := 125) (b := 2) (c := 8) (v := .null) (ws := [6084, 27]) (by decide +kernel) (ax_argV (q := 0) (rest := []) rfl rfl (by decide +kernel) (by decide +kernel) (by decide +kernel) (by show 2 ≤ 3; decide) (Nat.le_of_ble_eq_true rfl)) (ax_hasModelWith hl hr0 hY hN hYN) (by decide) (Nat.zero_le _) (Nat.zero_le _) (fun v h' hq => ?_) (fun E h' hq => ?_)
    rotate_left
    · obtain ⟨q1, -⟩ := hq
      cases q1
    obtain ⟨q1, q2⟩ := hq
    cases q1
    subst q2
    refine AR.s (.ifCond .eq 14, (0, 0, 0), .null, []) hn (by decide +kernel) rfl ?_
    exact ax_retX (n := 4) (by decide) hx (Nat.le_refl _) (Nat.le_refl _) (Nat.le_of_ble_eq_true rfl) ⟨rfl, rfl⟩
  · have hYN : ¬ Y &&& N = 0 := fun h => h0 (by rw [h]; rfl)
    rw [if_neg hYN]
    exact ax_retX (n := 1) (by decide) hx (Nat.le_refl _) (Nat.le_refl _) (Nat.le_of_ble_eq_true rfl) ⟨rfl, rfl⟩
theorem ax_hd1 : ax_hand 249 5 "java/lang/IllegalArgumentException" = some (249, 0, 10, 13, "java/lang/IllegalArgumentException") := by decide +kernel
theorem ax_hd2 : ax_hand 249 5 "java/util/NoSuchElementException" = some (249, 0, 10, 17, "java/util/NoSuchElementException") := by decide +kernel
theorem ax_explainL (hl : l.stackTraces = false) (hr0 : r[0]? = some (101, ax_bits)) {Y N : Nat} (hY : Y < 4096) (hN : N < 4096) : AM ax_ns l (ax_mm 249) 8 r 1 6 [.ref 0, .int (nI Y), .int (nI N), .ref 197] ax_mid (ax_QR (.inl (some (.int (if Y &&& N = 0 then Int32.ofInt 2 else Int32.ofInt 1)))) (ax_mid ++ [(99, [])])) := by
  have hn : (ax_mm 249).2.2.1 = 5 := by decide +kernel
  have ht : (ax_mm 249).2.2.2.1 = some .int := by decide +kernel
  refine ax_of (as := [.ref 0, .int (nI Y), .int (nI N), .ref 197]) (lv0 := [(0, .ref 0), (1, .int (nI Y)), (2, .int (nI N)), (3, .ref 197)]) rfl hl (by decide +kernel) hn (by show 4 ≤ 5; decide) ?_
  refine AR.s (.aload_n 3, (0, 0, 0), .null, []) hn (by decide +kernel) rfl ?_
  refine AR.s (.iconst 0, (0, 0, 0), .null, []) hn (by decide +kernel) rfl ?_
  refine AR.s (.aload_n 0, (0, 0, 0), .null, []) hn (by decide +kernel) rfl ?_
  refine AR.s (.iload_n 1, (0, 0, 0), .null, []) hn (by decide +kernel) rfl ?_
  refine AR.s (.iload_n 2, (0, 0, 0), .null, []) hn (by decide +kernel) rfl ?_
  refine AR.call (ins := .invokevirtual 118) (a := 106) (b := 2) (c := 8) (v := .null) (ws := [6131, 6133]) (by decide +kernel) (ax_argV (q := 0) (rest := [.int (Int32.ofInt 0), .ref 197]) rfl rfl (by decide +kernel) (by decide +kernel) (by decide +kernel) (by show 2 ≤ 5; decide) (Nat.le_of_ble_eq_true rfl)) (ax_explainC hl hr0 hY hN) (by decide) (Nat.le_refl _) (Nat.le_refl _) (fun v h' hq => ?_) (fun E h' hq => ?_)
  · obtain ⟨q1, -⟩ := hq
    cases q1
  obtain ⟨q1, q2⟩ := hq
  cases q1
  subst q2
  by_cases hYN : Y &&& N = 0
  · rw [if_pos hYN, if_pos hYN]
    refine ax_hand_ok ax_hd2 ?_
    refine AR.s (.astore 4, (0, 0, 0), .null, []) hn (by decide +kernel) rfl ?_
    refine AR.s (.iconst 2, (0, 0, 0), .null, []) hn (by decide +kernel) rfl ?_
    exact ax_retI (ei := ((0, 0, 0), .null, [])) (by decide +kernel) ht (Or.inl rfl) rfl ⟨rfl, rfl⟩
  · rw [if_neg hYN, if_neg hYN]
    refine ax_hand_ok ax_hd1 ?_
    refine AR.s (.astore 4, (0, 0, 0), .null, []) hn (by decide +kernel) rfl ?_
    refine AR.s (.iconst 1, (0, 0, 0), .null, []) hn (by decide +kernel) rfl ?_
    exact ax_retI (ei := ((0, 0, 0), .null, [])) (by decide +kernel) ht (Or.inl rfl) rfl ⟨rfl, rfl⟩
end AXB
