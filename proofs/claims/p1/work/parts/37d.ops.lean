/-! OPCODES 31, 32, 34, 35 at the law -/
section AXB
variable {l : Launch} {xs : Nat → Int32} {d : Nat} {r : ax_H} {P : ax_P} {X : ax_PX} {i pc : Nat} {lv : List (Nat × Value)} {st as : List Value} {h : ax_H} {bc bs mc ms : Nat} {Q : ax_Q}
theorem AM.weakr {a : Nat} {r' : ax_H} (hr : ∀ (s : State) (b : Nat) (o : Nat → Nat) (H : Heap), ax_O s b o r' H → ax_O s b o r H) (K : AM ax_ns l (ax_mm a) d r mc ms as h Q) : AM ax_ns l (ax_mm a) d r' mc ms as h Q := by
  intro D b o
  refine MetFree.mono (K D b o) (fun a U hp => ?_) (fun _ _ _ _ _ h9 => h9) (fun _ _ _ _ _ hq => hq)
  obtain ⟨ac, e1, e2, e3, ⟨t1, t2, t3, t4, t5, t6, t7, t8, t9⟩, e5⟩ := hp
  exact ⟨ac, e1, e2, e3, ⟨t1, t2, t3, t4, t5, t6, t7, hr _ _ _ _ t8, t9⟩, e5⟩
theorem ax_Or {s : State} {b L : Nat} {o : Nat → Nat} {H : Heap} (q : ax_O s b o (ax_r L xs) H) : ax_O s b o [(101, ax_bits)] H := by
  intro k z hz
  match k, hz with
  | 0, hz => exact q 0 z hz
  | k + 1, hz => simp at hz
/-- a call that is counted out over what the statics are, where 'ov' says what is known of some calls -/
theorem AR.callO (hl9 : l.stackTraces = false) {ov : Nat → Nat → List Value → ax_H → Option ax_RR} (hov : ∀ d i as h res h' uc us, ov d i as h = some (res, h', uc, us) → AM ax_ns l (ax_mm i) d [(101, ax_bits)] uc us as h (ax_QR res h')) {ins : Instr} {a b c : Nat} {v : Value} {ws : List Nat} (hl : ax_look i pc = some (ins, (a, b, c), v, ws)) {as as' rest : List Value} {L : Nat} (hg : ax_arg (ax_r L xs) ins a b c st h = some (as, rest)) {f D uc us : Nat} {x0 : Value} {h0 : ax_H}
    (hrun : ax_rets (ax_cl [(101, ax_bits)] ov f D a as' h) x0 h0 uc us = true) (hle : ax_les as' as = true) (hD : D + 1 ≤ d) (hmc : uc ≤ bc) (hms : us ≤ bs) (K : AR ax_ns l (ax_mm i) d (ax_r L xs) P X (pc + 3) lv (x0 :: rest) h0 (bc - uc) (bs - us)) : AR ax_ns l (ax_mm i) d (ax_r L xs) P X pc lv st h bc bs := by
  unfold ax_rets at hrun
  split at hrun
  · rename_i x h2 uc1 us1 he
    simp only [Bool.and_eq_true] at hrun
    obtain ⟨e1, e2, e3, e4⟩ := hrun
    have e1 := Nat.eq_of_beq_eq_true e1
    have e2 := Nat.eq_of_beq_eq_true e2
    subst e1
    subst e2
    refine AR.call hl hg (AM.weakr (fun _ _ _ _ q => ax_Or q) (AM.less hle (ax_cl_ok hl9 hov _ _ _ _ _ _ _ _ he))) hD hmc hms (fun v h' hq => ?_) (fun E h' hq => ?_)
    · obtain ⟨q1, q2⟩ := hq
      cases q1
      subst q2
      exact AR.less (st' := x0 :: rest) (fun q hq => ⟨q.2, hq, ax_le_self q.2⟩) (by show (ax_le x0 x && ax_les rest rest) = true; rw [e3, ax_les_self]; rfl) e4 K
    · obtain ⟨q1, q2⟩ := hq
      cases q1
  · cases hrun
theorem ax_les2 {x : Value} {a b : Nat} : ax_les [.ref a, x, .ref b] [.ref a, x, .ref b] = true := ax_les_self _
set_option maxRecDepth 100000 in
theorem ax_k101 : ax_rets (ax_cl [(101, ax_bits)] ax_no 20000 8 101 [.ref 0] ax_mid) (.int 4096) ax_mid 0 0 = true := by decide +kernel
set_option maxRecDepth 100000 in
theorem ax_op31 (hl : l.stackTraces = false) : ax_go40 l xs 31 := by
  unfold ax_go40
  have hn : (ax_mm 260).2.2.1 = 8 := by decide +kernel
  refine AR.s (.tableswitch 2268 0 40 #[180, 284, 340, 384, 435, 448, 504, 560, 573, 629, 685, 753, 808, 864, 932, 1000, 1068, 1124, 1192, 1272, 1328, 1403, 1459, 1515, 1559, 1615, 1659, 1672, 1685, 1741, 1754, 1810, 1823, 1886, 1954, 1998, 2042, 2110, 2166, 2210, 2254], (0, 0, 0), .null, []) hn (by decide +kernel) rfl ?_
  refine AR.s (.aload_n 1, (0, 0, 0), .null, []) hn (by decide +kernel) rfl ?_
  refine AR.callO hl (ov := ax_no) ax_no_ok (ins := .invokevirtual 242) (a := 101) (b := 0) (c := 8) (v := .null) (ws := [2098, 2100]) (by decide +kernel) (ax_argV (q := 0) (rest := []) rfl rfl (by decide +kernel) (by decide +kernel) (by decide +kernel) (by show 0 ≤ 1; decide) (Nat.le_of_ble_eq_true rfl)) ax_k101 (ax_les_self _) (by decide) (by decide) (by decide) ?_
  refine AR.s (.aload_n 2, (0, 0, 0), .null, []) hn (by decide +kernel) rfl ?_
  refine AR.call (ins := .invokevirtual 245) (a := 206) (b := 0) (c := 9) (v := .null) (ws := [8091, 8093]) (by decide +kernel) (ax_argV (q := 181) (rest := [.int 4096]) rfl rfl (by decide +kernel) (by decide +kernel) (by decide +kernel) (by show 0 ≤ 2; decide) (Nat.le_of_ble_eq_true rfl)) (ax_modelCount hl) (by decide) (by decide) (by decide) (fun v h' hq => ?_) (fun E h' hq => ?_)
  rotate_left
  · obtain ⟨q1, -⟩ := hq
    cases q1
  obtain ⟨q1, q2⟩ := hq
  cases q1
  have q2 : h' = ax_mid := q2
  subst q2
  refine AR.icmp_eq (off := 450) (tgt := 2308) (ax_look_ok (i := 260) (pc := 1858) (e := (.if_icmp .eq 450, (0, 0, 0), .null, [])) (by decide +kernel)).1 (by decide) (fun _ => ?_) (fun hne => absurd (by decide) hne)
  exact ax_endC hl (by decide +kernel)
set_option maxRecDepth 100000 in
theorem ax_k245 : (List.range 24).all (fun k => ax_rets (ax_cl [(101, ax_bits)] ax_no 20000 8 245 [.ref 0, .int (nI k), .ref 197] ax_mid) (.int 0) ax_mid 0 0) = true := by decide +kernel
set_option maxRecDepth 100000 in
theorem ax_o32 (hl : l.stackTraces = false) {k : Nat} (hk : k < 24) (hy : xs 1 = nI k) : ax_go40 l xs 32 := by
  unfold ax_go40
  have hn : (ax_mm 260).2.2.1 = 8 := by decide +kernel
  refine AR.s (.tableswitch 2268 0 40 #[180, 284, 340, 384, 435, 448, 504, 560, 573, 629, 685, 753, 808, 864, 932, 1000, 1068, 1124, 1192, 1272, 1328, 1403, 1459, 1515, 1559, 1615, 1659, 1672, 1685, 1741, 1754, 1810, 1823, 1886, 1954, 1998, 2042, 2110, 2166, 2210, 2254], (0, 0, 0), .null, []) hn (by decide +kernel) rfl ?_
  refine AR.s (.aload_n 1, (0, 0, 0), .null, []) hn (by decide +kernel) rfl ?_
  refine AR.s (.aload_n 0, (0, 0, 0), .null, []) hn (by decide +kernel) rfl ?_
  refine AR.s (.iload 4, (0, 0, 0), .null, []) hn (by decide +kernel) rfl ?_
  refine AR.s (.iconst 1, (0, 0, 0), .null, []) hn (by decide +kernel) rfl ?_
  refine AR.s (.iadd, (0, 0, 0), .null, []) hn (by decide +kernel) rfl ?_
  refine AR.iaload (vs := (List.range 6).map (fun j => .int (xs j))) (x := .int (xs 1)) (ax_look_ok (i := 260) (pc := 1869) (e := (.iaload, (0, 0, 0), .null, [])) (by decide +kernel)).1 rfl (by decide) rfl ?_
  rw [hy]
  refine AR.s (.aload_n 3, (0, 0, 0), .null, []) hn (by decide +kernel) rfl ?_
  refine AR.callO hl (ov := ax_no) ax_no_ok (ins := .invokestatic 246) (a := 245) (b := 3) (c := 0) (v := .null) (ws := [6077]) (by decide +kernel) (ax_argS (by decide +kernel) (by decide +kernel) (by show 3 ≤ 3; decide) (Nat.le_of_ble_eq_true rfl)) (ax_rng (p := fun k => ax_rets (ax_cl [(101, ax_bits)] ax_no 20000 8 245 [.ref 0, .int (nI k), .ref 197] ax_mid) (.int 0) ax_mid 0 0) ax_k245 k hk) (ax_les_self _) (by decide) (by decide) (by decide) ?_
  refine AR.s (.istore 5, (0, 0, 0), .null, []) hn (by decide +kernel) rfl ?_
  refine AR.s (.aload_n 2, (0, 0, 0), .null, []) hn (by decide +kernel) rfl ?_
  refine AR.s (.aload_n 0, (0, 0, 0), .null, []) hn (by decide +kernel) rfl ?_
  refine AR.s (.iload 4, (0, 0, 0), .null, []) hn (by decide +kernel) rfl ?_
  refine AR.s (.iconst 1, (0, 0, 0), .null, []) hn (by decide +kernel) rfl ?_
  refine AR.s (.iadd, (0, 0, 0), .null, []) hn (by decide +kernel) rfl ?_
  refine AR.iaload (vs := (List.range 6).map (fun j => .int (xs j))) (x := .int (xs 1)) (ax_look_ok (i := 260) (pc := 1882) (e := (.iaload, (0, 0, 0), .null, [])) (by decide +kernel)).1 rfl (by decide) rfl ?_
  rw [hy]
  refine AR.call (ins := .invokevirtual 248) (a := 207) (b := 1) (c := 9) (v := .null) (ws := [8095, 8097]) (by decide +kernel) (ax_argV (q := 181) (rest := []) rfl rfl (by decide +kernel) (by decide +kernel) (by decide +kernel) (by show 1 ≤ 2; decide) (Nat.le_of_ble_eq_true rfl)) (ax_isForced hl hk) (by decide) (by decide) (by decide) (fun v h' hq => ?_) (fun E h' hq => ?_)
  rotate_left
  · obtain ⟨q1, -⟩ := hq
    cases q1
  obtain ⟨q1, q2⟩ := hq
  cases q1
  have q2 : h' = ax_mid := q2
  subst q2
  exact ax_endC hl (by decide +kernel)
set_option maxRecDepth 100000 in
theorem ax_op32 (hl : l.stackTraces = false) : ax_go40 l xs 32 := by
  obtain ⟨h0l, h0u, h1l, h1u, h2l, h2u, h3l, h3u, h4l, h4u⟩ := ax_bnd xs
  rcases (by omega : ((-2147483648) ≤ (xs 1).toInt ∧ (xs 1).toInt ≤ (-1)) ∨ (0 ≤ (xs 1).toInt ∧ (xs 1).toInt ≤ 2147483647)) with ⟨h0l, h0u⟩ | ⟨h0l, h0u⟩
  · exact ax_fin hl (as := [.float 0, .float 1, .float 0, .float 0, .float 0, .float 0]) (by decide +kernel) rfl (ax_hv6 (ax_any _) (ax_inv (q := ((-2147483648), (-1))) rfl h0l h0u) (ax_inv (q := ((-2147483648), 2147483647)) rfl h1l h1u) (ax_inv (q := ((-2147483648), 2147483647)) rfl h2l h2u) (ax_inv (q := ((-2147483648), 2147483647)) rfl h3l h3u) (ax_inv (q := ((-2147483648), 2147483647)) rfl h4l h4u))
  · rcases (by omega : (0 ≤ (xs 1).toInt ∧ (xs 1).toInt ≤ 23) ∨ (24 ≤ (xs 1).toInt ∧ (xs 1).toInt ≤ 2147483647)) with ⟨h0l, h0u⟩ | ⟨h0l, h0u⟩
    · obtain ⟨k, hk, ek⟩ := ax_small 24 h0l (by omega)
      exact ax_o32 hl hk ek
    · exact ax_fin hl (as := [.float 0, .float 3, .float 0, .float 0, .float 0, .float 0]) (by decide +kernel) rfl (ax_hv6 (ax_any _) (ax_inv (q := (24, 2147483647)) rfl h0l h0u) (ax_inv (q := ((-2147483648), 2147483647)) rfl h1l h1u) (ax_inv (q := ((-2147483648), 2147483647)) rfl h2l h2u) (ax_inv (q := ((-2147483648), 2147483647)) rfl h3l h3u) (ax_inv (q := ((-2147483648), 2147483647)) rfl h4l h4u))
theorem ax_and63b (x : Int32) : ∃ j : Nat, j < 64 ∧ x &&& (Int8.ofInt 63).toInt32 = nI j := pk_andE x 6 (by decide)
theorem ax_ofMask (hl : l.stackTraces = false) (m : Int32) : AM ax_ns l (ax_mm 35) d r 0 0 [.ref 12, .int m] ax_mid (ax_QR (.inl (some (.long 0))) ax_mid) := by
  have hn : (ax_mm 35).2.2.1 = 2 := by decide +kernel
  have ht : (ax_mm 35).2.2.2.1 = some .long := by decide +kernel
  refine ax_of (as := [.ref 12, .int m]) (lv0 := [(0, .ref 12), (1, .int m)]) rfl hl (by decide +kernel) hn (by show 2 ≤ 2; decide) ?_
  refine AR.s (.aload_n 0, (0, 0, 0), .null, []) hn (by decide +kernel) rfl ?_
  refine AR.s (.getfield 11, (4, 0, 0), .null, [1171]) hn (by decide +kernel) rfl ?_
  refine AR.s (.iload_n 1, (0, 0, 0), .null, []) hn (by decide +kernel) rfl ?_
  refine AR.s (.bipush 63, (0, 0, 0), .null, []) hn (by decide +kernel) rfl ?_
  refine AR.s (.iand, (0, 0, 0), .null, []) hn (by decide +kernel) rfl ?_
  obtain ⟨j, hj, ej⟩ := ax_and63b m
  rw [ej]
  refine AR.laload (x := .long 0) (vs := List.replicate 64 (.long 0)) (ax_look_ok (i := 35) (pc := 8) (e := (.laload, (0, 0, 0), .null, [])) (by decide +kernel)).1 rfl (nI_pos (by omega)) (by rw [nI_clamp (by omega), List.getElem?_replicate, if_pos hj]) ?_
  refine AR.s (.aload_n 0, (0, 0, 0), .null, []) hn (by decide +kernel) rfl ?_
  refine AR.s (.getfield 15, (4, 1, 0), .null, [1172]) hn (by decide +kernel) rfl ?_
  refine AR.s (.iload_n 1, (0, 0, 0), .null, []) hn (by decide +kernel) rfl ?_
  refine AR.s (.bipush 6, (0, 0, 0), .null, []) hn (by decide +kernel) rfl ?_
  refine AR.s (.ishr, (0, 0, 0), .null, []) hn (by decide +kernel) rfl ?_
  refine AR.s (.bipush 63, (0, 0, 0), .null, []) hn (by decide +kernel) rfl ?_
  refine AR.s (.iand, (0, 0, 0), .null, []) hn (by decide +kernel) rfl ?_
  try dsimp only
  obtain ⟨k, hk, ek⟩ := ax_and63b (m >>> ((Int8.ofInt 6).toInt32 &&& 31))
  rw [ek]
  refine AR.laload (x := .long 0) (vs := List.replicate 64 (.long 0)) (ax_look_ok (i := 35) (pc := 20) (e := (.laload, (0, 0, 0), .null, [])) (by decide +kernel)).1 rfl (nI_pos (by omega)) (by rw [nI_clamp (by omega), List.getElem?_replicate, if_pos hk]) ?_
  refine AR.s (.ladd, (0, 0, 0), .null, []) hn (by decide +kernel) rfl ?_
  exact ax_retL (ei := ((0, 0, 0), .null, [])) (by decide +kernel) ht rfl ⟨rfl, rfl⟩
theorem ax_chin (hl : l.stackTraces = false) {w : Nat} (hw : w < 64) (ih : AR ax_ns l (ax_mm 46) 5 r (ax_ret ax_ns (ax_mm 46) (ax_QR (.inl (some (.int 0))) ax_mid)) X 9 [(7, .int (nI (w + 1))), (5, .long 0), (4, .int 0), (0, .ref 147), (1, .ref 12), (2, .int 0), (3, .int 0)] [] ax_mid 0 0) : ∀ (t b : Nat) (c : Int32), b + t = 64 → (c = 0 ∨ c = -1 ∧ w = 0 ∧ b = 0) → AR ax_ns l (ax_mm 46) 5 r (ax_ret ax_ns (ax_mm 46) (ax_QR (.inl (some (.int 0))) ax_mid)) X 29 [(10, .int (nI b)), (8, .long (-1)), (7, .int (nI w)), (5, .long 0), (4, .int c), (0, .ref 147), (1, .ref 12), (2, .int 0), (3, .int 0)] [] ax_mid 0 0 := by
  have hn : (ax_mm 46).2.2.1 = 13 := by decide +kernel
  have ht : (ax_mm 46).2.2.2.1 = some .int := by decide +kernel
  intro t
  induction t with
  | zero =>
    intro b c hb hc
    obtain rfl : b = 64 := by omega
    have h0 : c = 0 := by
      rcases hc with h | ⟨-, -, h⟩
      · exact h
      · omega
    subst h0
    refine AR.s (.iload 10, (0, 0, 0), .null, []) hn (by decide +kernel) rfl ?_
    refine AR.s (.bipush 64, (0, 0, 0), .null, []) hn (by decide +kernel) rfl ?_
    refine AR.icmp_ge (off := 69) (tgt := 102) (ax_look_ok (i := 46) (pc := 33) (e := (.if_icmp .ge 69, (0, 0, 0), .null, [])) (by decide +kernel)).1 (by decide) (fun _ => ?_) (fun hn => absurd (by decide) hn)
    refine AR.iinc (x := .int (nI w)) (ax_look_ok (i := 46) (pc := 102) (e := (.iinc 7 1, (0, 0, 0), .null, [])) (by decide +kernel)).1 (by rw [hn]; decide) rfl rfl ?_
    refine AR.goto (tgt := 9) (ax_look_ok (i := 46) (pc := 105) (e := (.goto (-96), (0, 0, 0), .null, [])) (by decide +kernel)).1 (by decide) ?_
    refine AR.sub (lv' := [(7, .int (nI (w + 1))), (5, .long 0), (4, .int 0), (0, .ref 147), (1, .ref 12), (2, .int 0), (3, .int 0)]) ?_ ih
    intro q hq
    simp only [List.mem_cons, List.not_mem_nil, or_false] at hq
    rcases hq with h | h | h | h | h | h | h <;> subst h <;> (first | (simp [ax_s1, ax_k1, Value.category, nI_succ]; done) | (simp [ax_s1, ax_k1, Value.category, nI_succ]; rfl))
  | succ t iht =>
    intro b c hb hc
    have key : AR ax_ns l (ax_mm 46) 5 r (ax_ret ax_ns (ax_mm 46) (ax_QR (.inl (some (.int 0))) ax_mid)) X 96 [(10, .int (nI b)), (8, .long (-1)), (7, .int (nI w)), (5, .long 0), (4, .int 0), (0, .ref 147), (1, .ref 12), (2, .int 0), (3, .int 0)] [] ax_mid 0 0 := by
      refine AR.iinc (x := .int (nI b)) (ax_look_ok (i := 46) (pc := 96) (e := (.iinc 10 1, (0, 0, 0), .null, [])) (by decide +kernel)).1 (by rw [hn]; decide) rfl rfl ?_
      refine AR.goto (tgt := 29) (ax_look_ok (i := 46) (pc := 99) (e := (.goto (-70), (0, 0, 0), .null, [])) (by decide +kernel)).1 (by decide) ?_
      refine AR.sub (lv' := [(10, .int (nI (b + 1))), (8, .long (-1)), (7, .int (nI w)), (5, .long 0), (4, .int 0), (0, .ref 147), (1, .ref 12), (2, .int 0), (3, .int 0)]) ?_ (iht (b + 1) 0 (by omega) (Or.inl rfl))
      intro q hq
      simp only [List.mem_cons, List.not_mem_nil, or_false] at hq
      rcases hq with h | h | h | h | h | h | h | h | h <;> subst h <;> (first | (simp [ax_s1, ax_k1, Value.category, nI_succ]; done) | (simp [ax_s1, ax_k1, Value.category, nI_succ]; rfl))
    refine AR.s (.iload 10, (0, 0, 0), .null, []) hn (by decide +kernel) rfl ?_
    refine AR.s (.bipush 64, (0, 0, 0), .null, []) hn (by decide +kernel) rfl ?_
    refine AR.icmp_ge (off := 69) (tgt := 102) (ax_look_ok (i := 46) (pc := 33) (e := (.if_icmp .ge 69, (0, 0, 0), .null, [])) (by decide +kernel)).1 (by decide) (fun hge => ?_) (fun _ => ?_)
    · exfalso
      have : (Int8.ofInt 64).toInt32 = nI 64 := by decide
      rw [this, nI_leI (by omega) (by omega)] at hge
      omega
    refine AR.s (.lload 8, (0, 0, 0), .null, []) hn (by decide +kernel) rfl ?_
    refine AR.s (.lconst 0, (0, 0, 0), .null, []) hn (by decide +kernel) rfl ?_
    refine AR.s (.lcmp, (0, 0, 0), .null, []) hn (by decide +kernel) rfl ?_
    refine AR.s (.ifCond .eq 62, (0, 0, 0), .null, []) hn (by decide +kernel) rfl ?_
    refine AR.s (.aload_n 1, (0, 0, 0), .null, []) hn (by decide +kernel) rfl ?_
    refine AR.s (.iload 7, (0, 0, 0), .null, []) hn (by decide +kernel) rfl ?_
    refine AR.s (.bipush 64, (0, 0, 0), .null, []) hn (by decide +kernel) rfl ?_
    refine AR.s (.imul, (0, 0, 0), .null, []) hn (by decide +kernel) rfl ?_
    refine AR.s (.iload 10, (0, 0, 0), .null, []) hn (by decide +kernel) rfl ?_
    refine AR.s (.iadd, (0, 0, 0), .null, []) hn (by decide +kernel) rfl ?_
    refine AR.call (ins := .invokevirtual 49) (a := 35) (b := 1) (c := 4) (v := .null) (ws := [6115, 6117]) (by decide +kernel) (ax_argV (q := 12) (rest := []) rfl rfl (by decide +kernel) (by decide +kernel) (by decide +kernel) (by show 1 ≤ 2; decide) (Nat.le_of_ble_eq_true rfl)) (ax_ofMask (d := 4) hl _) (Nat.le_refl _) (Nat.zero_le _) (Nat.zero_le _) (fun v h' hq => ?_) (fun E h' hq => ?_)
    rotate_left
    · obtain ⟨q1, -⟩ := hq
      cases q1
    obtain ⟨q1, q2⟩ := hq
    cases q1
    subst q2
    refine AR.s (.lstore 11, (0, 0, 0), .null, []) hn (by decide +kernel) rfl ?_
    refine AR.s (.lload 8, (0, 0, 0), .null, []) hn (by decide +kernel) rfl ?_
    refine AR.s (.iload 10, (0, 0, 0), .null, []) hn (by decide +kernel) rfl ?_
    refine AR.s (.lshr, (0, 0, 0), .null, []) hn (by decide +kernel) rfl ?_
    refine AR.s (.lconst 1, (0, 0, 0), .null, []) hn (by decide +kernel) rfl ?_
    refine AR.s (.land, (0, 0, 0), .null, []) hn (by decide +kernel) rfl ?_
    refine AR.s (.lconst 1, (0, 0, 0), .null, []) hn (by decide +kernel) rfl ?_
    refine AR.s (.lcmp, (0, 0, 0), .null, []) hn (by decide +kernel) rfl ?_
    refine AR.if_ne (off := 30) (tgt := 96) (ax_look_ok (i := 46) (pc := 66) (e := (.ifCond .ne 30, (0, 0, 0), .null, [])) (by decide +kernel)).1 (by decide) (fun hne => ?_) (fun _ => ?_)
    · have h0 : c = 0 := by
        rcases hc with h | ⟨-, -, h⟩
        · exact h
        · subst h
          exact absurd (by decide +kernel) hne
      subst h0
      exact AR.sub (lv' := [(10, .int (nI b)), (8, .long (-1)), (7, .int (nI w)), (5, .long 0), (4, .int 0), (0, .ref 147), (1, .ref 12), (2, .int 0), (3, .int 0)]) (by intro q hq; simp only [List.mem_cons, List.not_mem_nil, or_false] at hq ⊢; rcases hq with h | h | h | h | h | h | h | h | h <;> (first | (simp [h, nI_0]; done) | (simp [h, nI_0]; rfl))) key
    refine AR.s (.iload 4, (0, 0, 0), .null, []) hn (by decide +kernel) rfl ?_
    refine AR.if_lt (off := 11) (tgt := 82) (ax_look_ok (i := 46) (pc := 71) (e := (.ifCond .lt 11, (0, 0, 0), .null, [])) (by decide +kernel)).1 (by decide) (fun hlt => ?_) (fun hge => ?_)
    · obtain ⟨rfl, rfl, rfl⟩ : c = -1 ∧ w = 0 ∧ b = 0 := by
        rcases hc with h | h
        · subst h; exact absurd hlt (by decide)
        · exact h
      refine AR.s (.iload 7, (0, 0, 0), .null, []) hn (by decide +kernel) rfl ?_
      refine AR.s (.bipush 64, (0, 0, 0), .null, []) hn (by decide +kernel) rfl ?_
      refine AR.s (.imul, (0, 0, 0), .null, []) hn (by decide +kernel) rfl ?_
      refine AR.s (.iload 10, (0, 0, 0), .null, []) hn (by decide +kernel) rfl ?_
      refine AR.s (.iadd, (0, 0, 0), .null, []) hn (by decide +kernel) rfl ?_
      refine AR.s (.istore 4, (0, 0, 0), .null, []) hn (by decide +kernel) rfl ?_
      refine AR.s (.lload 11, (0, 0, 0), .null, []) hn (by decide +kernel) rfl ?_
      refine AR.s (.lstore 5, (0, 0, 0), .null, []) hn (by decide +kernel) rfl ?_
      refine AR.lessL (lv' := [(10, .int (nI 0)), (8, .long (-1)), (7, .int (nI 0)), (5, .long 0), (4, .int 0), (0, .ref 147), (1, .ref 12), (2, .int 0), (3, .int 0)]) (fun q hq => ?_) key
      simp only [List.mem_cons, List.not_mem_nil, or_false] at hq
      rcases hq with h | h | h | h | h | h | h | h | h
      case inr.inr.inr.inr.inl =>
        subst h
        exact ⟨.int ((fun i j => i * j) (nI 0) (Int8.ofInt 64).toInt32 + nI 0), by simp, by decide +kernel⟩
      all_goals (subst h; refine ⟨_, ?_, ax_le_self _⟩; simp)
    · have h0 : c = 0 := by
        rcases hc with h | ⟨h, -⟩
        · exact h
        · subst h; exact absurd (by decide) hge
      subst h0
      refine AR.s (.lload 11, (0, 0, 0), .null, []) hn (by decide +kernel) rfl ?_
      refine AR.s (.lload 5, (0, 0, 0), .null, []) hn (by decide +kernel) rfl ?_
      refine AR.s (.lcmp, (0, 0, 0), .null, []) hn (by decide +kernel) rfl ?_
      refine AR.s (.ifCond .ge 17, (0, 0, 0), .null, []) hn (by decide +kernel) rfl ?_
      exact AR.sub (lv' := [(10, .int (nI b)), (8, .long (-1)), (7, .int (nI w)), (5, .long 0), (4, .int 0), (0, .ref 147), (1, .ref 12), (2, .int 0), (3, .int 0)]) (by intro q hq; simp only [List.mem_cons, List.not_mem_nil, or_false] at hq ⊢; rcases hq with h | h | h | h | h | h | h | h | h <;> (first | (simp [h, nI_0]; done) | (simp [h, nI_0]; rfl))) key
theorem ax_chout (hl : l.stackTraces = false) (hr0 : r[0]? = some (101, ax_bits)) : ∀ (t w : Nat) (c : Int32), w + t = 64 → (c = 0 ∨ c = -1 ∧ w = 0) → AR ax_ns l (ax_mm 46) 5 r (ax_ret ax_ns (ax_mm 46) (ax_QR (.inl (some (.int 0))) ax_mid)) X 9 [(7, .int (nI w)), (5, .long 0), (4, .int c), (0, .ref 147), (1, .ref 12), (2, .int 0), (3, .int 0)] [] ax_mid 0 0 := by
  have hn : (ax_mm 46).2.2.1 = 13 := by decide +kernel
  have ht : (ax_mm 46).2.2.2.1 = some .int := by decide +kernel
  intro t
  induction t with
  | zero =>
    intro w c hw hc
    obtain rfl : w = 64 := by omega
    have h0 : c = 0 := by
      rcases hc with h | ⟨-, h⟩
      · exact h
      · omega
    subst h0
    refine AR.s (.iload 7, (0, 0, 0), .null, []) hn (by decide +kernel) rfl ?_
    refine AR.s (.bipush 64, (0, 0, 0), .null, []) hn (by decide +kernel) rfl ?_
    refine AR.icmp_ge (off := 95) (tgt := 108) (ax_look_ok (i := 46) (pc := 13) (e := (.if_icmp .ge 95, (0, 0, 0), .null, [])) (by decide +kernel)).1 (by decide) (fun _ => ?_) (fun hn => absurd (by decide) hn)
    refine AR.s (.iload 4, (0, 0, 0), .null, []) hn (by decide +kernel) rfl ?_
    exact ax_retI (ei := ((0, 0, 0), .null, [])) (by decide +kernel) ht (Or.inl rfl) rfl ⟨rfl, rfl⟩
  | succ t iht =>
    intro w c hw hc
    refine AR.s (.iload 7, (0, 0, 0), .null, []) hn (by decide +kernel) rfl ?_
    refine AR.s (.bipush 64, (0, 0, 0), .null, []) hn (by decide +kernel) rfl ?_
    refine AR.icmp_ge (off := 95) (tgt := 108) (ax_look_ok (i := 46) (pc := 13) (e := (.if_icmp .ge 95, (0, 0, 0), .null, [])) (by decide +kernel)).1 (by decide) (fun hge => ?_) (fun _ => ?_)
    · exfalso
      have : (Int8.ofInt 64).toInt32 = nI 64 := by decide
      rw [this, nI_leI (by omega) (by omega)] at hge
      omega
    refine AR.s (.aload_n 0, (0, 0, 0), .null, []) hn (by decide +kernel) rfl ?_
    refine AR.s (.iload 7, (0, 0, 0), .null, []) hn (by decide +kernel) rfl ?_
    refine AR.s (.iload_n 2, (0, 0, 0), .null, []) hn (by decide +kernel) rfl ?_
    refine AR.s (.iload_n 3, (0, 0, 0), .null, []) hn (by decide +kernel) rfl ?_
    refine AR.call (ins := .invokevirtual 39) (a := 47) (b := 3) (c := 5) (v := .null) (ws := [2086, 3]) (by decide +kernel) (ax_argV (q := 147) (rest := []) rfl rfl (by decide +kernel) (by decide +kernel) (by decide +kernel) (by show 3 ≤ 4; decide) (Nat.le_of_ble_eq_true rfl)) (ax_matching (d := 4) (Y := 0) (N := 0) hl hr0 (W := w) (by omega) (by decide) (by decide)) (Nat.le_refl _) (Nat.zero_le _) (Nat.zero_le _) (fun v h' hq => ?_) (fun E h' hq => ?_)
    rotate_left
    · obtain ⟨f, q1, -⟩ := hq
      cases q1
    obtain ⟨f, q1, q2, -, q4⟩ := hq
    cases q1
    subst q2
    obtain rfl := q4 rfl rfl
    refine AR.s (.lstore 8, (0, 0, 0), .null, []) hn (by decide +kernel) rfl ?_
    refine AR.s (.iconst 0, (0, 0, 0), .null, []) hn (by decide +kernel) rfl ?_
    refine AR.s (.istore 10, (0, 0, 0), .null, []) hn (by decide +kernel) rfl ?_
    exact AR.sub (lv' := [(10, .int (nI 0)), (8, .long (-1)), (7, .int (nI w)), (5, .long 0), (4, .int c), (0, .ref 147), (1, .ref 12), (2, .int 0), (3, .int 0)]) (by intro q hq; simp only [List.mem_cons, List.not_mem_nil, or_false] at hq ⊢; rcases hq with h | h | h | h | h | h | h | h | h <;> (first | (simp [h, nI_0]; done) | (simp [h, nI_0]; rfl))) (ax_chin hl (by omega) (iht (w + 1) 0 (by omega) (Or.inl rfl)) 64 0 c rfl (by
      rcases hc with h | ⟨h1, h2⟩
      · exact Or.inl h
      · exact Or.inr ⟨h1, h2, rfl⟩))
theorem ax_cheapestC (hl : l.stackTraces = false) (hr0 : r[0]? = some (101, ax_bits)) : AM ax_ns l (ax_mm 46) 5 r 0 0 [.ref 147, .ref 12, .int 0, .int 0] ax_mid (ax_QR (.inl (some (.int 0))) ax_mid) := by
  have hn : (ax_mm 46).2.2.1 = 13 := by decide +kernel
  refine ax_of (as := [.ref 147, .ref 12, .int 0, .int 0]) (lv0 := [(0, .ref 147), (1, .ref 12), (2, .int 0), (3, .int 0)]) rfl hl (by decide +kernel) hn (by show 4 ≤ 13; decide) ?_
  refine AR.s (.iconst (-1), (0, 0, 0), .null, []) hn (by decide +kernel) rfl ?_
  refine AR.s (.istore 4, (0, 0, 0), .null, []) hn (by decide +kernel) rfl ?_
  refine AR.s (.lconst 0, (0, 0, 0), .null, []) hn (by decide +kernel) rfl ?_
  refine AR.s (.lstore 5, (0, 0, 0), .null, []) hn (by decide +kernel) rfl ?_
  refine AR.s (.iconst 0, (0, 0, 0), .null, []) hn (by decide +kernel) rfl ?_
  refine AR.s (.istore 7, (0, 0, 0), .null, []) hn (by decide +kernel) rfl ?_
  refine AR.lessL (lv' := [(7, .int (nI 0)), (5, .long 0), (4, .int (-1)), (0, .ref 147), (1, .ref 12), (2, .int 0), (3, .int 0)]) (fun q hq => ?_) (ax_chout hl hr0 64 0 (-1) rfl (Or.inr ⟨rfl, rfl⟩))
  simp only [List.mem_cons, List.not_mem_nil, or_false] at hq
  rcases hq with h | h | h | h | h | h | h
  · subst h; exact ⟨.int (Int32.ofInt 0), by simp, by decide +kernel⟩
  · subst h; exact ⟨.long (Int64.ofNat 0), by simp, by decide +kernel⟩
  · subst h; exact ⟨.int (Int32.ofInt (-1)), by simp, by decide +kernel⟩
  all_goals (subst h; refine ⟨_, ?_, ax_le_self _⟩; simp)
set_option maxRecDepth 100000 in
theorem ax_b210a : ax_reach (ax_to [] (ax_cl [] ax_no 2000 6) 210 38 2000 0 [(0, .ref 181)] [] ax_mid 0 0) [(2, .int 0), (1, .int 0), (0, .ref 181)] [] ax_mid 0 0 = true := by decide +kernel
set_option maxRecDepth 100000 in
theorem ax_b210b : ax_reach (ax_to [] (ax_cl [] ax_no 2000 6) 210 38 2000 4 ((2, .float 1009) :: [(1, .int 0), (0, .ref 181)]) [] ax_mid 0 0) ((2, .float 1009) :: [(1, .int 0), (0, .ref 181)]) [] ax_mid 0 0 = true := by decide +kernel
theorem ax_cheapestR (hl : l.stackTraces = false) : AM ax_ns l (ax_mm 210) 7 r 0 0 [.ref 181] ax_mid (ax_QR (.inl (some (.int 0))) ax_mid) := by
  have hn : (ax_mm 210).2.2.1 = 3 := by decide +kernel
  have ht : (ax_mm 210).2.2.2.1 = some .int := by decide +kernel
  refine AM.any (ax_of (as := [.ref 181]) (lv0 := [(0, .ref 181)]) rfl hl (by decide +kernel) hn (by show 1 ≤ 3; decide) ?_)
  refine ax_run_to (dy := 6) (bc := 0) (bs := 0) (fun a as h res h' dc ds q => ax_cl_ok hl ax_no_ok 6 a as h res h' dc ds q) ax_b210a ?_
  refine AR.iinc (x := .int 0) (ax_look_ok (i := 210) (pc := 38) (e := (.iinc 2 1, (0, 0, 0), .null, [])) (by decide +kernel)).1 (by rw [hn]; decide) rfl rfl ?_
  refine AR.goto (tgt := 4) (ax_look_ok (i := 210) (pc := 41) (e := (.goto (-37), (0, 0, 0), .null, [])) (by decide +kernel)).1 (by decide) ?_
  refine AR.lessL (lv' := (2, .int (nI 1)) :: [(1, .int 0), (0, .ref 181)]) (fun q hq => ?_) (ax_for (dy := 6) (n := 1009) (off := -37) (by decide) (by decide) (fun a as h res h' dc ds q => ax_cl_ok hl ax_no_ok 6 a as h res h' dc ds q) rfl ax_nnm ax_b210b (ei := ((0, 0, 0), .null, [])) (eg := ((0, 0, 0), .null, [])) (by decide +kernel) (by decide +kernel) (by decide) (by rw [hn]; decide) rfl rfl (Nat.le_refl 4096) ?_ 1 (by decide))
  · simp only [List.mem_cons, List.not_mem_nil, or_false] at hq
    rcases hq with h | h | h
    · subst h; exact ⟨_, List.mem_cons_self, by decide +kernel⟩
    all_goals (subst h; refine ⟨_, ?_, ax_le_self _⟩; simp [ax_s1, ax_k1, Value.category])
  refine AR.s (.iload_n 2, (0, 0, 0), .null, []) hn (by decide +kernel) rfl ?_
  refine AR.s (.sipush 4096, (0, 0, 0), .null, []) hn (by decide +kernel) rfl ?_
  refine AR.icmp_ge (off := 36) (tgt := 44) (ax_look_ok (i := 210) (pc := 8) (e := (.if_icmp .ge 36, (0, 0, 0), .null, [])) (by decide +kernel)).1 (by decide) (fun _ => ?_) (fun hn => absurd (by decide) hn)
  refine AR.s (.iload_n 1, (0, 0, 0), .null, []) hn (by decide +kernel) rfl ?_
  exact ax_retI (ei := ((0, 0, 0), .null, [])) (by decide +kernel) ht (Or.inl rfl) rfl ⟨rfl, rfl⟩
/-- what is known of the two searches -/
def ax_ovc : Nat → Nat → List Value → ax_H → Option ax_RR := fun d i as h =>
  if Nat.beq i 46 && (Nat.beq d 5 && (ax_les [.ref 147, .ref 12, .int 0, .int 0] as && ax_leh ax_mid h)) then some (.inl (some (.int 0)), ax_mid, 0, 0)
  else if Nat.beq i 210 && (Nat.beq d 7 && (ax_les [.ref 181] as && ax_leh ax_mid h)) then some (.inl (some (.int 0)), ax_mid, 0, 0) else none
theorem ax_ovc_ok (hl : l.stackTraces = false) : ∀ d i as h res h' uc us, ax_ovc d i as h = some (res, h', uc, us) → AM ax_ns l (ax_mm i) d [(101, ax_bits)] uc us as h (ax_QR res h') := by
  intro d i as h res h' uc us hq
  unfold ax_ovc at hq
  split at hq
  · rename_i hc
    cases hq
    simp only [Bool.and_eq_true] at hc
    obtain ⟨h1, h2, h3, h4⟩ := hc
    have h1 := Nat.eq_of_beq_eq_true h1
    have h2 := Nat.eq_of_beq_eq_true h2
    subst h1
    subst h2
    exact AM.lessH h4 (AM.less h3 (ax_cheapestC hl rfl))
  · split at hq
    · rename_i hc
      cases hq
      simp only [Bool.and_eq_true] at hc
      obtain ⟨h1, h2, h3, h4⟩ := hc
      have h1 := Nat.eq_of_beq_eq_true h1
      have h2 := Nat.eq_of_beq_eq_true h2
      subst h1
      subst h2
      exact AM.lessH h4 (AM.less h3 (ax_cheapestR hl))
    · cases hq
set_option maxRecDepth 100000 in
theorem ax_k247 : ax_rets (ax_cl [(101, ax_bits)] ax_ovc 20000 8 247 [.ref 0, .ref 197] ax_mid) (.int 0) ax_mid 0 0 = true := by decide +kernel
set_option maxRecDepth 100000 in
theorem ax_k211 : ax_rets (ax_cl [(101, ax_bits)] ax_ovc 20000 8 211 [.ref 181] ax_mid) (.int 0) ax_mid 0 0 = true := by decide +kernel
set_option maxRecDepth 100000 in
theorem ax_op34 (hl : l.stackTraces = false) : ax_go40 l xs 34 := by
  unfold ax_go40
  have hn : (ax_mm 260).2.2.1 = 8 := by decide +kernel
  refine AR.s (.tableswitch 2268 0 40 #[180, 284, 340, 384, 435, 448, 504, 560, 573, 629, 685, 753, 808, 864, 932, 1000, 1068, 1124, 1192, 1272, 1328, 1403, 1459, 1515, 1559, 1615, 1659, 1672, 1685, 1741, 1754, 1810, 1823, 1886, 1954, 1998, 2042, 2110, 2166, 2210, 2254], (0, 0, 0), .null, []) hn (by decide +kernel) rfl ?_
  refine AR.s (.aload_n 1, (0, 0, 0), .null, []) hn (by decide +kernel) rfl ?_
  refine AR.s (.aload_n 3, (0, 0, 0), .null, []) hn (by decide +kernel) rfl ?_
  refine AR.callO hl (ov := ax_ovc) (ax_ovc_ok hl) (ins := .invokestatic 252) (a := 247) (b := 2) (c := 0) (v := .null) (ws := [6096]) (by decide +kernel) (ax_argS (by decide +kernel) (by decide +kernel) (by show 2 ≤ 2; decide) (Nat.le_of_ble_eq_true rfl)) ax_k247 (ax_les_self _) (by decide) (by decide) (by decide) ?_
  refine AR.s (.istore 5, (0, 0, 0), .null, []) hn (by decide +kernel) rfl ?_
  refine AR.s (.aload_n 2, (0, 0, 0), .null, []) hn (by decide +kernel) rfl ?_
  refine AR.callO hl (ov := ax_ovc) (ax_ovc_ok hl) (ins := .invokevirtual 254) (a := 211) (b := 0) (c := 9) (v := .null) (ws := [8103, 8105]) (by decide +kernel) (ax_argV (q := 181) (rest := []) rfl rfl (by decide +kernel) (by decide +kernel) (by decide +kernel) (by show 0 ≤ 1; decide) (Nat.le_of_ble_eq_true rfl)) ax_k211 (ax_les_self _) (by decide) (by decide) (by decide) ?_
  exact ax_endC hl (by decide +kernel)
set_option maxRecDepth 100000 in
theorem ax_k248 : ax_rets (ax_cl [(101, ax_bits)] ax_ovc 20000 8 248 [.ref 0, .ref 197] ax_mid) (.int 0) ax_mid 0 0 = true := by decide +kernel
set_option maxRecDepth 100000 in
theorem ax_k212 : ax_rets (ax_cl [(101, ax_bits)] ax_ovc 20000 8 212 [.ref 181] ax_mid) (.int 0) ax_mid 0 0 = true := by decide +kernel
set_option maxRecDepth 100000 in
theorem ax_op35 (hl : l.stackTraces = false) : ax_go40 l xs 35 := by
  unfold ax_go40
  have hn : (ax_mm 260).2.2.1 = 8 := by decide +kernel
  refine AR.s (.tableswitch 2268 0 40 #[180, 284, 340, 384, 435, 448, 504, 560, 573, 629, 685, 753, 808, 864, 932, 1000, 1068, 1124, 1192, 1272, 1328, 1403, 1459, 1515, 1559, 1615, 1659, 1672, 1685, 1741, 1754, 1810, 1823, 1886, 1954, 1998, 2042, 2110, 2166, 2210, 2254], (0, 0, 0), .null, []) hn (by decide +kernel) rfl ?_
  refine AR.s (.aload_n 1, (0, 0, 0), .null, []) hn (by decide +kernel) rfl ?_
  refine AR.s (.aload_n 3, (0, 0, 0), .null, []) hn (by decide +kernel) rfl ?_
  refine AR.callO hl (ov := ax_ovc) (ax_ovc_ok hl) (ins := .invokestatic 255) (a := 248) (b := 2) (c := 0) (v := .null) (ws := [6121]) (by decide +kernel) (ax_argS (by decide +kernel) (by decide +kernel) (by show 2 ≤ 2; decide) (Nat.le_of_ble_eq_true rfl)) ax_k248 (ax_les_self _) (by decide) (by decide) (by decide) ?_
  refine AR.s (.istore 5, (0, 0, 0), .null, []) hn (by decide +kernel) rfl ?_
  refine AR.s (.aload_n 2, (0, 0, 0), .null, []) hn (by decide +kernel) rfl ?_
  refine AR.callO hl (ov := ax_ovc) (ax_ovc_ok hl) (ins := .invokevirtual 257) (a := 212) (b := 0) (c := 9) (v := .null) (ws := [8115, 8117]) (by decide +kernel) (ax_argV (q := 181) (rest := []) rfl rfl (by decide +kernel) (by decide +kernel) (by decide +kernel) (by show 0 ≤ 1; decide) (Nat.le_of_ble_eq_true rfl)) ax_k212 (ax_les_self _) (by decide) (by decide) (by decide) ?_
  exact ax_endC hl (by decide +kernel)
end AXB
