/-! OPCODE 30: nextModel -/
def ax_nx (s : Nat) : Int32 := if s < 4096 then nI s else -1
/-- what bitCount is asked for -/
def ax_gb (b : Nat) : Int64 := -1 &&& ((-1 : Int64) <<< ((nI b).toInt64 &&& 63))
def ax_xb (b : Nat) : Int64 := (ax_gb b &&& -(ax_gb b)) - Int64.ofNat 1
def ax_mx (x : Int64) : ax_H := ax_mid.set 197 (101, [.long x])
section AXB
variable {l : Launch} {xs : Nat → Int32} {d : Nat} {r : ax_H} {P : ax_P} {X : ax_PX} {i pc : Nat} {lv : List (Nat × Value)} {st as : List Value} {h : ax_H} {bc bs mc ms : Nat} {Q : ax_Q}
set_option maxRecDepth 100000 in
theorem ax_k255b : (List.range 64).all (fun b => ax_rets (ax_cl [] ax_no 2000 2 255 [.long (ax_xb b)] ax_mid) (.int (nI b)) ax_mid 0 0) = true := by decide +kernel
theorem ax_gb0 {b : Nat} (h : b < 64) : ¬ lg_cmp (ax_gb b) (Int64.ofNat 0) = 0 := by
  have : ∀ b, b < 64 → ¬ lg_cmp (ax_gb b) (Int64.ofNat 0) = 0 := by decide +kernel
  exact this b h
theorem ax_s64 {s : Nat} (h : s ≤ 4096) : nI s / (Int8.ofInt 64).toInt32 = nI (s / 64) := by
  rw [show (Int8.ofInt 64).toInt32 = nI 64 from by decide]
  exact pk_div (by omega) (by decide) (by decide)
theorem ax_r64 {s : Nat} (h : s ≤ 4096) : nI s - nI (s / 64) * (Int8.ofInt 64).toInt32 = nI (s % 64) := by
  rw [show (Int8.ofInt 64).toInt32 = nI 64 from by decide, ← pk_div (by omega) (by decide) (by decide)]
  exact pk_rem (by omega) (by decide) (by decide)
theorem ax_max0 {n : Nat} (h : n ≤ 64) : (if Int32.ofInt 0 < nI n then nI n else Int32.ofInt 0) = nI n := by
  have : ∀ n, n ≤ 64 → (if Int32.ofInt 0 < nI n then nI n else Int32.ofInt 0) = nI n := by decide +kernel
  exact this n h
theorem ax_leastN (hl : l.stackTraces = false) (hr0 : r[0]? = some (101, ax_bits)) {s : Nat} (hs : s ≤ 4096) : AM ax_ns l (ax_mm 44) 5 r 0 0 [.ref 147, .int (nI s), .int 0, .int 0] ax_mid (ax_QR (.inl (some (.int (ax_nx s)))) ax_mid) := by
  have hn : (ax_mm 44).2.2.1 = 9 := by decide +kernel
  have ht : (ax_mm 44).2.2.2.1 = some .int := by decide +kernel
  refine ax_of (as := [.ref 147, .int (nI s), .int 0, .int 0]) (lv0 := [(0, .ref 147), (1, .int (nI s)), (2, .int 0), (3, .int 0)]) rfl hl (by decide +kernel) hn (by show 4 ≤ 9; decide) ?_
  refine AR.s (.iconst 0, (0, 0, 0), .null, []) hn (by decide +kernel) rfl ?_
  refine AR.s (.iload_n 1, (0, 0, 0), .null, []) hn (by decide +kernel) rfl ?_
  refine AR.s (.bipush 64, (0, 0, 0), .null, []) hn (by decide +kernel) rfl ?_
  refine AR.s (.idiv, (0, 0, 0), .null, []) hn (by decide +kernel) rfl ?_
  refine AR.s (.invokestatic 33, (702, 2, 0), .null, [2083]) hn (by decide +kernel) rfl ?_
  try dsimp only
  rw [ax_s64 hs, ax_max0 (by omega)]
  refine AR.s (.istore 4, (0, 0, 0), .null, []) hn (by decide +kernel) rfl ?_
  refine AR.s (.iload 4, (0, 0, 0), .null, []) hn (by decide +kernel) rfl ?_
  refine AR.s (.bipush 64, (0, 0, 0), .null, []) hn (by decide +kernel) rfl ?_
  refine AR.icmp_ge (off := 70) (tgt := 84) (ax_look_ok (i := 44) (pc := 14) (e := (.if_icmp .ge 70, (0, 0, 0), .null, [])) (by decide +kernel)).1 (by decide) (fun hge => ?_) (fun hlt => ?_)
  · have e64 : (Int8.ofInt 64).toInt32 = nI 64 := by decide
    rw [e64, nI_leI (by omega) (by omega)] at hge
    refine AR.s (.iconst (-1), (0, 0, 0), .null, []) hn (by decide +kernel) rfl ?_
    refine ax_retI (ei := ((0, 0, 0), .null, [])) (by decide +kernel) ht (Or.inl rfl) rfl ⟨?_, rfl⟩
    unfold ax_nx
    rw [if_neg (by omega)]
    rfl
  have hs2 : s < 4096 := by
    have e64 : (Int8.ofInt 64).toInt32 = nI 64 := by decide
    rw [e64, nI_leI (by omega) (by omega)] at hlt
    omega
  refine AR.s (.aload_n 0, (0, 0, 0), .null, []) hn (by decide +kernel) rfl ?_
  refine AR.s (.iload 4, (0, 0, 0), .null, []) hn (by decide +kernel) rfl ?_
  refine AR.s (.iload_n 2, (0, 0, 0), .null, []) hn (by decide +kernel) rfl ?_
  refine AR.s (.iload_n 3, (0, 0, 0), .null, []) hn (by decide +kernel) rfl ?_
  refine AR.call (ins := .invokevirtual 39) (a := 47) (b := 3) (c := 5) (v := .null) (ws := [2086, 3]) (by decide +kernel) (ax_argV (q := 147) (rest := []) rfl rfl (by decide +kernel) (by decide +kernel) (by decide +kernel) (by show 3 ≤ 4; decide) (Nat.le_of_ble_eq_true rfl)) (ax_matching (d := 4) (Y := 0) (N := 0) hl hr0 (W := s / 64) (by omega) (by decide) (by decide)) (Nat.le_refl _) (Nat.zero_le _) (Nat.zero_le _) (fun v h' hq => ?_) (fun E h' hq => ?_)
  rotate_left
  · obtain ⟨f, q1, -⟩ := hq
    cases q1
  obtain ⟨f, q1, q2, -, q4⟩ := hq
  cases q1
  subst q2
  obtain rfl := q4 rfl rfl
  refine AR.s (.lstore 5, (0, 0, 0), .null, []) hn (by decide +kernel) rfl ?_
  refine AR.s (.iload 4, (0, 0, 0), .null, []) hn (by decide +kernel) rfl ?_
  refine AR.s (.iload_n 1, (0, 0, 0), .null, []) hn (by decide +kernel) rfl ?_
  refine AR.s (.bipush 64, (0, 0, 0), .null, []) hn (by decide +kernel) rfl ?_
  refine AR.s (.idiv, (0, 0, 0), .null, []) hn (by decide +kernel) rfl ?_
  try dsimp only
  rw [ax_s64 hs]
  refine AR.icmp_ne (off := 16) (tgt := 49) (ax_look_ok (i := 44) (pc := 33) (e := (.if_icmp .ne 16, (0, 0, 0), .null, [])) (by decide +kernel)).1 (by decide) (fun hne => absurd rfl hne) (fun _ => ?_)
  refine AR.s (.lload 5, (0, 0, 0), .null, []) hn (by decide +kernel) rfl ?_
  refine AR.s (.ldc2_w 13, (0, 0, 0), .long (-1), [1220]) hn (by decide +kernel) rfl ?_
  refine AR.s (.iload_n 1, (0, 0, 0), .null, []) hn (by decide +kernel) rfl ?_
  refine AR.s (.bipush 64, (0, 0, 0), .null, []) hn (by decide +kernel) rfl ?_
  refine AR.s (.irem, (0, 0, 0), .null, []) hn (by decide +kernel) rfl ?_
  try dsimp only
  rw [ax_s64 hs, ax_r64 hs]
  refine AR.s (.lshl, (0, 0, 0), .null, []) hn (by decide +kernel) rfl ?_
  refine AR.s (.land, (0, 0, 0), .null, []) hn (by decide +kernel) rfl ?_
  show AR ax_ns l (ax_mm 44) 5 r _ _ 47 _ [.long (ax_gb (s % 64))] ax_mid 0 0
  refine AR.s (.lstore 5, (0, 0, 0), .null, []) hn (by decide +kernel) rfl ?_
  refine AR.s (.lload 5, (0, 0, 0), .null, []) hn (by decide +kernel) rfl ?_
  refine AR.s (.lconst 0, (0, 0, 0), .null, []) hn (by decide +kernel) rfl ?_
  refine AR.s (.lcmp, (0, 0, 0), .null, []) hn (by decide +kernel) rfl ?_
  refine AR.if_eq (off := 25) (tgt := 78) (ax_look_ok (i := 44) (pc := 53) (e := (.ifCond .eq 25, (0, 0, 0), .null, [])) (by decide +kernel)).1 (by decide) (fun h0 => absurd h0 (ax_gb0 (Nat.mod_lt _ (by decide)))) (fun _ => ?_)
  refine AR.s (.lload 5, (0, 0, 0), .null, []) hn (by decide +kernel) rfl ?_
  refine AR.s (.lload 5, (0, 0, 0), .null, []) hn (by decide +kernel) rfl ?_
  refine AR.s (.lneg, (0, 0, 0), .null, []) hn (by decide +kernel) rfl ?_
  refine AR.s (.land, (0, 0, 0), .null, []) hn (by decide +kernel) rfl ?_
  refine AR.s (.lstore 7, (0, 0, 0), .null, []) hn (by decide +kernel) rfl ?_
  refine AR.s (.iload 4, (0, 0, 0), .null, []) hn (by decide +kernel) rfl ?_
  refine AR.s (.bipush 64, (0, 0, 0), .null, []) hn (by decide +kernel) rfl ?_
  refine AR.s (.imul, (0, 0, 0), .null, []) hn (by decide +kernel) rfl ?_
  refine AR.s (.lload 7, (0, 0, 0), .null, []) hn (by decide +kernel) rfl ?_
  refine AR.s (.lconst 1, (0, 0, 0), .null, []) hn (by decide +kernel) rfl ?_
  refine AR.s (.lsub, (0, 0, 0), .null, []) hn (by decide +kernel) rfl ?_
  refine AR.callC hl (ins := .invokestatic 43) (a := 255) (b := 1) (c := 0) (v := .null) (ws := [2092]) (by decide +kernel) (ax_argS (by decide +kernel) (by decide +kernel) (by show 1 ≤ 2; decide) (Nat.le_of_ble_eq_true rfl)) (ax_rng (p := fun b => ax_rets (ax_cl [] ax_no 2000 2 255 [.long (ax_xb b)] ax_mid) (.int (nI b)) ax_mid 0 0) ax_k255b (s % 64) (Nat.mod_lt _ (by decide))) (ax_les_self _) (by decide) (Nat.zero_le _) (Nat.zero_le _) ?_
  refine AR.s (.iadd, (0, 0, 0), .null, []) hn (by decide +kernel) rfl ?_
  refine ax_retI (ei := ((0, 0, 0), .null, [])) (by decide +kernel) ht (Or.inl rfl) rfl ⟨?_, rfl⟩
  unfold ax_nx
  rw [if_pos hs2]
  have e : nI (s / 64) * (Int8.ofInt 64).toInt32 + nI (s % 64) = nI s := by
    rw [show (Int8.ofInt 64).toInt32 = nI 64 from by decide, pk_mul, nI_add]
    congr 1
    omega
  rw [← e]
theorem ax_nextC (hl : l.stackTraces = false) (hr0 : r[0]? = some (101, ax_bits)) {m : Nat} (hm : m < 4096) : AM ax_ns l (ax_mm 100) 6 r 0 0 [.ref 0, .int (nI m)] ax_mid (ax_QR (.inl (some (.int (ax_nx (m + 1))))) ax_mid) := by
  have hn : (ax_mm 100).2.2.1 = 2 := by decide +kernel
  have ht : (ax_mm 100).2.2.2.1 = some .int := by decide +kernel
  refine ax_of (as := [.ref 0, .int (nI m)]) (lv0 := [(0, .ref 0), (1, .int (nI m))]) rfl hl (by decide +kernel) hn (by show 2 ≤ 2; decide) ?_
  refine AR.s (.iload_n 1, (0, 0, 0), .null, []) hn (by decide +kernel) rfl ?_
  refine AR.callC hl (ins := .invokestatic 313) (a := 116) (b := 1) (c := 0) (v := .null) (ws := [6073]) (by decide +kernel) (ax_argS (by decide +kernel) (by decide +kernel) (by show 1 ≤ 1; decide) (Nat.le_of_ble_eq_true rfl)) ax_k116 (ax_le9 hm) (by decide) (Nat.zero_le _) (Nat.zero_le _) ?_
  refine AR.s (.ifCond .ne 14, (0, 0, 0), .null, []) hn (by decide +kernel) rfl ?_
  refine AR.s (.aload_n 0, (0, 0, 0), .null, []) hn (by decide +kernel) rfl ?_
  refine AR.callC hl (ins := .invokevirtual 299) (a := 122) (b := 0) (c := 8) (v := .null) (ws := [2063, 0]) (by decide +kernel) (ax_argV (q := 0) (rest := []) rfl rfl (by decide +kernel) (by decide +kernel) (by decide +kernel) (by show 0 ≤ 1; decide) (Nat.le_of_ble_eq_true rfl)) ax_k122 rfl (by decide) (Nat.zero_le _) (Nat.zero_le _) ?_
  refine AR.s (.iload_n 1, (0, 0, 0), .null, []) hn (by decide +kernel) rfl ?_
  refine AR.s (.iconst 1, (0, 0, 0), .null, []) hn (by decide +kernel) rfl ?_
  refine AR.s (.iadd, (0, 0, 0), .null, []) hn (by decide +kernel) rfl ?_
  refine AR.s (.aload_n 0, (0, 0, 0), .null, []) hn (by decide +kernel) rfl ?_
  refine AR.callC hl (ins := .invokevirtual 303) (a := 123) (b := 0) (c := 8) (v := .null) (ws := [2067, 1]) (by decide +kernel) (ax_argV (q := 0) (rest := [.int (nI m + Int32.ofInt 1), .ref 147]) rfl rfl (by decide +kernel) (by decide +kernel) (by decide +kernel) (by show 0 ≤ 3; decide) (Nat.le_of_ble_eq_true rfl)) ax_k123 rfl (by decide) (Nat.zero_le _) (Nat.zero_le _) ?_
  refine AR.s (.aload_n 0, (0, 0, 0), .null, []) hn (by decide +kernel) rfl ?_
  refine AR.callC hl (ins := .invokevirtual 306) (a := 124) (b := 0) (c := 8) (v := .null) (ws := [2075, 2]) (by decide +kernel) (ax_argV (q := 0) (rest := [.int 0, .int (nI m + Int32.ofInt 1), .ref 147]) rfl rfl (by decide +kernel) (by decide +kernel) (by decide +kernel) (by show 0 ≤ 4; decide) (Nat.le_of_ble_eq_true rfl)) ax_k124 rfl (by decide) (Nat.zero_le _) (Nat.zero_le _) ?_
  have e9 : nI m + Int32.ofInt 1 = nI (m + 1) := by rw [show Int32.ofInt 1 = 1 from by decide, ← nI_succ]
  rw [e9]
  refine AR.call (ins := .invokevirtual 309) (a := 44) (b := 3) (c := 5) (v := .null) (ws := [2079, 2081]) (by decide +kernel) (ax_argV (q := 147) (rest := []) rfl rfl (by decide +kernel) (by decide +kernel) (by decide +kernel) (by show 3 ≤ 4; decide) (Nat.le_of_ble_eq_true rfl)) (ax_leastN hl hr0 (by omega)) (by decide) (Nat.zero_le _) (Nat.zero_le _) (fun v h' hq => ?_) (fun E h' hq => ?_)
  rotate_left
  · obtain ⟨q1, -⟩ := hq
    cases q1
  obtain ⟨q1, q2⟩ := hq
  cases q1
  have q2 : h' = ax_mid := q2
  subst q2
  exact ax_retI (ei := ((0, 0, 0), .null, [])) (by decide +kernel) ht (Or.inl rfl) rfl ⟨rfl, rfl⟩
theorem ax_nextL (hl : l.stackTraces = false) (hr0 : r[0]? = some (101, ax_bits)) {m : Nat} (hm : m < 4096) : AM ax_ns l (ax_mm 244) 7 r 0 0 [.ref 0, .int (nI m), .ref 197] ax_mid (ax_QR (.inl (some (.int (Int32.ofInt 0)))) (ax_mx (ax_nx (m + 1)).toInt64)) := by
  have hn : (ax_mm 244).2.2.1 = 4 := by decide +kernel
  have ht : (ax_mm 244).2.2.2.1 = some .int := by decide +kernel
  refine ax_of (as := [.ref 0, .int (nI m), .ref 197]) (lv0 := [(0, .ref 0), (1, .int (nI m)), (2, .ref 197)]) rfl hl (by decide +kernel) hn (by show 3 ≤ 4; decide) ?_
  refine AR.s (.aload_n 2, (0, 0, 0), .null, []) hn (by decide +kernel) rfl ?_
  refine AR.s (.iconst 0, (0, 0, 0), .null, []) hn (by decide +kernel) rfl ?_
  refine AR.s (.aload_n 0, (0, 0, 0), .null, []) hn (by decide +kernel) rfl ?_
  refine AR.s (.iload_n 1, (0, 0, 0), .null, []) hn (by decide +kernel) rfl ?_
  refine AR.call (ins := .invokevirtual 102) (a := 100) (b := 1) (c := 8) (v := .null) (ws := [6069, 6071]) (by decide +kernel) (ax_argV (q := 0) (rest := [.int (Int32.ofInt 0), .ref 197]) rfl rfl (by decide +kernel) (by decide +kernel) (by decide +kernel) (by show 1 ≤ 4; decide) (Nat.le_of_ble_eq_true rfl)) (ax_nextC hl hr0 hm) (by decide) (Nat.zero_le _) (Nat.zero_le _) (fun v h' hq => ?_) (fun E h' hq => ?_)
  rotate_left
  · obtain ⟨q1, -⟩ := hq
    cases q1
  obtain ⟨q1, q2⟩ := hq
  cases q1
  have q2 : h' = ax_mid := q2
  subst q2
  refine AR.s (.i2l, (0, 0, 0), .null, []) hn (by decide +kernel) rfl ?_
  refine AR.lastore (vs := [.long 0]) (ax_look_ok (i := 244) (pc := 8) (e := (.lastore, (0, 0, 0), .null, [])) (by decide +kernel)).1 (by decide) rfl (by decide) (by decide) rfl ?_
  show AR ax_ns l (ax_mm 244) 7 r _ _ 9 _ [] (ax_mx (ax_nx (m + 1)).toInt64) _ _
  refine AR.s (.goto 6, (0, 0, 0), .null, []) hn (by decide +kernel) rfl ?_
  refine AR.s (.iconst 0, (0, 0, 0), .null, []) hn (by decide +kernel) rfl ?_
  exact ax_retI (ei := ((0, 0, 0), .null, [])) (by decide +kernel) ht (Or.inl rfl) rfl ⟨rfl, rfl⟩
theorem ax_leh_set {q : Nat × List Value} : ∀ (h : ax_H) (k : Nat), ax_leh (h.set k (99, [])) (h.set k q) = true
  | [], _ => rfl
  | z :: t, 0 => by
    show ((Nat.beq 99 99 || _) && ax_leh t t) = true
    rw [ax_leh_self t]
    rfl
  | z :: t, k + 1 => by
    show (ax_lec z z && ax_leh (t.set k (99, [])) (t.set k q)) = true
    rw [ax_leh_set t k, Bool.and_true]
    show (Nat.beq z.1 99 || (Nat.beq z.1 z.1 && ax_les z.2 z.2)) = true
    rw [ax_les_self, Nat.beq_refl]
    simp
theorem ax_isModelX (hl : l.stackTraces = false) (m : Int32) (x : Int64) : AM ax_ns l (ax_mm 200) d r 0 0 [.ref 181, .int m] (ax_mx x) (ax_QR (.inl (some (.int (Int32.ofInt 1)))) (ax_mx x)) := by
  have hn : (ax_mm 200).2.2.1 = 6 := by decide +kernel
  have ht : (ax_mm 200).2.2.2.1 = some .boolean := by decide +kernel
  refine ax_of (as := [.ref 181, .int m]) (lv0 := [(0, .ref 181), (1, .int m)]) rfl hl (by decide +kernel) hn (by show 2 ≤ 6; decide) ?_
  refine AR.s (.iconst 0, (0, 0, 0), .null, []) hn (by decide +kernel) rfl ?_
  refine AR.s (.istore_n 2, (0, 0, 0), .null, []) hn (by decide +kernel) rfl ?_
  refine AR.s (.iload_n 2, (0, 0, 0), .null, []) hn (by decide +kernel) rfl ?_
  refine AR.s (.aload_n 0, (0, 0, 0), .null, []) hn (by decide +kernel) rfl ?_
  refine AR.s (.getfield 64, (9, 1, 0), .null, [6177]) hn (by decide +kernel) rfl ?_
  refine AR.icmp_ge (off := 63) (tgt := 70) (ax_look_ok (i := 200) (pc := 7) (e := (.if_icmp .ge 63, (0, 0, 0), .null, [])) (by decide +kernel)).1 (by decide) (fun _ => ?_) (fun hn => absurd (by decide) hn)
  refine AR.s (.iconst 1, (0, 0, 0), .null, []) hn (by decide +kernel) rfl ?_
  exact ax_retI (ei := ((0, 0, 0), .null, [])) (by decide +kernel) ht (Or.inr rfl) rfl ⟨rfl, rfl⟩
theorem ax_isOursX (hl : l.stackTraces = false) (m : Int32) (x : Int64) : AM ax_ns l (ax_mm 201) (d + 1) r 0 0 [.ref 181, .int m] (ax_mx x) (ax_QR (.inl (some (.int (Int32.ofInt 1)))) (ax_mx x)) := by
  have hn : (ax_mm 201).2.2.1 = 4 := by decide +kernel
  have ht : (ax_mm 201).2.2.2.1 = some .boolean := by decide +kernel
  refine ax_of (as := [.ref 181, .int m]) (lv0 := [(0, .ref 181), (1, .int m)]) rfl hl (by decide +kernel) hn (by show 2 ≤ 4; decide) ?_
  refine AR.s (.iconst 1, (0, 0, 0), .null, []) hn (by decide +kernel) rfl ?_
  refine AR.s (.istore_n 2, (0, 0, 0), .null, []) hn (by decide +kernel) rfl ?_
  refine AR.s (.iconst 0, (0, 0, 0), .null, []) hn (by decide +kernel) rfl ?_
  refine AR.s (.istore_n 3, (0, 0, 0), .null, []) hn (by decide +kernel) rfl ?_
  refine AR.s (.iload_n 3, (0, 0, 0), .null, []) hn (by decide +kernel) rfl ?_
  refine AR.s (.aload_n 0, (0, 0, 0), .null, []) hn (by decide +kernel) rfl ?_
  refine AR.s (.getfield 244, (9, 21, 0), .null, [6197]) hn (by decide +kernel) rfl ?_
  refine AR.icmp_ge (off := 22) (tgt := 31) (ax_look_ok (i := 201) (pc := 9) (e := (.if_icmp .ge 22, (0, 0, 0), .null, [])) (by decide +kernel)).1 (by decide) (fun _ => ?_) (fun hn => absurd (by decide) hn)
  refine AR.s (.iload_n 2, (0, 0, 0), .null, []) hn (by decide +kernel) rfl ?_
  refine AR.s (.ifCond .eq 15, (0, 0, 0), .null, []) hn (by decide +kernel) rfl ?_
  refine AR.s (.aload_n 0, (0, 0, 0), .null, []) hn (by decide +kernel) rfl ?_
  refine AR.s (.iload_n 1, (0, 0, 0), .null, []) hn (by decide +kernel) rfl ?_
  refine AR.call (ins := .invokevirtual 173) (a := 200) (b := 1) (c := 9) (v := .null) (ws := [7141, 49]) (by decide +kernel) (ax_argV (q := 181) (rest := []) rfl rfl (by decide +kernel) (by decide +kernel) (by decide +kernel) (by show 1 ≤ 2; decide) (Nat.le_of_ble_eq_true rfl)) (ax_isModelX (d := d) hl m x) (Nat.le_refl _) (Nat.zero_le _) (Nat.zero_le _) (fun v h' hq => ?_) (fun E h' hq => ?_)
  rotate_left
  · obtain ⟨q1, -⟩ := hq
    cases q1
  obtain ⟨q1, q2⟩ := hq
  cases q1
  have q2 : h' = ax_mx x := q2
  subst q2
  refine AR.s (.ifCond .eq 7, (0, 0, 0), .null, []) hn (by decide +kernel) rfl ?_
  refine AR.s (.iconst 1, (0, 0, 0), .null, []) hn (by decide +kernel) rfl ?_
  refine AR.s (.goto 4, (0, 0, 0), .null, []) hn (by decide +kernel) rfl ?_
  exact ax_retI (ei := ((0, 0, 0), .null, [])) (by decide +kernel) ht (Or.inr rfl) rfl ⟨rfl, rfl⟩
theorem ax_modelFrom (hl : l.stackTraces = false) {s : Nat} (hs : s ≤ 4096) (x : Int64) : AM ax_ns l (ax_mm 202) 5 r 0 0 [.ref 181, .int (nI s)] (ax_mx x) (ax_QR (.inl (some (.int (ax_nx s)))) (ax_mx x)) := by
  have hn : (ax_mm 202).2.2.1 = 3 := by decide +kernel
  have ht : (ax_mm 202).2.2.2.1 = some .int := by decide +kernel
  have e64 : (Int16.ofInt 4096).toInt32 = nI 4096 := by decide
  refine ax_of (as := [.ref 181, .int (nI s)]) (lv0 := [(0, .ref 181), (1, .int (nI s))]) rfl hl (by decide +kernel) hn (by show 2 ≤ 3; decide) ?_
  refine AR.s (.iload_n 1, (0, 0, 0), .null, []) hn (by decide +kernel) rfl ?_
  refine AR.s (.istore_n 2, (0, 0, 0), .null, []) hn (by decide +kernel) rfl ?_
  refine AR.s (.iload_n 2, (0, 0, 0), .null, []) hn (by decide +kernel) rfl ?_
  refine AR.s (.sipush 4096, (0, 0, 0), .null, []) hn (by decide +kernel) rfl ?_
  refine AR.icmp_ge (off := 17) (tgt := 23) (ax_look_ok (i := 202) (pc := 6) (e := (.if_icmp .ge 17, (0, 0, 0), .null, [])) (by decide +kernel)).1 (by decide) (fun hge => ?_) (fun hlt => ?_)
  · rw [e64, nI_leI (by omega) (by omega)] at hge
    refine AR.s (.iload_n 2, (0, 0, 0), .null, []) hn (by decide +kernel) rfl ?_
    refine AR.s (.sipush 4096, (0, 0, 0), .null, []) hn (by decide +kernel) rfl ?_
    refine AR.icmp_ge (off := 7) (tgt := 34) (ax_look_ok (i := 202) (pc := 27) (e := (.if_icmp .ge 7, (0, 0, 0), .null, [])) (by decide +kernel)).1 (by decide) (fun _ => ?_) (fun hn => absurd (by rw [e64, nI_leI (by omega) (by omega)]; exact hge) hn)
    refine AR.s (.iconst (-1), (0, 0, 0), .null, []) hn (by decide +kernel) rfl ?_
    refine ax_retI (ei := ((0, 0, 0), .null, [])) (by decide +kernel) ht (Or.inl rfl) rfl ⟨?_, rfl⟩
    unfold ax_nx
    rw [if_neg (by omega)]
    rfl
  · rw [e64, nI_leI (by omega) (by omega)] at hlt
    refine AR.s (.aload_n 0, (0, 0, 0), .null, []) hn (by decide +kernel) rfl ?_
    refine AR.s (.iload_n 2, (0, 0, 0), .null, []) hn (by decide +kernel) rfl ?_
    refine AR.call (ins := .invokevirtual 256) (a := 201) (b := 1) (c := 9) (v := .null) (ws := [8080, 62]) (by decide +kernel) (ax_argV (q := 181) (rest := []) rfl rfl (by decide +kernel) (by decide +kernel) (by decide +kernel) (by show 1 ≤ 2; decide) (Nat.le_of_ble_eq_true rfl)) (ax_isOursX (d := 3) hl (nI s) x) (by decide) (Nat.zero_le _) (Nat.zero_le _) (fun v h' hq => ?_) (fun E h' hq => ?_)
    rotate_left
    · obtain ⟨q1, -⟩ := hq
      cases q1
    obtain ⟨q1, q2⟩ := hq
    cases q1
    have q2 : h' = ax_mx x := q2
    subst q2
    refine AR.s (.ifCond .ne 9, (0, 0, 0), .null, []) hn (by decide +kernel) rfl ?_
    refine AR.s (.iload_n 2, (0, 0, 0), .null, []) hn (by decide +kernel) rfl ?_
    refine AR.s (.sipush 4096, (0, 0, 0), .null, []) hn (by decide +kernel) rfl ?_
    refine AR.icmp_ge (off := 7) (tgt := 34) (ax_look_ok (i := 202) (pc := 27) (e := (.if_icmp .ge 7, (0, 0, 0), .null, [])) (by decide +kernel)).1 (by decide) (fun hge => ?_) (fun _ => ?_)
    · exfalso
      rw [e64, nI_leI (by omega) (by omega)] at hge
      omega
    refine AR.s (.iload_n 2, (0, 0, 0), .null, []) hn (by decide +kernel) rfl ?_
    refine AR.s (.goto 4, (0, 0, 0), .null, []) hn (by decide +kernel) rfl ?_
    refine ax_retI (ei := ((0, 0, 0), .null, [])) (by decide +kernel) ht (Or.inl rfl) rfl ⟨?_, rfl⟩
    unfold ax_nx
    rw [if_pos (by omega)]
theorem ax_isMaskX (hl : l.stackTraces = false) {m : Nat} (hm : m < 4096) (x : Int64) : AM ax_ns l (ax_mm 204) d r 0 0 [.int (nI m)] (ax_mx x) (ax_QR (.inl (some (.int (Int32.ofInt 1)))) (ax_mx x)) := by
  have hn : (ax_mm 204).2.2.1 = 1 := by decide +kernel
  have ht : (ax_mm 204).2.2.2.1 = some .boolean := by decide +kernel
  refine ax_of (as := [.int (nI m)]) (lv0 := [(0, .int (nI m))]) rfl hl (by decide +kernel) hn (by show 1 ≤ 1; decide) ?_
  refine AR.s (.iload_n 0, (0, 0, 0), .null, []) hn (by decide +kernel) rfl ?_
  refine AR.if_lt (off := 14) (tgt := 15) (ax_look_ok (i := 204) (pc := 1) (e := (.ifCond .lt 14, (0, 0, 0), .null, [])) (by decide +kernel)).1 (by decide) (fun h0 => absurd h0 (nI_pos (by omega))) (fun _ => ?_)
  refine AR.s (.iload_n 0, (0, 0, 0), .null, []) hn (by decide +kernel) rfl ?_
  refine AR.s (.sipush 4096, (0, 0, 0), .null, []) hn (by decide +kernel) rfl ?_
  refine AR.icmp_ge (off := 7) (tgt := 15) (ax_look_ok (i := 204) (pc := 8) (e := (.if_icmp .ge 7, (0, 0, 0), .null, [])) (by decide +kernel)).1 (by decide) (fun hge => ?_) (fun _ => ?_)
  · exfalso
    have e64 : (Int16.ofInt 4096).toInt32 = nI 4096 := by decide
    rw [e64, nI_leI (by omega) (by omega)] at hge
    omega
  refine AR.s (.iconst 1, (0, 0, 0), .null, []) hn (by decide +kernel) rfl ?_
  refine AR.s (.goto 4, (0, 0, 0), .null, []) hn (by decide +kernel) rfl ?_
  exact ax_retI (ei := ((0, 0, 0), .null, [])) (by decide +kernel) ht (Or.inr rfl) rfl ⟨rfl, rfl⟩
theorem ax_nextR (hl : l.stackTraces = false) {m : Nat} (hm : m < 4096) (x : Int64) : AM ax_ns l (ax_mm 205) 6 r 0 0 [.ref 181, .int (nI m)] (ax_mx x) (ax_QR (.inl (some (.int (ax_nx (m + 1))))) (ax_mx x)) := by
  have hn : (ax_mm 205).2.2.1 = 2 := by decide +kernel
  have ht : (ax_mm 205).2.2.2.1 = some .int := by decide +kernel
  refine ax_of (as := [.ref 181, .int (nI m)]) (lv0 := [(0, .ref 181), (1, .int (nI m))]) rfl hl (by decide +kernel) hn (by show 2 ≤ 2; decide) ?_
  refine AR.s (.aload_n 0, (0, 0, 0), .null, []) hn (by decide +kernel) rfl ?_
  refine AR.s (.iconst 0, (0, 0, 0), .null, []) hn (by decide +kernel) rfl ?_
  refine AR.s (.putfield 61, (9, 0, 0), .null, [6176]) hn (by decide +kernel) rfl ?_
  show AR ax_ns l (ax_mm 205) 6 r _ _ 5 _ [] (ax_mx x) 0 0
  refine AR.s (.iload_n 1, (0, 0, 0), .null, []) hn (by decide +kernel) rfl ?_
  refine AR.call (ins := .invokestatic 262) (a := 204) (b := 1) (c := 0) (v := .null) (ws := [8088]) (by decide +kernel) (ax_argS (by decide +kernel) (by decide +kernel) (by show 1 ≤ 1; decide) (Nat.le_of_ble_eq_true rfl)) (ax_isMaskX (d := 4) hl hm x) (by decide) (Nat.zero_le _) (Nat.zero_le _) (fun v h' hq => ?_) (fun E h' hq => ?_)
  rotate_left
  · obtain ⟨q1, -⟩ := hq
    cases q1
  obtain ⟨q1, q2⟩ := hq
  cases q1
  have q2 : h' = ax_mx x := q2
  subst q2
  refine AR.s (.ifCond .eq 13, (0, 0, 0), .null, []) hn (by decide +kernel) rfl ?_
  refine AR.s (.aload_n 0, (0, 0, 0), .null, []) hn (by decide +kernel) rfl ?_
  refine AR.s (.iload_n 1, (0, 0, 0), .null, []) hn (by decide +kernel) rfl ?_
  refine AR.s (.iconst 1, (0, 0, 0), .null, []) hn (by decide +kernel) rfl ?_
  refine AR.s (.iadd, (0, 0, 0), .null, []) hn (by decide +kernel) rfl ?_
  have e9 : nI m + Int32.ofInt 1 = nI (m + 1) := by rw [show Int32.ofInt 1 = 1 from by decide, ← nI_succ]
  rw [e9]
  refine AR.call (ins := .invokevirtual 259) (a := 202) (b := 1) (c := 9) (v := .null) (ws := [8076, 61]) (by decide +kernel) (ax_argV (q := 181) (rest := []) rfl rfl (by decide +kernel) (by decide +kernel) (by decide +kernel) (by show 1 ≤ 2; decide) (Nat.le_of_ble_eq_true rfl)) (ax_modelFrom hl (by omega) x) (by decide) (Nat.zero_le _) (Nat.zero_le _) (fun v h' hq => ?_) (fun E h' hq => ?_)
  rotate_left
  · obtain ⟨q1, -⟩ := hq
    cases q1
  obtain ⟨q1, q2⟩ := hq
  cases q1
  have q2 : h' = ax_mx x := q2
  subst q2
  refine AR.s (.goto 8, (0, 0, 0), .null, []) hn (by decide +kernel) rfl ?_
  exact ax_retI (ei := ((0, 0, 0), .null, [])) (by decide +kernel) ht (Or.inl rfl) rfl ⟨rfl, rfl⟩
set_option maxRecDepth 100000 in
theorem ax_k131 : ax_rets (ax_cl [] ax_no 2000 2 131 [.ref 181] (ax_mid.set 197 (99, []))) (.int 0) (ax_mid.set 197 (99, [])) 0 0 = true := by decide +kernel
theorem ax_thrownX (hl : l.stackTraces = false) (x : Int64) : AM ax_ns l (ax_mm 131) d r 0 0 [.ref 181] (ax_mx x) (ax_QR (.inl (some (.int 0))) (ax_mx x)) := by
  have hn : (ax_mm 131).2.2.1 = 1 := by decide +kernel
  have ht : (ax_mm 131).2.2.2.1 = some .int := by decide +kernel
  refine ax_of (as := [.ref 181]) (lv0 := [(0, .ref 181)]) rfl hl (by decide +kernel) hn (by show 1 ≤ 1; decide) ?_
  refine AR.s (.aload_n 0, (0, 0, 0), .null, []) hn (by decide +kernel) rfl ?_
  refine AR.s (.getfield 61, (9, 0, 0), .null, [6176]) hn (by decide +kernel) rfl ?_
  exact ax_retI (ei := ((0, 0, 0), .null, [])) (by decide +kernel) ht (Or.inl rfl) rfl ⟨rfl, rfl⟩
theorem ax_lg0x (x : Int64) : lg_cmp x x = 0 := by
  unfold lg_cmp
  rw [if_neg (show ¬ x > x from Int64.lt_irrefl), if_pos rfl]
set_option maxRecDepth 100000 in
theorem ax_o30 (hl : l.stackTraces = false) {m : Nat} (hm : m < 4096) (hy : xs 1 = nI m) : ax_go40 l xs 30 := by
  unfold ax_go40
  have hn : (ax_mm 260).2.2.1 = 8 := by decide +kernel
  refine AR.s (.tableswitch 2268 0 40 #[180, 284, 340, 384, 435, 448, 504, 560, 573, 629, 685, 753, 808, 864, 932, 1000, 1068, 1124, 1192, 1272, 1328, 1403, 1459, 1515, 1559, 1615, 1659, 1672, 1685, 1741, 1754, 1810, 1823, 1886, 1954, 1998, 2042, 2110, 2166, 2210, 2254], (0, 0, 0), .null, []) hn (by decide +kernel) rfl ?_
  refine AR.s (.aload_n 1, (0, 0, 0), .null, []) hn (by decide +kernel) rfl ?_
  refine AR.s (.aload_n 0, (0, 0, 0), .null, []) hn (by decide +kernel) rfl ?_
  refine AR.s (.iload 4, (0, 0, 0), .null, []) hn (by decide +kernel) rfl ?_
  refine AR.s (.iconst 1, (0, 0, 0), .null, []) hn (by decide +kernel) rfl ?_
  refine AR.s (.iadd, (0, 0, 0), .null, []) hn (by decide +kernel) rfl ?_
  refine AR.iaload (vs := (List.range 6).map (fun j => .int (xs j))) (x := .int (xs 1)) (ax_look_ok (i := 260) (pc := 1800) (e := (.iaload, (0, 0, 0), .null, [])) (by decide +kernel)).1 rfl (by decide) rfl ?_
  rw [hy]
  refine AR.s (.aload_n 3, (0, 0, 0), .null, []) hn (by decide +kernel) rfl ?_
  refine AR.call (ins := .invokestatic 239) (a := 244) (b := 3) (c := 0) (v := .null) (ws := [6066]) (by decide +kernel) (ax_argS (by decide +kernel) (by decide +kernel) (by show 3 ≤ 3; decide) (Nat.le_of_ble_eq_true rfl)) (ax_nextL (r := ax_r 6 xs) hl rfl hm) (by decide) (by decide) (by decide) (fun v h' hq => ?_) (fun E h' hq => ?_)
  rotate_left
  · obtain ⟨q1, -⟩ := hq
    cases q1
  obtain ⟨q1, q2⟩ := hq
  cases q1
  have q2 : h' = ax_mx (ax_nx (m + 1)).toInt64 := q2
  subst q2
  refine AR.s (.istore 5, (0, 0, 0), .null, []) hn (by decide +kernel) rfl ?_
  refine AR.s (.aload_n 2, (0, 0, 0), .null, []) hn (by decide +kernel) rfl ?_
  refine AR.s (.aload_n 0, (0, 0, 0), .null, []) hn (by decide +kernel) rfl ?_
  refine AR.s (.iload 4, (0, 0, 0), .null, []) hn (by decide +kernel) rfl ?_
  refine AR.s (.iconst 1, (0, 0, 0), .null, []) hn (by decide +kernel) rfl ?_
  refine AR.s (.iadd, (0, 0, 0), .null, []) hn (by decide +kernel) rfl ?_
  refine AR.iaload (vs := (List.range 6).map (fun j => .int (xs j))) (x := .int (xs 1)) (ax_look_ok (i := 260) (pc := 1813) (e := (.iaload, (0, 0, 0), .null, [])) (by decide +kernel)).1 rfl (by decide) rfl ?_
  rw [hy]
  refine AR.call (ins := .invokevirtual 241) (a := 205) (b := 1) (c := 9) (v := .null) (ws := [8084, 8086]) (by decide +kernel) (ax_argV (q := 181) (rest := []) rfl rfl (by decide +kernel) (by decide +kernel) (by decide +kernel) (by show 1 ≤ 2; decide) (Nat.le_of_ble_eq_true rfl)) (ax_nextR hl hm _) (by decide) (by decide) (by decide) (fun v h' hq => ?_) (fun E h' hq => ?_)
  rotate_left
  · obtain ⟨q1, -⟩ := hq
    cases q1
  obtain ⟨q1, q2⟩ := hq
  cases q1
  have q2 : h' = ax_mx (ax_nx (m + 1)).toInt64 := q2
  subst q2
  refine AR.s (.istore 6, (0, 0, 0), .null, []) hn (by decide +kernel) rfl ?_
  refine AR.s (.aload_n 2, (0, 0, 0), .null, []) hn (by decide +kernel) rfl ?_
  refine AR.call (ins := .invokevirtual 140) (a := 131) (b := 0) (c := 9) (v := .null) (ws := [7034, 7036]) (by decide +kernel) (ax_argV (q := 181) (rest := []) rfl rfl (by decide +kernel) (by decide +kernel) (by decide +kernel) (by show 0 ≤ 1; decide) (Nat.le_of_ble_eq_true rfl)) (ax_thrownX (d := 4) hl _) (by decide) (by decide) (by decide) (fun v h' hq => ?_) (fun E h' hq => ?_)
  rotate_left
  · obtain ⟨q1, -⟩ := hq
    cases q1
  obtain ⟨q1, q2⟩ := hq
  cases q1
  have q2 : h' = ax_mx (ax_nx (m + 1)).toInt64 := q2
  subst q2
  refine AR.s (.iload 5, (0, 0, 0), .null, []) hn (by decide +kernel) rfl ?_
  refine AR.s (.if_icmp .eq 5, (0, 0, 0), .null, []) hn (by decide +kernel) rfl ?_
  refine AR.s (.iload 5, (0, 0, 0), .null, []) hn (by decide +kernel) rfl ?_
  refine AR.s (.ifCond .ne 15, (0, 0, 0), .null, []) hn (by decide +kernel) rfl ?_
  refine AR.s (.aload_n 3, (0, 0, 0), .null, []) hn (by decide +kernel) rfl ?_
  refine AR.s (.iconst 0, (0, 0, 0), .null, []) hn (by decide +kernel) rfl ?_
  refine AR.s (.laload, (0, 0, 0), .null, []) hn (by decide +kernel) rfl ?_
  refine AR.s (.iload 6, (0, 0, 0), .null, []) hn (by decide +kernel) rfl ?_
  refine AR.s (.i2l, (0, 0, 0), .null, []) hn (by decide +kernel) rfl ?_
  refine AR.s (.lcmp, (0, 0, 0), .null, []) hn (by decide +kernel) rfl ?_
  try dsimp only
  rw [ax_lg0x]
  refine AR.s (.ifCond .eq 5, (0, 0, 0), .null, []) hn (by decide +kernel) rfl ?_
  refine AR.lessH (h' := ax_mid.set 197 (99, [])) (ax_leh_set ax_mid 197) ?_
  refine AR.lessL (lv' := [(4, .int 0), (3, .ref 197), (2, .ref 181), (1, .ref 0), (0, .ref 1000000001)]) (fun q hq => ?_) (ax_endC hl (by decide +kernel))
  simp only [List.mem_cons, List.not_mem_nil, or_false] at hq
  rcases hq with h | h | h | h | h <;> (subst h; refine ⟨_, ?_, ax_le_self _⟩; simp)
set_option maxRecDepth 100000 in
theorem ax_op30 (hl : l.stackTraces = false) : ax_go40 l xs 30 := by
  obtain ⟨h0l, h0u, h1l, h1u, h2l, h2u, h3l, h3u, h4l, h4u⟩ := ax_bnd xs
  rcases (by omega : ((-2147483648) ≤ (xs 1).toInt ∧ (xs 1).toInt ≤ (-1)) ∨ (0 ≤ (xs 1).toInt ∧ (xs 1).toInt ≤ 2147483647)) with ⟨h0l, h0u⟩ | ⟨h0l, h0u⟩
  · exact ax_fin hl (as := [.float 0, .float 1, .float 0, .float 0, .float 0, .float 0]) (by decide +kernel) rfl (ax_hv6 (ax_any _) (ax_inv (q := ((-2147483648), (-1))) rfl h0l h0u) (ax_inv (q := ((-2147483648), 2147483647)) rfl h1l h1u) (ax_inv (q := ((-2147483648), 2147483647)) rfl h2l h2u) (ax_inv (q := ((-2147483648), 2147483647)) rfl h3l h3u) (ax_inv (q := ((-2147483648), 2147483647)) rfl h4l h4u))
  · rcases (by omega : (0 ≤ (xs 1).toInt ∧ (xs 1).toInt ≤ 4095) ∨ (4096 ≤ (xs 1).toInt ∧ (xs 1).toInt ≤ 2147483647)) with ⟨h0l, h0u⟩ | ⟨h0l, h0u⟩
    · obtain ⟨k, hk, ek⟩ := ax_small 4096 h0l (by omega)
      exact ax_o30 hl hk ek
    · exact ax_fin hl (as := [.float 0, .float 5, .float 0, .float 0, .float 0, .float 0]) (by decide +kernel) rfl (ax_hv6 (ax_any _) (ax_inv (q := (4096, 2147483647)) rfl h0l h0u) (ax_inv (q := ((-2147483648), 2147483647)) rfl h1l h1u) (ax_inv (q := ((-2147483648), 2147483647)) rfl h2l h2u) (ax_inv (q := ((-2147483648), 2147483647)) rfl h3l h3u) (ax_inv (q := ((-2147483648), 2147483647)) rfl h4l h4u))
end AXB
