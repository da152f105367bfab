/-! ModelSet.matching, where all masks are models -/
section AXB
variable {l : Launch} {d : Nat} {r : ax_H} {X : ax_PX}
abbrev ax_QM (W Y N : Nat) : ax_Q := fun res h => ∃ f : Int64, res = .inl (some (.long f)) ∧ h = ax_mid ∧ (W = Y / 64 → Y &&& N = 0 → f ≠ 0) ∧ (Y = 0 → N = 0 → f = -1)
def ax_ib (W Y N : Nat) (f : Int64) : Prop := (W = Y / 64 → Y &&& N = 0 → f.toBitVec.getLsbD (Y % 64) = true) ∧ (Y = 0 → N = 0 → f = -1)
theorem ax_ib_and {W Y N : Nat} {f g : Int64} (h : ax_ib W Y N f) (hg : W = Y / 64 → Y &&& N = 0 → g.toBitVec.getLsbD (Y % 64) = true) (h0 : Y = 0 → N = 0 → False) : ax_ib W Y N (f &&& g) := by
  refine ⟨fun h1 h2 => ?_, fun h1 h2 => (h0 h1 h2).elim⟩
  rw [Int64.toBitVec_and, BitVec.getLsbD_and, h.1 h1 h2, hg h1 h2]
  rfl
theorem ax_ib_ne {W Y N : Nat} {f : Int64} (h : ax_ib W Y N f) : W = Y / 64 → Y &&& N = 0 → f ≠ 0 := by
  intro h1 h2 e
  have h3 := h.1 h1 h2
  subst e
  simp at h3
theorem ax_mloop (hr0 : r[0]? = some (101, ax_bits)) {W Y N : Nat} (hY : Y < 4096) (hN : N < 4096) : ∀ (t v : Nat) (f : Int64), v + t = 6 → ax_ib W Y N f →
    AR ax_ns l (ax_mm 47) d r (ax_ret ax_ns (ax_mm 47) (ax_QM W Y N)) X 35 [(6, .int (nI v)), (4, .long f), (0, .ref 147), (1, .int (nI W)), (2, .int (nI Y)), (3, .int (nI N))] [] ax_mid 0 0 := by
  have hn : (ax_mm 47).2.2.1 = 7 := by decide +kernel
  have ht : (ax_mm 47).2.2.2.1 = some .long := by decide +kernel
  intro t
  induction t with
  | zero =>
    intro v f hv hf
    obtain rfl : v = 6 := by omega
    refine AR.s (.iload 6, (0, 0, 0), .null, []) hn (by decide +kernel) rfl ?_
    refine AR.s (.bipush 6, (0, 0, 0), .null, []) hn (by decide +kernel) rfl ?_
    refine AR.icmp_ge (off := 55) (tgt := 94) (ax_look_ok (i := 47) (pc := 39) (e := (.if_icmp .ge 55, (0, 0, 0), .null, [])) (by decide +kernel)).1 (by decide) (fun _ => ?_) (fun hn => absurd (by decide) hn)
    refine AR.s (.lload 4, (0, 0, 0), .null, []) hn (by decide +kernel) rfl ?_
    exact ax_retL (ei := ((0, 0, 0), .null, [])) (by decide +kernel) ht rfl ⟨f, rfl, rfl, ax_ib_ne hf, hf.2⟩
  | succ t ih =>
    intro v f hv hf
    have hv6 : v < 6 := by omega
    have key : ∀ g : Int64, ax_ib W Y N g → AR ax_ns l (ax_mm 47) d r (ax_ret ax_ns (ax_mm 47) (ax_QM W Y N)) X 88 [(6, .int (nI v)), (4, .long g), (0, .ref 147), (1, .int (nI W)), (2, .int (nI Y)), (3, .int (nI N))] [] ax_mid 0 0 := by
      intro g hg
      refine AR.iinc (x := .int (nI v)) (ax_look_ok (i := 47) (pc := 88) (e := (.iinc 6 1, (0, 0, 0), .null, [])) (by decide +kernel)).1 (by rw [hn]; decide) rfl rfl ?_
      refine AR.goto (tgt := 35) (ax_look_ok (i := 47) (pc := 91) (e := (.goto (-56), (0, 0, 0), .null, [])) (by decide +kernel)).1 (by decide) ?_
      have e9 : nI v + Int32.ofInt 1 = nI (v + 1) := by rw [show Int32.ofInt 1 = 1 from by decide, ← nI_succ]
      refine AR.sub (lv' := [(6, .int (nI (v + 1))), (4, .long g), (0, .ref 147), (1, .int (nI W)), (2, .int (nI Y)), (3, .int (nI N))]) ?_ (ih (v + 1) g (by omega) hg)
      intro q hq
      simp only [List.mem_cons, List.not_mem_nil, or_false] at hq
      rcases hq with h | h | h | h | h | h <;> subst h <;> (first | (simp [ax_s1, ax_k1, nI_succ, Value.category]; done) | (simp [ax_s1, ax_k1, nI_succ, Value.category]; rfl))
    have key2 : ∀ g : Int64, ax_ib W Y N g → AR ax_ns l (ax_mm 47) d r (ax_ret ax_ns (ax_mm 47) (ax_QM W Y N)) X 63 [(6, .int (nI v)), (4, .long g), (0, .ref 147), (1, .int (nI W)), (2, .int (nI Y)), (3, .int (nI N))] [] ax_mid 0 0 := by
      intro g hg
      refine AR.s (.iload_n 3, (0, 0, 0), .null, []) hn (by decide +kernel) rfl ?_
      refine AR.s (.iload 6, (0, 0, 0), .null, []) hn (by decide +kernel) rfl ?_
      refine AR.s (.ishr, (0, 0, 0), .null, []) hn (by decide +kernel) rfl ?_
      refine AR.s (.iconst 1, (0, 0, 0), .null, []) hn (by decide +kernel) rfl ?_
      refine AR.s (.iand, (0, 0, 0), .null, []) hn (by decide +kernel) rfl ?_
      refine AR.s (.iconst 1, (0, 0, 0), .null, []) hn (by decide +kernel) rfl ?_
      refine AR.icmp_ne (off := 18) (tgt := 88) (ax_look_ok (i := 47) (pc := 70) (e := (.if_icmp .ne 18, (0, 0, 0), .null, [])) (by decide +kernel)).1 (by decide) (fun _ => key g hg) (fun heq => ?_)
      have hb : N.testBit v = true := (ax_bit hN (by omega)).mp heq
      refine AR.s (.lload 4, (0, 0, 0), .null, []) hn (by decide +kernel) rfl ?_
      refine AR.s (.getstatic 53, (0, 0, 0), .null, [2090]) hn (by decide +kernel) rfl ?_
      refine AR.s (.iload 6, (0, 0, 0), .null, []) hn (by decide +kernel) rfl ?_
      refine AR.laload (x := .long (ax_bw v)) (ax_look_ok (i := 47) (pc := 80) (e := (.laload, (0, 0, 0), .null, [])) (by decide +kernel)).1 (by rw [ax_get_r]; exact hr0) (nI_pos (by omega)) (by rw [nI_clamp (by omega)]; exact ax_bw_at hv6) ?_
      refine AR.s (.ldc2_w 13, (0, 0, 0), .long (-1), [1220]) hn (by decide +kernel) rfl ?_
      refine AR.s (.lxor, (0, 0, 0), .null, []) hn (by decide +kernel) rfl ?_
      refine AR.s (.land, (0, 0, 0), .null, []) hn (by decide +kernel) rfl ?_
      refine AR.s (.lstore 4, (0, 0, 0), .null, []) hn (by decide +kernel) rfl ?_
      refine AR.sub (lv' := [(6, .int (nI v)), (4, .long (g &&& (ax_bw v ^^^ -1))), (0, .ref 147), (1, .int (nI W)), (2, .int (nI Y)), (3, .int (nI N))]) (by intro q hq; simp only [List.mem_cons, List.not_mem_nil, or_false] at hq ⊢; rcases hq with h | h | h | h | h | h <;> (first | (simp [h, nI_0]; done) | (simp [h, nI_0]; rfl))) (key _ (ax_ib_and hg (fun h1 h2 => ?_) (fun _ h2 => by rw [h2, Nat.zero_testBit] at hb; cases hb)))
      rw [Int64.toBitVec_xor, BitVec.getLsbD_xor, ax_bw_bit hv6 (Nat.mod_lt _ (by decide)), ax_mod6 hv6]
      have hy : Y.testBit v = false := by
        cases h5 : Y.testBit v with
        | false => rfl
        | true => rw [ax_dj h2 h5] at hb; cases hb
      rw [hy]
      have : ∀ p, p < 64 → (-1 : Int64).toBitVec.getLsbD p = true := by decide +kernel
      rw [this _ (Nat.mod_lt _ (by decide))]
      rfl
    refine AR.s (.iload 6, (0, 0, 0), .null, []) hn (by decide +kernel) rfl ?_
    refine AR.s (.bipush 6, (0, 0, 0), .null, []) hn (by decide +kernel) rfl ?_
    refine AR.icmp_ge (off := 55) (tgt := 94) (ax_look_ok (i := 47) (pc := 39) (e := (.if_icmp .ge 55, (0, 0, 0), .null, [])) (by decide +kernel)).1 (by decide) (fun hge => ?_) (fun _ => ?_)
    · exfalso
      have : (Int8.ofInt 6).toInt32 = nI 6 := by decide
      rw [this, nI_leI (by omega) (by omega)] at hge
      omega
    refine AR.s (.iload_n 2, (0, 0, 0), .null, []) hn (by decide +kernel) rfl ?_
    refine AR.s (.iload 6, (0, 0, 0), .null, []) hn (by decide +kernel) rfl ?_
    refine AR.s (.ishr, (0, 0, 0), .null, []) hn (by decide +kernel) rfl ?_
    refine AR.s (.iconst 1, (0, 0, 0), .null, []) hn (by decide +kernel) rfl ?_
    refine AR.s (.iand, (0, 0, 0), .null, []) hn (by decide +kernel) rfl ?_
    refine AR.s (.iconst 1, (0, 0, 0), .null, []) hn (by decide +kernel) rfl ?_
    refine AR.icmp_ne (off := 14) (tgt := 63) (ax_look_ok (i := 47) (pc := 49) (e := (.if_icmp .ne 14, (0, 0, 0), .null, [])) (by decide +kernel)).1 (by decide) (fun _ => key2 f hf) (fun heq => ?_)
    have hb : Y.testBit v = true := (ax_bit hY (by omega)).mp heq
    refine AR.s (.lload 4, (0, 0, 0), .null, []) hn (by decide +kernel) rfl ?_
    refine AR.s (.getstatic 53, (0, 0, 0), .null, [2090]) hn (by decide +kernel) rfl ?_
    refine AR.s (.iload 6, (0, 0, 0), .null, []) hn (by decide +kernel) rfl ?_
    refine AR.laload (x := .long (ax_bw v)) (ax_look_ok (i := 47) (pc := 59) (e := (.laload, (0, 0, 0), .null, [])) (by decide +kernel)).1 (by rw [ax_get_r]; exact hr0) (nI_pos (by omega)) (by rw [nI_clamp (by omega)]; exact ax_bw_at hv6) ?_
    refine AR.s (.land, (0, 0, 0), .null, []) hn (by decide +kernel) rfl ?_
    refine AR.s (.lstore 4, (0, 0, 0), .null, []) hn (by decide +kernel) rfl ?_
    refine AR.sub (lv' := [(6, .int (nI v)), (4, .long (f &&& ax_bw v)), (0, .ref 147), (1, .int (nI W)), (2, .int (nI Y)), (3, .int (nI N))]) (by intro q hq; simp only [List.mem_cons, List.not_mem_nil, or_false] at hq ⊢; rcases hq with h | h | h | h | h | h <;> (first | (simp [h, nI_0]; done) | (simp [h, nI_0]; rfl))) (key2 _ (ax_ib_and hf (fun h1 h2 => ?_) (fun h1 _ => by rw [h1, Nat.zero_testBit] at hb; cases hb)))
    rw [ax_bw_bit hv6 (Nat.mod_lt _ (by decide)), ax_mod6 hv6]
    exact hb

theorem ax_matching (hl : l.stackTraces = false) (hr0 : r[0]? = some (101, ax_bits)) {W Y N : Nat} (hW : W < 64) (hY : Y < 4096) (hN : N < 4096) : AM ax_ns l (ax_mm 47) d r 0 0 [.ref 147, .int (nI W), .int (nI Y), .int (nI N)] ax_mid (ax_QM W Y N) := by
  have hn : (ax_mm 47).2.2.1 = 7 := by decide +kernel
  have ht : (ax_mm 47).2.2.2.1 = some .long := by decide +kernel
  refine ax_of (as := [.ref 147, .int (nI W), .int (nI Y), .int (nI N)]) (lv0 := [(0, .ref 147), (1, .int (nI W)), (2, .int (nI Y)), (3, .int (nI N))]) rfl hl (by decide +kernel) hn (by show 4 ≤ 7; decide) ?_
  have no : ∀ {lv}, (W = Y / 64 → Y &&& N = 0 → False) → (Y = 0 → N = 0 → False) → AR ax_ns l (ax_mm 47) d r (ax_ret ax_ns (ax_mm 47) (ax_QM W Y N)) (fun _ _ E h _ _ => (ax_mm 47).2.2.2.2 = [] ∧ ax_QM W Y N (.inr E) h) 22 lv [] ax_mid 0 0 := by
    intro lv hne hne2
    refine AR.s (.lconst 0, (0, 0, 0), .null, []) hn (by decide +kernel) rfl ?_
    exact ax_retL (ei := ((0, 0, 0), .null, [])) (by decide +kernel) ht rfl ⟨_, rfl, rfl, fun h1 h2 => (hne h1 h2).elim, fun h1 h2 => (hne2 h1 h2).elim⟩
  refine AR.s (.iload_n 1, (0, 0, 0), .null, []) hn (by decide +kernel) rfl ?_
  refine AR.s (.iload_n 2, (0, 0, 0), .null, []) hn (by decide +kernel) rfl ?_
  refine AR.s (.bipush 6, (0, 0, 0), .null, []) hn (by decide +kernel) rfl ?_
  refine AR.s (.ishr, (0, 0, 0), .null, []) hn (by decide +kernel) rfl ?_
  refine AR.s (.iand, (0, 0, 0), .null, []) hn (by decide +kernel) rfl ?_
  refine AR.s (.iload_n 2, (0, 0, 0), .null, []) hn (by decide +kernel) rfl ?_
  refine AR.s (.bipush 6, (0, 0, 0), .null, []) hn (by decide +kernel) rfl ?_
  refine AR.s (.ishr, (0, 0, 0), .null, []) hn (by decide +kernel) rfl ?_
  try dsimp only
  rw [ax_sh6 hY]
  refine AR.icmp_ne (off := 12) (tgt := 22) (ax_look_ok (i := 47) (pc := 10) (e := (.if_icmp .ne 12, (0, 0, 0), .null, [])) (by decide +kernel)).1 (by decide) (fun hne => no (fun h1 _ => hne ?_) (fun h1 _ => hne ?_)) (fun heq => ?_)
  · rw [h1, ax_nIand (by omega) (by omega), Nat.and_self]
  · rw [h1, ax_nIand (by omega) (by omega), Nat.zero_div, Nat.and_zero]
  refine AR.s (.iload_n 1, (0, 0, 0), .null, []) hn (by decide +kernel) rfl ?_
  refine AR.s (.iload_n 3, (0, 0, 0), .null, []) hn (by decide +kernel) rfl ?_
  refine AR.s (.bipush 6, (0, 0, 0), .null, []) hn (by decide +kernel) rfl ?_
  refine AR.s (.ishr, (0, 0, 0), .null, []) hn (by decide +kernel) rfl ?_
  refine AR.s (.iand, (0, 0, 0), .null, []) hn (by decide +kernel) rfl ?_
  try dsimp only
  rw [ax_sh6 hN]
  refine AR.if_eq (off := 5) (tgt := 24) (ax_look_ok (i := 47) (pc := 19) (e := (.ifCond .eq 5, (0, 0, 0), .null, [])) (by decide +kernel)).1 (by decide) (fun _ => ?_) (fun hne => no (fun h1 h2 => hne ?_) (fun _ h2 => hne ?_))
  rotate_left
  · rw [h1, ax_nIand (by omega) (by omega), ax_dj6 h2]
    rfl
  · rw [h2, ax_nIand (by omega) (by omega), Nat.zero_div, Nat.and_zero]
    rfl
  refine AR.s (.aload_n 0, (0, 0, 0), .null, []) hn (by decide +kernel) rfl ?_
  refine AR.s (.getfield 9, (5, 0, 0), .null, [1224]) hn (by decide +kernel) rfl ?_
  refine AR.s (.iload_n 1, (0, 0, 0), .null, []) hn (by decide +kernel) rfl ?_
  refine AR.laload (x := .long (-1)) (vs := List.replicate 64 (.long (-1))) (ax_look_ok (i := 47) (pc := 29) (e := (.laload, (0, 0, 0), .null, [])) (by decide +kernel)).1 rfl (nI_pos (by omega)) (by rw [nI_clamp (by omega), List.getElem?_replicate, if_pos hW]) ?_
  refine AR.s (.lstore 4, (0, 0, 0), .null, []) hn (by decide +kernel) rfl ?_
  refine AR.s (.iconst 0, (0, 0, 0), .null, []) hn (by decide +kernel) rfl ?_
  refine AR.s (.istore 6, (0, 0, 0), .null, []) hn (by decide +kernel) rfl ?_
  refine AR.sub (lv' := [(6, .int (nI 0)), (4, .long (-1)), (0, .ref 147), (1, .int (nI W)), (2, .int (nI Y)), (3, .int (nI N))]) (by intro q hq; simp only [List.mem_cons, List.not_mem_nil, or_false] at hq ⊢; rcases hq with h | h | h | h | h | h <;> (first | (simp [h, nI_0]; done) | (simp [h, nI_0]; rfl))) (ax_mloop hr0 hY hN 6 0 _ rfl ⟨fun _ _ => ?_, fun _ _ => rfl⟩)
  have : ∀ p, p < 64 → (-1 : Int64).toBitVec.getLsbD p = true := by decide +kernel
  exact this _ (Nat.mod_lt _ (by decide))
end AXB
