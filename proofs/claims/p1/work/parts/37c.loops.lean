/-! LOOPS over all masks, on a fresh object -/
section AXB
variable {l : Launch} {d : Nat} {r : ax_H} {P : ax_P} {X : ax_PX} {i pc : Nat} {lv : List (Nat × Value)} {st as : List Value} {h : ax_H} {bc bs mc ms : Nat} {Q : ax_Q}
theorem ax_md9 {k : Nat} (h : k < 4096) : ax_md 1009 (nI k) := by
  have e : ax_rg 1009 = (0, 4095) := by decide
  unfold ax_md
  rw [e, nI_toInt (by omega)]
  exact ⟨by show (0 : Int) ≤ _; omega, by show _ ≤ (4095 : Int); omega⟩
theorem AM.lessH {a : Nat} {h' : ax_H} (hh : ax_leh h' h = true) (K : AM ax_ns l (ax_mm a) d r mc ms as h' Q) : AM ax_ns l (ax_mm a) d r mc ms as h Q := by
  intro D b o
  refine MetFree.mono (K D b o) (fun a U hp => ?_) (fun _ _ _ _ _ h9 => h9) (fun _ _ _ _ _ hq => hq)
  obtain ⟨ac, e1, e2, e3, e4⟩ := hp
  exact ⟨ac, e1, e2, ax_leh_ok hh e3, e4⟩
set_option maxRecDepth 100000 in
theorem ax_nnm : ax_nn ax_mid = true := by decide +kernel
set_option maxRecDepth 100000 in
theorem ax_b31 : ax_reach (ax_to [] (ax_cl [] ax_no 2000 4) 206 30 2000 9 [(2, .float 1009), (1, .float 1009), (0, .ref 181)] [] ax_mid 0 0) [(2, .float 1009), (1, .float 1009), (0, .ref 181)] [.int 1, .float 1009] ax_mid 0 0 = true := by decide +kernel
theorem ax_mcloop (hl : l.stackTraces = false) : ∀ (t k : Nat), k + t = 4096 → AR ax_ns l (ax_mm 206) 5 [] (ax_ret ax_ns (ax_mm 206) (ax_QR (.inl (some (.int (nI 4096)))) ax_mid)) X 9 [(2, .int (nI k)), (1, .int (nI k)), (0, .ref 181)] [] ax_mid 0 0 := by
  have hn : (ax_mm 206).2.2.1 = 3 := by decide +kernel
  have ht : (ax_mm 206).2.2.2.1 = some .int := by decide +kernel
  intro t
  induction t with
  | zero =>
    intro k hk
    obtain rfl : k = 4096 := by omega
    refine AR.s (.iload_n 2, (0, 0, 0), .null, []) hn (by decide +kernel) rfl ?_
    refine AR.s (.sipush 4096, (0, 0, 0), .null, []) hn (by decide +kernel) rfl ?_
    refine AR.icmp_ge (off := 25) (tgt := 38) (ax_look_ok (i := 206) (pc := 13) (e := (.if_icmp .ge 25, (0, 0, 0), .null, [])) (by decide +kernel)).1 (by decide) (fun _ => ?_) (fun hn => absurd (by decide) hn)
    refine AR.s (.iload_n 1, (0, 0, 0), .null, []) hn (by decide +kernel) rfl ?_
    exact ax_retI (ei := ((0, 0, 0), .null, [])) (by decide +kernel) ht (Or.inl rfl) rfl ⟨rfl, rfl⟩
  | succ t ih =>
    intro k hk
    have e0 : ax_sbl 1009 (nI k) [(2, .float 1009), (1, .float 1009), (0, .ref 181)] = [(2, .int (nI k)), (1, .int (nI k)), (0, .ref 181)] := by simp [ax_sbl, ax_sb]
    have h0 := ax_body (l := l) (P := ax_ret ax_ns (ax_mm 206) (ax_QR (.inl (some (.int (nI 4096)))) ax_mid)) (X := X) (dy := 4) (bc := 0) (bs := 0) (n := 1009) (by decide) (ax_md9 (k := k) (by omega)) (fun a as h res h' dc ds q => ax_cl_ok hl ax_no_ok 4 a as h res h' dc ds q) rfl ax_nnm ax_nnm ax_b31 ?_
    · rw [e0] at h0
      exact h0
    · rw [e0]
      have e1 : ax_sbs 1009 (nI k) [.int 1, .float 1009] = [.int 1, .int (nI k)] := by simp [ax_sbs, ax_sb]
      rw [e1]
      refine AR.s (.iadd, (0, 0, 0), .null, []) hn (by decide +kernel) rfl ?_
      refine AR.s (.istore_n 1, (0, 0, 0), .null, []) hn (by decide +kernel) rfl ?_
      refine AR.iinc (x := .int (nI k)) (ax_look_ok (i := 206) (pc := 32) (e := (.iinc 2 1, (0, 0, 0), .null, [])) (by decide +kernel)).1 (by rw [hn]; decide) rfl rfl ?_
      refine AR.goto (tgt := 9) (ax_look_ok (i := 206) (pc := 35) (e := (.goto (-26), (0, 0, 0), .null, [])) (by decide +kernel)).1 (by decide) ?_
      have e8 : nI k + 1 = nI (k + 1) := (nI_succ k).symm
      have e9 : nI k + Int32.ofInt 1 = nI (k + 1) := by rw [show Int32.ofInt 1 = 1 from by decide, ← nI_succ]
      refine AR.sub (lv' := [(2, .int (nI (k + 1))), (1, .int (nI (k + 1))), (0, .ref 181)]) ?_ (ih (k + 1) (by omega))
      intro q hq
      simp only [List.mem_cons, List.not_mem_nil, or_false] at hq
      rcases hq with h | h | h <;> subst h <;> (first | (simp [ax_s1, ax_k1, Value.category, nI_succ]; done) | (simp [ax_s1, ax_k1, Value.category, nI_succ]; rfl))
theorem ax_modelCount (hl : l.stackTraces = false) : AM ax_ns l (ax_mm 206) 5 r 0 0 [.ref 181] ax_mid (ax_QR (.inl (some (.int (nI 4096)))) ax_mid) := by
  have hn : (ax_mm 206).2.2.1 = 3 := by decide +kernel
  refine AM.any (ax_of (as := [.ref 181]) (lv0 := [(0, .ref 181)]) rfl hl (by decide +kernel) hn (by show 1 ≤ 3; decide) ?_)
  refine AR.s (.aload_n 0, (0, 0, 0), .null, []) hn (by decide +kernel) rfl ?_
  refine AR.s (.iconst 0, (0, 0, 0), .null, []) hn (by decide +kernel) rfl ?_
  refine AR.s (.putfield 61, (9, 0, 0), .null, [6176]) hn (by decide +kernel) rfl ?_
  refine AR.lessH (h' := ax_mid) (by decide +kernel) ?_
  refine AR.s (.iconst 0, (0, 0, 0), .null, []) hn (by decide +kernel) rfl ?_
  refine AR.s (.istore_n 1, (0, 0, 0), .null, []) hn (by decide +kernel) rfl ?_
  refine AR.s (.iconst 0, (0, 0, 0), .null, []) hn (by decide +kernel) rfl ?_
  refine AR.s (.istore_n 2, (0, 0, 0), .null, []) hn (by decide +kernel) rfl ?_
  exact AR.sub (lv' := [(2, .int (nI 0)), (1, .int (nI 0)), (0, .ref 181)]) (by intro q hq; simp only [List.mem_cons, List.not_mem_nil, or_false] at hq ⊢; rcases hq with h | h | h <;> (first | (simp [h, nI_0]; done) | (simp [h, nI_0]; rfl))) (ax_mcloop hl 4096 0 (by omega))
/-- the least mask that does not have the literal -/
def ax_m0 (L : Nat) : Nat := if L % 2 = 0 then 0 else 2 ^ (L / 2)
theorem ax_tvm {L : Nat} (h : L < 24) : ax_tv (nI (ax_m0 L)) (nI L) = Int32.ofInt 0 := by
  have : ∀ L, L < 24 → ax_tv (nI (ax_m0 L)) (nI L) = Int32.ofInt 0 := by decide +kernel
  exact this L h
theorem ax_tv01 (m L : Int32) : ax_tv m L = Int32.ofInt 0 ∨ ax_tv m L = Int32.ofInt 1 := by
  unfold ax_tv
  split
  · exact Or.inr rfl
  · exact Or.inl rfl
theorem ax_m0lt {L : Nat} (h : L < 24) : ax_m0 L < 4096 := by
  have : ∀ L, L < 24 → ax_m0 L < 4096 := by decide +kernel
  exact this L h
set_option maxRecDepth 100000 in
theorem ax_k201 : ax_rets (ax_cl [] ax_no 2000 4 201 [.ref 181, .float 9] ax_mid) (.int 1) ax_mid 0 0 = true := by decide +kernel
set_option maxRecDepth 100000 in
theorem ax_k135 : ax_rets (ax_cl [] ax_no 2000 4 135 [.float 11] ax_mid) (.int 1) ax_mid 0 0 = true := by decide +kernel
theorem ax_le9r {k : Nat} (h : k < 4096) : ax_les [.ref 181, .float 9] [.ref 181, .int (nI k)] = true := by
  have := ax_le9 h
  simp only [ax_les, Bool.and_true] at this
  simp only [ax_les, Bool.and_true, this]
  decide
theorem ax_le11 {L : Nat} (h : L < 24) : ax_les [.float 11] [.int (nI L)] = true := by
  have e : (nI L).toInt = (L : Int) := nI_toInt (by omega)
  have e1 : ax_rg 11 = (0, 23) := by decide
  have e2 : (11 : UInt32).toNat < 1000 := by decide
  simp only [ax_les, ax_le, e1, e, Bool.and_true, Bool.and_eq_true, decide_eq_true_eq]
  exact ⟨e2, by omega, by omega⟩
theorem ax_floop (hl : l.stackTraces = false) {L : Nat} (hL : L < 24) : ∀ (t m : Nat) (is : Int32), m + t = 4096 → (is = Int32.ofInt 0 ∨ is = Int32.ofInt 1 ∧ m ≤ ax_m0 L) → AR ax_ns l (ax_mm 207) 5 r (ax_ret ax_ns (ax_mm 207) (ax_QR (.inl (some (.int (Int32.ofInt 0)))) ax_mid)) X 30 [(3, .int (nI m)), (2, .int is), (0, .ref 181), (1, .int (nI L))] [] ax_mid 0 0 := by
  have hn : (ax_mm 207).2.2.1 = 4 := by decide +kernel
  have ht : (ax_mm 207).2.2.2.1 = some .boolean := by decide +kernel
  intro t
  induction t with
  | zero =>
    intro m is hm his
    obtain rfl : m = 4096 := by omega
    have h0 : is = Int32.ofInt 0 := by
      rcases his with h | ⟨-, h⟩
      · exact h
      · have := ax_m0lt hL
        omega
    subst h0
    refine AR.s (.iload_n 3, (0, 0, 0), .null, []) hn (by decide +kernel) rfl ?_
    refine AR.s (.sipush 4096, (0, 0, 0), .null, []) hn (by decide +kernel) rfl ?_
    refine AR.icmp_ge (off := 33) (tgt := 67) (ax_look_ok (i := 207) (pc := 34) (e := (.if_icmp .ge 33, (0, 0, 0), .null, [])) (by decide +kernel)).1 (by decide) (fun _ => ?_) (fun hn => absurd (by decide) hn)
    refine AR.s (.iload_n 2, (0, 0, 0), .null, []) hn (by decide +kernel) rfl ?_
    exact ax_retI (ei := ((0, 0, 0), .null, [])) (by decide +kernel) ht (Or.inr rfl) rfl ⟨rfl, rfl⟩
  | succ t ih =>
    intro m is hm his
    have key : ∀ x : Int32, (is &&& x = Int32.ofInt 0 ∨ is &&& x = Int32.ofInt 1 ∧ m + 1 ≤ ax_m0 L) → AR ax_ns l (ax_mm 207) 5 r (ax_ret ax_ns (ax_mm 207) (ax_QR (.inl (some (.int (Int32.ofInt 0)))) ax_mid)) X 59 [(3, .int (nI m)), (2, .int is), (0, .ref 181), (1, .int (nI L))] [.int x, .int is] ax_mid 0 0 := by
      intro x hx
      refine AR.s (.iand, (0, 0, 0), .null, []) hn (by decide +kernel) rfl ?_
      refine AR.s (.istore_n 2, (0, 0, 0), .null, []) hn (by decide +kernel) rfl ?_
      refine AR.iinc (x := .int (nI m)) (ax_look_ok (i := 207) (pc := 61) (e := (.iinc 3 1, (0, 0, 0), .null, [])) (by decide +kernel)).1 (by rw [hn]; decide) rfl rfl ?_
      refine AR.goto (tgt := 30) (ax_look_ok (i := 207) (pc := 64) (e := (.goto (-34), (0, 0, 0), .null, [])) (by decide +kernel)).1 (by decide) ?_
      have e9 : nI m + Int32.ofInt 1 = nI (m + 1) := by rw [show Int32.ofInt 1 = 1 from by decide, ← nI_succ]
      refine AR.sub (lv' := [(3, .int (nI (m + 1))), (2, .int (is &&& x)), (0, .ref 181), (1, .int (nI L))]) ?_ (ih (m + 1) (is &&& x) (by omega) hx)
      intro q hq
      simp only [List.mem_cons, List.not_mem_nil, or_false] at hq
      rcases hq with h | h | h | h <;> subst h <;> (first | (simp [ax_s1, ax_k1, Value.category, nI_succ]; done) | (simp [ax_s1, ax_k1, Value.category, nI_succ]; rfl))
    refine AR.s (.iload_n 3, (0, 0, 0), .null, []) hn (by decide +kernel) rfl ?_
    refine AR.s (.sipush 4096, (0, 0, 0), .null, []) hn (by decide +kernel) rfl ?_
    refine AR.icmp_ge (off := 33) (tgt := 67) (ax_look_ok (i := 207) (pc := 34) (e := (.if_icmp .ge 33, (0, 0, 0), .null, [])) (by decide +kernel)).1 (by decide) (fun hge => ?_) (fun _ => ?_)
    · exfalso
      have : (Int16.ofInt 4096).toInt32 = nI 4096 := by decide
      rw [this, nI_leI (by omega) (by omega)] at hge
      omega
    refine AR.s (.iload_n 2, (0, 0, 0), .null, []) hn (by decide +kernel) rfl ?_
    refine AR.s (.aload_n 0, (0, 0, 0), .null, []) hn (by decide +kernel) rfl ?_
    refine AR.s (.iload_n 3, (0, 0, 0), .null, []) hn (by decide +kernel) rfl ?_
    refine AR.callC hl (ins := .invokevirtual 256) (a := 201) (b := 1) (c := 9) (v := .null) (ws := [8080, 62]) (by decide +kernel) (ax_argV (q := 181) (rest := [.int is]) rfl rfl (by decide +kernel) (by decide +kernel) (by decide +kernel) (by show 1 ≤ 3; decide) (Nat.le_of_ble_eq_true rfl)) ax_k201 (ax_le9r (by omega)) (by decide) (Nat.zero_le _) (Nat.zero_le _) ?_
    refine AR.s (.ifCond .eq 11, (0, 0, 0), .null, []) hn (by decide +kernel) rfl ?_
    refine AR.s (.iload_n 3, (0, 0, 0), .null, []) hn (by decide +kernel) rfl ?_
    refine AR.s (.iload_n 1, (0, 0, 0), .null, []) hn (by decide +kernel) rfl ?_
    refine AR.call (ins := .invokestatic 169) (a := 199) (b := 2) (c := 0) (v := .null) (ws := [7145]) (by decide +kernel) (ax_argS (by decide +kernel) (by decide +kernel) (by show 2 ≤ 3; decide) (Nat.le_of_ble_eq_true rfl)) (ax_isTrue (d := 4) hl (nI m) (nI L)) (Nat.le_refl _) (Nat.zero_le _) (Nat.zero_le _) (fun v h' hq => ?_) (fun E h' hq => ?_)
    rotate_left
    · obtain ⟨q1, -⟩ := hq
      cases q1
    obtain ⟨q1, q2⟩ := hq
    cases q1
    subst q2
    refine AR.if_eq (off := 7) (tgt := 58) (ax_look_ok (i := 207) (pc := 51) (e := (.ifCond .eq 7, (0, 0, 0), .null, [])) (by decide +kernel)).1 (by decide) (fun h0 => ?_) (fun h0 => ?_)
    · refine AR.s (.iconst 0, (0, 0, 0), .null, []) hn (by decide +kernel) rfl ?_
      refine key _ (Or.inl ?_)
      rcases his with h | ⟨h, -⟩ <;> subst h <;> decide
    · refine AR.s (.iconst 1, (0, 0, 0), .null, []) hn (by decide +kernel) rfl ?_
      refine AR.s (.goto 4, (0, 0, 0), .null, []) hn (by decide +kernel) rfl ?_
      have h1 : m ≠ ax_m0 L := by
        rintro rfl
        exact h0 (by rw [ax_tvm hL]; decide)
      refine key _ ?_
      rcases his with h | ⟨h, h2⟩
      · subst h; exact Or.inl (by decide)
      · subst h; exact Or.inr ⟨by decide, by omega⟩
theorem ax_isForced (hl : l.stackTraces = false) {L : Nat} (hL : L < 24) : AM ax_ns l (ax_mm 207) 5 r 0 0 [.ref 181, .int (nI L)] ax_mid (ax_QR (.inl (some (.int (Int32.ofInt 0)))) ax_mid) := by
  have hn : (ax_mm 207).2.2.1 = 4 := by decide +kernel
  refine ax_of (as := [.ref 181, .int (nI L)]) (lv0 := [(0, .ref 181), (1, .int (nI L))]) rfl hl (by decide +kernel) hn (by show 2 ≤ 4; decide) ?_
  refine AR.s (.aload_n 0, (0, 0, 0), .null, []) hn (by decide +kernel) rfl ?_
  refine AR.s (.iconst 0, (0, 0, 0), .null, []) hn (by decide +kernel) rfl ?_
  refine AR.s (.putfield 61, (9, 0, 0), .null, [6176]) hn (by decide +kernel) rfl ?_
  refine AR.lessH (h' := ax_mid) (by decide +kernel) ?_
  refine AR.s (.iload_n 1, (0, 0, 0), .null, []) hn (by decide +kernel) rfl ?_
  refine AR.callC hl (ins := .invokestatic 201) (a := 135) (b := 1) (c := 0) (v := .null) (ws := [7197]) (by decide +kernel) (ax_argS (by decide +kernel) (by decide +kernel) (by show 1 ≤ 1; decide) (Nat.le_of_ble_eq_true rfl)) ax_k135 (ax_le11 hL) (by decide) (Nat.zero_le _) (Nat.zero_le _) ?_
  refine AR.s (.ifCond .ne 17, (0, 0, 0), .null, []) hn (by decide +kernel) rfl ?_
  refine AR.s (.iconst 1, (0, 0, 0), .null, []) hn (by decide +kernel) rfl ?_
  refine AR.s (.istore_n 2, (0, 0, 0), .null, []) hn (by decide +kernel) rfl ?_
  refine AR.s (.iconst 0, (0, 0, 0), .null, []) hn (by decide +kernel) rfl ?_
  refine AR.s (.istore_n 3, (0, 0, 0), .null, []) hn (by decide +kernel) rfl ?_
  exact AR.sub (lv' := [(3, .int (nI 0)), (2, .int (Int32.ofInt 1)), (0, .ref 181), (1, .int (nI L))]) (by intro q hq; simp only [List.mem_cons, List.not_mem_nil, or_false] at hq ⊢; rcases hq with h | h | h | h <;> (first | (simp [h, nI_0]; done) | (simp [h, nI_0]; rfl))) (ax_floop hl hL 4096 0 (Int32.ofInt 1) (by omega) (Or.inr ⟨rfl, Nat.zero_le _⟩))
end AXB
