/-! THE LAW, 4: push and pop -/
theorem hn_131 : (ax_mm 131).2.2.1 = 1 := by decide +kernel
theorem hr_131 : (ax_mm 131).2.2.2.1 = (some .int) := by decide +kernel
theorem hk_131_0 : ax_look 131 0 = some (.aload_n 0, (0, 0, 0), .null, []) := by decide +kernel
theorem hk_131_1 : ax_look 131 1 = some (.getfield 61, (9, 0, 0), .null, [6176]) := by decide +kernel
theorem hk_131_4 : ax_look 131 4 = some (.ireturn, (0, 0, 0), .null, []) := by decide +kernel
theorem hn_251 : (ax_mm 251).2.2.1 = 3 := by decide +kernel
theorem hr_251 : (ax_mm 251).2.2.2.1 = (some .int) := by decide +kernel
theorem hk_251_0 : ax_look 251 0 = some (.aload_n 1, (0, 0, 0), .null, []) := by decide +kernel
theorem hk_251_1 : ax_look 251 1 = some (.iconst 0, (0, 0, 0), .null, []) := by decide +kernel
theorem hk_251_2 : ax_look 251 2 = some (.aload_n 0, (0, 0, 0), .null, []) := by decide +kernel
theorem hk_251_3 : ax_look 251 3 = some (.invokevirtual 124, (108, 0, 8), .null, [6147, 6149]) := by decide +kernel
theorem hk_251_6 : ax_look 251 6 = some (.i2l, (0, 0, 0), .null, []) := by decide +kernel
theorem hk_251_7 : ax_look 251 7 = some (.lastore, (0, 0, 0), .null, []) := by decide +kernel
theorem hk_251_8 : ax_look 251 8 = some (.goto 6, (0, 0, 0), .null, []) := by decide +kernel
theorem hk_251_11 : ax_look 251 11 = some (.astore_n 2, (0, 0, 0), .null, []) := by decide +kernel
theorem hk_251_12 : ax_look 251 12 = some (.iconst 1, (0, 0, 0), .null, []) := by decide +kernel
theorem hk_251_13 : ax_look 251 13 = some (.ireturn, (0, 0, 0), .null, []) := by decide +kernel
theorem hk_251_14 : ax_look 251 14 = some (.iconst 0, (0, 0, 0), .null, []) := by decide +kernel
theorem hk_251_15 : ax_look 251 15 = some (.ireturn, (0, 0, 0), .null, []) := by decide +kernel
theorem hn_252 : (ax_mm 252).2.2.1 = 3 := by decide +kernel
theorem hr_252 : (ax_mm 252).2.2.2.1 = (some .int) := by decide +kernel
theorem hk_252_0 : ax_look 252 0 = some (.aload_n 1, (0, 0, 0), .null, []) := by decide +kernel
theorem hk_252_1 : ax_look 252 1 = some (.iconst 0, (0, 0, 0), .null, []) := by decide +kernel
theorem hk_252_2 : ax_look 252 2 = some (.aload_n 0, (0, 0, 0), .null, []) := by decide +kernel
theorem hk_252_3 : ax_look 252 3 = some (.invokevirtual 127, (109, 0, 8), .null, [6165, 6167]) := by decide +kernel
theorem hk_252_6 : ax_look 252 6 = some (.i2l, (0, 0, 0), .null, []) := by decide +kernel
theorem hk_252_7 : ax_look 252 7 = some (.lastore, (0, 0, 0), .null, []) := by decide +kernel
theorem hk_252_8 : ax_look 252 8 = some (.goto 6, (0, 0, 0), .null, []) := by decide +kernel
theorem hk_252_11 : ax_look 252 11 = some (.astore_n 2, (0, 0, 0), .null, []) := by decide +kernel
theorem hk_252_12 : ax_look 252 12 = some (.iconst 1, (0, 0, 0), .null, []) := by decide +kernel
theorem hk_252_13 : ax_look 252 13 = some (.ireturn, (0, 0, 0), .null, []) := by decide +kernel
theorem hk_252_14 : ax_look 252 14 = some (.iconst 0, (0, 0, 0), .null, []) := by decide +kernel
theorem hk_252_15 : ax_look 252 15 = some (.ireturn, (0, 0, 0), .null, []) := by decide +kernel
theorem hy_t197_0 : ty_tt 197 0 = (1, 0, 0, (-9223372036854775808), 9223372036854775807) := by decide +kernel
section LPP
variable {l : Launch} {h : ax_H}
def hq_pp (W : Nat) (h : ax_H) (z' : Int) : ax_Q := fun res g => ty_F W h g ∧ hy_I g ∧ hy_H 0 g ∧ ∃ z : Int32, res = .inl (some (.int z)) ∧ z.toInt = z' ∧ hy_z g 0 17 = z'
def hq_pt (W : Nat) (h : ax_H) (E : String) (a : Int) : ax_Q := fun res g => ty_F W h g ∧ hy_I g ∧ hy_H 0 g ∧ res = .inr E ∧ hy_z g 0 17 = a
theorem lp_gen {m dd W c s : Nat} {a z' : Int} (M : ty_M hy_I l (m, dd, W, c, s, [(2, 0, 0, 0, 0)], [(0, 18, (0, 0, 0, a, a))], [(.inl (some (0, 0, 0, z', z')), [(0, 18, (0, 0, 0, z', z'))])])) (ho : ty_ole [] [(0, 18, (0, 0, 0, z', z'))] = true) (hH : hy_H 0 h) (hi : hy_I h) (hl : hy_z h 0 17 = a) : AM ax_ns l (ax_mm m) dd ty_R c s [.ref 0] h (hq_pp W h z') := by
  obtain ⟨iv, e1, e2, e3⟩ := hy_int hH (q := 0) (j := 17) (a := 0) (z := 8) (by decide) rfl (by decide +kernel) (by decide +kernel)
  have e4 := hy_zi e1
  refine AM.mono ?_ (M 0 h [.ref 0] ⟨_, _, rfl, rfl, rfl⟩ (ty_H.put (t := (0, 0, 0, a, a)) hH (by decide) e1 ⟨iv, rfl, by omega, by omega, Or.inl rfl⟩) hi)
  rintro res g ⟨F, I, e, hm, rr, hHg⟩
  cases List.mem_singleton.mp hm
  match res, rr with
  | .inl (some x), rr =>
    obtain ⟨z, rfl, a1, a2, -⟩ := rr
    have r := hg_row (t := (0, 0, 0, z', z')) hHg (q := 0) (j := 17) (by decide) rfl (by decide +kernel) rfl rfl (Or.inl rfl)
    have r1 : z' ≤ hy_z g 0 17 := r.1
    have r2 : hy_z g 0 17 ≤ z' := r.2
    exact ⟨F, I, hHg.weak ho, z, rfl, by omega, by omega⟩
theorem lp_thr {m dd W c s : Nat} {a : Int} {E : String} (M : ty_M hy_I l (m, dd, W, c, s, [(2, 0, 0, 0, 0)], [(0, 18, (0, 0, 0, a, a))], [(.inr E, [(0, 18, (0, 0, 0, a, a))])])) (ho : ty_ole [] [(0, 18, (0, 0, 0, a, a))] = true) (hH : hy_H 0 h) (hi : hy_I h) (hl : hy_z h 0 17 = a) : AM ax_ns l (ax_mm m) dd ty_R c s [.ref 0] h (hq_pt W h E a) := by
  obtain ⟨iv, e1, e2, e3⟩ := hy_int hH (q := 0) (j := 17) (a := 0) (z := 8) (by decide) rfl (by decide +kernel) (by decide +kernel)
  have e4 := hy_zi e1
  refine AM.mono ?_ (M 0 h [.ref 0] ⟨_, _, rfl, rfl, rfl⟩ (ty_H.put (t := (0, 0, 0, a, a)) hH (by decide) e1 ⟨iv, rfl, by omega, by omega, Or.inl rfl⟩) hi)
  rintro res g ⟨F, I, e, hm, rr, hHg⟩
  cases List.mem_singleton.mp hm
  match res, rr with
  | .inr E', rr =>
    cases (show E' = E from rr)
    have r := hg_row (t := (0, 0, 0, a, a)) hHg (q := 0) (j := 17) (by decide) rfl (by decide +kernel) rfl rfl (Or.inl rfl)
    have r1 : a ≤ hy_z g 0 17 := r.1
    have r2 : hy_z g 0 17 ≤ a := r.2
    exact ⟨F, I, hHg.weak ho, rfl, by omega⟩
theorem lp_108 (G : ty_G hy_I l) (hH : hy_H 0 h) (hi : hy_I h) (hl : hy_z h 0 17 ≠ 8) : AM ax_ns l (ax_mm 108) 2 ty_R 0 0 [.ref 0] h (hq_pp 2874281724680994816 h (hy_z h 0 17 + (1))) := by
  obtain ⟨iv, e1, e2, e3⟩ := hy_int hH (q := 0) (j := 17) (a := 0) (z := 8) (by decide) rfl (by decide +kernel) (by decide +kernel)
  have e4 := hy_zi e1
  rcases (by omega : hy_z h 0 17 = 0 ∨ hy_z h 0 17 = 1 ∨ hy_z h 0 17 = 2 ∨ hy_z h 0 17 = 3 ∨ hy_z h 0 17 = 4 ∨ hy_z h 0 17 = 5 ∨ hy_z h 0 17 = 6 ∨ hy_z h 0 17 = 7) with e | e | e | e | e | e | e | e
  · rw [e]; exact lp_gen (tp_108_0_ok G) (by decide +kernel) hH hi e
  · rw [e]; exact lp_gen (tp_108_1_ok G) (by decide +kernel) hH hi e
  · rw [e]; exact lp_gen (tp_108_2_ok G) (by decide +kernel) hH hi e
  · rw [e]; exact lp_gen (tp_108_3_ok G) (by decide +kernel) hH hi e
  · rw [e]; exact lp_gen (tp_108_4_ok G) (by decide +kernel) hH hi e
  · rw [e]; exact lp_gen (tp_108_5_ok G) (by decide +kernel) hH hi e
  · rw [e]; exact lp_gen (tp_108_6_ok G) (by decide +kernel) hH hi e
  · rw [e]; exact lp_gen (tp_108_7_ok G) (by decide +kernel) hH hi e
theorem lp_109 (G : ty_G hy_I l) (hH : hy_H 0 h) (hi : hy_I h) (hl : hy_z h 0 17 ≠ 0) : AM ax_ns l (ax_mm 109) 5 ty_R 0 0 [.ref 0] h (hq_pp 575194115982098464 h (hy_z h 0 17 + (-1))) := by
  obtain ⟨iv, e1, e2, e3⟩ := hy_int hH (q := 0) (j := 17) (a := 0) (z := 8) (by decide) rfl (by decide +kernel) (by decide +kernel)
  have e4 := hy_zi e1
  rcases (by omega : hy_z h 0 17 = 1 ∨ hy_z h 0 17 = 2 ∨ hy_z h 0 17 = 3 ∨ hy_z h 0 17 = 4 ∨ hy_z h 0 17 = 5 ∨ hy_z h 0 17 = 6 ∨ hy_z h 0 17 = 7 ∨ hy_z h 0 17 = 8) with e | e | e | e | e | e | e | e
  · rw [e]; exact lp_gen (tp_109_1_ok G) (by decide +kernel) hH hi e
  · rw [e]; exact lp_gen (tp_109_2_ok G) (by decide +kernel) hH hi e
  · rw [e]; exact lp_gen (tp_109_3_ok G) (by decide +kernel) hH hi e
  · rw [e]; exact lp_gen (tp_109_4_ok G) (by decide +kernel) hH hi e
  · rw [e]; exact lp_gen (tp_109_5_ok G) (by decide +kernel) hH hi e
  · rw [e]; exact lp_gen (tp_109_6_ok G) (by decide +kernel) hH hi e
  · rw [e]; exact lp_gen (tp_109_7_ok G) (by decide +kernel) hH hi e
  · rw [e]; exact lp_gen (tp_109_8_ok G) (by decide +kernel) hH hi e
def hq_w (W : Nat) (h : ax_H) (b d : Int) : ax_Q := fun res g => ty_F W h g ∧ hy_I g ∧ hy_H 0 g ∧ ∃ z : Int32, res = .inl (some (.int z)) ∧ ((hy_z h 0 17 = b ∧ z.toInt = 1 ∧ hy_z g 0 17 = hy_z h 0 17) ∨ (hy_z h 0 17 ≠ b ∧ z.toInt = 0 ∧ hy_z g 0 17 = hy_z h 0 17 + d ∧ hy_z g 197 0 = hy_z g 0 17))
theorem lp_cell (hH : hy_H 0 h) : ∃ vs, h[0]? = some (8, vs) := by
  obtain ⟨vs, e1, -⟩ := hy_cell hH (q := 0) (by decide)
  rw [show (ty_tab 0).1 = 8 from by decide +kernel] at e1
  exact ⟨vs, e1⟩
theorem lp_197 {g : ax_H} {x : Int64} {W : Nat} (hi : hy_I h) (F : ty_F W h g) (h31 : W.testBit 31 = false) (E : ∀ q' j', ty_fd g q' j' = if q' = 197 ∧ j' = 0 then some (.long x) else ty_fd h q' j') : hy_I g := by
  refine hy_Ik h g (fun q j h1 h2 h3 => ?_) (F.2.2.2 h31) hi
  rw [E]
  rw [if_neg]
  rintro ⟨rfl, rfl⟩
  exact absurd h3 (by decide +kernel)
theorem lp_251 (hlst : l.stackTraces = false) (G : ty_G hy_I l) (hH : hy_H 0 h) (hi : hy_I h) : AM ax_ns l (ax_mm 251) 3 ty_R 1 6 [.ref 0, .ref 197] h (hq_w 1298074214633709781414348763299840 h 8 (1)) := by
  refine AM.of (ax_mfacts (by decide +kernel : ax_has 251 = true)).2.2.2.2.2.2 hlst (by rw [hn_251]; exact Nat.le_of_ble_eq_true rfl) ?_
  obtain ⟨v0, e0⟩ := lp_cell hH
  show AR ax_ns l (ax_mm 251) 3 ty_R _ _ 0 [(0, .ref 0), (1, .ref 197)] [] h _ _
  refine AR.s (pc' := 1) (lv' := [(0, .ref 0), (1, .ref 197)]) (st' := [.ref 197]) (h' := h) _ hn_251 hk_251_0 rfl ?_
  refine AR.iconstT hk_251_1 (by decide) (fun z139 ez139 => ?_)
  show AR _ _ _ _ _ _ _ 2 [(0, .ref 0), (1, .ref 197)] [.int z139, .ref 197] h _ _
  refine AR.s (pc' := 3) (lv' := [(0, .ref 0), (1, .ref 197)]) (st' := [.ref 0, .int z139, .ref 197]) (h' := h) _ hn_251 hk_251_2 rfl ?_
  by_cases hb : hy_z h 0 17 = 8
  · refine AR.jr (r := 0) (as := []) (rest := [.int z139, .ref 197]) hk_251_3 (by decide) (by decide +kernel) (by decide) e0 rfl rfl (Nat.le_of_ble_eq_true rfl) (lp_thr (tp_108_8_ok G) (by decide +kernel) hH hi hb) (by decide) (by decide) (by decide) (fun x h' q => by cases q.2.2.2.1) ?_
    rintro E h1 ⟨F1, i1, H1, eE, l1⟩
    cases eE
    refine AX.caught (pre := []) (suf := []) (s0 := 0) (e0 := 8) (hpc := 11) (ct := 13) (by decide +kernel) (by decide) (by decide) (by decide) (ax_wk_mem (ix := 2120) (by decide +kernel)) (by decide +kernel) (fun z hz => absurd hz List.not_mem_nil) ?_
    show AR _ _ _ _ _ _ _ 11 [(0, .ref 0), (1, .ref 197)] [.retAddr 0] h1 _ _
    refine AR.s (pc' := 12) (lv' := [(2, .retAddr 0), (0, .ref 0), (1, .ref 197)]) (st' := []) (h' := h1) _ hn_251 hk_251_11 rfl ?_
    refine AR.iconstT hk_251_12 (by decide) (fun z140 ez140 => ?_)
    show AR _ _ _ _ _ _ _ 13 [(2, .retAddr 0), (0, .ref 0), (1, .ref 197)] [.int z140] h1 _ _
    exact AR.iret hk_251_13 hr_251 ⟨ty_F.sub (by decide +kernel) F1, i1, H1, _, rfl, Or.inl ⟨hb, by omega, by omega⟩⟩
  · refine AR.jr (r := 0) (as := []) (rest := [.int z139, .ref 197]) hk_251_3 (by decide) (by decide +kernel) (by decide) e0 rfl rfl (Nat.le_of_ble_eq_true rfl) (lp_108 G hH hi hb) (by decide) (by decide) (by decide) ?_ (fun E h' q => by obtain ⟨-, -, -, z, e, -⟩ := q; cases e)
    rintro x h1 ⟨F1, i1, H1, z7, ex, l0, l1⟩
    cases ex
    show AR _ _ _ _ _ _ _ 6 [(0, .ref 0), (1, .ref 197)] [.int z7, .int z139, .ref 197] h1 _ _
    refine AR.i2l (z := .long z7.toInt64) (ax_look_ok hk_251_6).1 rfl ?_
    show AR _ _ _ _ _ _ _ 7 [(0, .ref 0), (1, .ref 197)] [.long z7.toInt64, .int z139, .ref 197] h1 _ _
    refine AR.lsT hk_251_7 H1 (ty_F.sub (W := 1298074214633709781414348763299840) (by decide +kernel) F1) (q := 197) (n := 1) (by decide) (by decide +kernel) (by decide +kernel) (by decide +kernel) hy_t197_0 (by omega) (by omega) (Int64.le_toInt _) (by have := Int64.toInt_lt z7.toInt64; omega) (by decide +kernel) ?_
    rintro g ⟨Hg, Fg, Gg, Eg⟩
    show AR _ _ _ _ _ _ _ 8 [(0, .ref 0), (1, .ref 197)] [] g _ _
    refine AR.gotoT hk_251_8 (tgt := 14) (by decide) ?_
    refine AR.iconstT hk_251_14 (by decide) (fun z141 ez141 => ?_)
    show AR _ _ _ _ _ _ _ 15 [(0, .ref 0), (1, .ref 197)] [.int z141] g _ _
    have k0 : z139.toNatClampNeg = 0 := by show z139.toInt.toNat = 0; omega
    rw [k0] at Eg
    have a1 : hy_z g 197 0 = z7.toInt := by rw [hy_zl (i := z7.toInt64) (by rw [Eg, if_pos ⟨rfl, rfl⟩]), Int32.toInt_toInt64]
    have a2 : hy_z g 0 17 = hy_z h1 0 17 := hy_ze (by rw [Eg, if_neg (fun c => absurd c.1 (by decide))])
    exact AR.iret hk_251_15 hr_251 ⟨Fg, lp_197 i1 Gg (by decide +kernel) Eg, Hg, _, rfl, Or.inr ⟨hb, by omega, by omega, by omega⟩⟩
theorem lp_252 (hlst : l.stackTraces = false) (G : ty_G hy_I l) (hH : hy_H 0 h) (hi : hy_I h) : AM ax_ns l (ax_mm 252) 6 ty_R 1 6 [.ref 0, .ref 197] h (hq_w 1298074214633707482326740064403488 h 0 (-1)) := by
  refine AM.of (ax_mfacts (by decide +kernel : ax_has 252 = true)).2.2.2.2.2.2 hlst (by rw [hn_252]; exact Nat.le_of_ble_eq_true rfl) ?_
  obtain ⟨v0, e0⟩ := lp_cell hH
  show AR ax_ns l (ax_mm 252) 6 ty_R _ _ 0 [(0, .ref 0), (1, .ref 197)] [] h _ _
  refine AR.s (pc' := 1) (lv' := [(0, .ref 0), (1, .ref 197)]) (st' := [.ref 197]) (h' := h) _ hn_252 hk_252_0 rfl ?_
  refine AR.iconstT hk_252_1 (by decide) (fun z142 ez142 => ?_)
  show AR _ _ _ _ _ _ _ 2 [(0, .ref 0), (1, .ref 197)] [.int z142, .ref 197] h _ _
  refine AR.s (pc' := 3) (lv' := [(0, .ref 0), (1, .ref 197)]) (st' := [.ref 0, .int z142, .ref 197]) (h' := h) _ hn_252 hk_252_2 rfl ?_
  by_cases hb : hy_z h 0 17 = 0
  · refine AR.jr (r := 0) (as := []) (rest := [.int z142, .ref 197]) hk_252_3 (by decide) (by decide +kernel) (by decide) e0 rfl rfl (Nat.le_of_ble_eq_true rfl) (lp_thr (tp_109_0_ok G) (by decide +kernel) hH hi hb) (by decide) (by decide) (by decide) (fun x h' q => by cases q.2.2.2.1) ?_
    rintro E h1 ⟨F1, i1, H1, eE, l1⟩
    cases eE
    refine AX.caught (pre := []) (suf := []) (s0 := 0) (e0 := 8) (hpc := 11) (ct := 13) (by decide +kernel) (by decide) (by decide) (by decide) (ax_wk_mem (ix := 2120) (by decide +kernel)) (by decide +kernel) (fun z hz => absurd hz List.not_mem_nil) ?_
    show AR _ _ _ _ _ _ _ 11 [(0, .ref 0), (1, .ref 197)] [.retAddr 0] h1 _ _
    refine AR.s (pc' := 12) (lv' := [(2, .retAddr 0), (0, .ref 0), (1, .ref 197)]) (st' := []) (h' := h1) _ hn_252 hk_252_11 rfl ?_
    refine AR.iconstT hk_252_12 (by decide) (fun z143 ez143 => ?_)
    show AR _ _ _ _ _ _ _ 13 [(2, .retAddr 0), (0, .ref 0), (1, .ref 197)] [.int z143] h1 _ _
    exact AR.iret hk_252_13 hr_252 ⟨ty_F.sub (by decide +kernel) F1, i1, H1, _, rfl, Or.inl ⟨hb, by omega, by omega⟩⟩
  · refine AR.jr (r := 0) (as := []) (rest := [.int z142, .ref 197]) hk_252_3 (by decide) (by decide +kernel) (by decide) e0 rfl rfl (Nat.le_of_ble_eq_true rfl) (lp_109 G hH hi hb) (by decide) (by decide) (by decide) ?_ (fun E h' q => by obtain ⟨-, -, -, z, e, -⟩ := q; cases e)
    rintro x h1 ⟨F1, i1, H1, z7, ex, l0, l1⟩
    cases ex
    show AR _ _ _ _ _ _ _ 6 [(0, .ref 0), (1, .ref 197)] [.int z7, .int z142, .ref 197] h1 _ _
    refine AR.i2l (z := .long z7.toInt64) (ax_look_ok hk_252_6).1 rfl ?_
    show AR _ _ _ _ _ _ _ 7 [(0, .ref 0), (1, .ref 197)] [.long z7.toInt64, .int z142, .ref 197] h1 _ _
    refine AR.lsT hk_252_7 H1 (ty_F.sub (W := 1298074214633707482326740064403488) (by decide +kernel) F1) (q := 197) (n := 1) (by decide) (by decide +kernel) (by decide +kernel) (by decide +kernel) hy_t197_0 (by omega) (by omega) (Int64.le_toInt _) (by have := Int64.toInt_lt z7.toInt64; omega) (by decide +kernel) ?_
    rintro g ⟨Hg, Fg, Gg, Eg⟩
    show AR _ _ _ _ _ _ _ 8 [(0, .ref 0), (1, .ref 197)] [] g _ _
    refine AR.gotoT hk_252_8 (tgt := 14) (by decide) ?_
    refine AR.iconstT hk_252_14 (by decide) (fun z144 ez144 => ?_)
    show AR _ _ _ _ _ _ _ 15 [(0, .ref 0), (1, .ref 197)] [.int z144] g _ _
    have k0 : z142.toNatClampNeg = 0 := by show z142.toInt.toNat = 0; omega
    rw [k0] at Eg
    have a1 : hy_z g 197 0 = z7.toInt := by rw [hy_zl (i := z7.toInt64) (by rw [Eg, if_pos ⟨rfl, rfl⟩]), Int32.toInt_toInt64]
    have a2 : hy_z g 0 17 = hy_z h1 0 17 := hy_ze (by rw [Eg, if_neg (fun c => absurd c.1 (by decide))])
    exact AR.iret hk_252_15 hr_252 ⟨Fg, lp_197 i1 Gg (by decide +kernel) Eg, Hg, _, rfl, Or.inr ⟨hb, by omega, by omega, by omega⟩⟩
end LPP
section LWQ
variable {l : Launch} {xs : Nat → Int32} {L d pc ix : Nat} {P : ax_P} {X : ax_PX} {lv : List (Nat × Value)} {st as rest : List Value} {h h' : ax_H} {bc bs bc' bs' : Nat} {v : Value} {ws : List Nat} {w : Nat × Nat × Nat} {i : Int32}
theorem lw_callA {a b c dy mc ms : Nat} {ins : Instr} {Q : ax_Q} (hl : ax_look 285 pc = some (ins, (a, b, c), v, ws)) (hg : ax_arg (ax_r L xs) ins a b c st h = some (as, rest)) (M : AM ax_ns l (ax_mm a) dy ty_R mc ms as h Q) (hdy : dy + 1 ≤ d) (hmc : bc' + mc ≤ bc) (hms : bs' + ms ≤ bs) (hno : ∀ E h', ¬ Q (.inr E) h')
    (k : ∀ x h', Q (.inl x) h' → AR ax_ns l (ax_mm 285) d (ax_r L xs) P X (pc + 3) lv (x.toList ++ rest) h' bc' bs') : AR ax_ns l (ax_mm 285) d (ax_r L xs) P X pc lv st h bc bs :=
  AR.call hl hg (AM.weak (fun s b o H q => ty_R_O q) M) hdy (by omega) (by omega) (fun x h' q => AR.lt (by omega) (by omega) (k x h' q)) (fun E h' q => absurd q (hno E h'))
/-- the error of the reference -/
theorem lw_131 (hlst : l.stackTraces = false) (hH : hy_H 0 h) : AM ax_ns l (ax_mm 131) 0 ty_R 0 0 [.ref 181] h (hq_int h (hy_z h 181 0)) := by
  refine AM.of (ax_mfacts (by decide +kernel : ax_has 131 = true)).2.2.2.2.2.2 hlst (by rw [hn_131]; exact Nat.le_of_ble_eq_true rfl) ?_
  show AR ax_ns l (ax_mm 131) 0 ty_R _ _ 0 [(0, .ref 181)] [] h 0 0
  refine AR.s (pc' := 1) (lv' := [(0, .ref 181)]) (st' := [.ref 181]) (h' := h) _ hn_131 hk_131_0 rfl ?_
  refine AR.gI hk_131_1 (by decide) hH (q := 181) (n := 32) (by decide) (by decide +kernel) (by decide +kernel) (by decide) hy_t181_0 (fun x145 dx145 lx145 ux145 => ?_)
  show AR _ _ _ _ _ _ _ 4 [(0, .ref 181)] [.int x145] h _ _
  exact AR.iret hk_131_4 hr_131 ⟨rfl, _, rfl, (hy_zi dx145).symm⟩
theorem lw_tag (hH : hy_H 0 h) : ∃ vs, h[181]? = some (9, vs) := by
  obtain ⟨vs, e1, -⟩ := hy_cell hH (q := 181) (by decide)
  rw [show (ty_tab 181).1 = 9 from by decide +kernel] at e1
  exact ⟨vs, e1⟩
theorem lw_op38 (hlst : l.stackTraces = false) (G : ty_G hy_I l) (I : lw_I h) (k : ∀ h', lw_I h' → AR ax_ns l (ax_mm 285) 13 (ax_r L xs) P X 1363 [(4, .int i), (3, .ref 197), (2, .ref 181), (1, .ref 0), (0, .ref 1000000001)] [] h' bc bs) : AR ax_ns l (ax_mm 285) 13 (ax_r L xs) P X 1290 [(4, .int i), (3, .ref 197), (2, .ref 181), (1, .ref 0), (0, .ref 1000000001)] [] h (bc + 1177) (bs + 14024) := by
  refine AR.aload_n (ax_look_ok hk_285_1290).1 (x := .ref 0) rfl rfl ?_
  refine AR.aload_n (ax_look_ok hk_285_1291).1 (x := .ref 197) rfl rfl ?_
  refine lw_callA (bc' := bc + 1000) (bs' := bs + 14000) (as := [.ref 0, .ref 197]) (rest := []) hk_285_1292 (lw_hs (by decide +kernel) rfl rfl (by decide)) (lp_251 hlst G I.1 I.2.1) (by decide) (by omega) (by omega) (fun E h' q => by obtain ⟨-, -, -, z, e, -⟩ := q; cases e) ?_
  rintro x1 h1 ⟨F1, i1, H1, z1, ex, A1⟩
  cases ex
  have r0 : hy_z h1 181 28 = hy_z h 181 28 := hy_zF F1 28 (by decide) (by decide +kernel) (by decide +kernel)
  have I1 : hy_H 0 h1 ∧ hy_I h1 ∧ True := ⟨H1, i1, trivial⟩
  show AR _ _ _ _ _ _ _ 1295 [(4, .int i), (3, .ref 197), (2, .ref 181), (1, .ref 0), (0, .ref 1000000001)] [.int z1] h1 _ _
  refine AR.istore (ax_look_ok hk_285_1295).1 (by decide +kernel) rfl ?_
  show AR _ _ _ _ _ _ _ 1297 [(5, .int z1), (4, .int i), (3, .ref 197), (2, .ref 181), (1, .ref 0), (0, .ref 1000000001)] [] h1 _ _
  refine AR.aload_n (ax_look_ok hk_285_1297).1 (x := .ref 181) rfl rfl ?_
  obtain ⟨v1, e1⟩ := lw_tag H1
  refine lw_callA (bc' := bc + 1000) (bs' := bs + 14000) (as := [.ref 181]) (rest := []) hk_285_1298 (lw_hv (by decide) (by decide +kernel) (by decide) e1 rfl rfl (by decide)) (hf_push hlst I1.1 I1.2.1) (by decide) (by omega) (by omega) (fun E h' q => by obtain ⟨-, -, -, z, e, -⟩ := q; cases e) ?_
  rintro x2 h2 ⟨H2, F2, i2, z2, ex, A2⟩
  cases ex
  have r1 : hy_z h2 0 17 = hy_z h1 0 17 := hy_zF F2 17 (by decide) (by decide +kernel) (by decide +kernel)
  have r2 : hy_z h2 197 0 = hy_z h1 197 0 := hy_zF F2 0 (by decide) (by decide +kernel) (by decide +kernel)
  have I0 := I.2.2
  have A3 : (hy_z h1 181 28 = 8 ∧ hy_z h2 181 0 = 1 ∧ hy_z h2 181 28 = hy_z h1 181 28 ∧ z2.toInt = 0) ∨ (¬ hy_z h1 181 28 = 8 ∧ hy_z h2 181 0 = 0 ∧ hy_z h2 181 28 = hy_z h1 181 28 + (1) ∧ z2.toInt = hy_z h1 181 28 + (1)) := A2
  have I2 : lw_I h2 := ⟨H2, i2, by omega⟩
  show AR _ _ _ _ _ _ _ 1301 [(5, .int z1), (4, .int i), (3, .ref 197), (2, .ref 181), (1, .ref 0), (0, .ref 1000000001)] [.int z2] h2 _ _
  refine AR.istore (ax_look_ok hk_285_1301).1 (by decide +kernel) rfl ?_
  show AR _ _ _ _ _ _ _ 1303 [(6, .int z2), (5, .int z1), (4, .int i), (3, .ref 197), (2, .ref 181), (1, .ref 0), (0, .ref 1000000001)] [] h2 _ _
  refine AR.goto (ax_look_ok hk_285_1303).1 (tgt := 1363) (by decide) ?_
  show AR _ _ _ _ _ _ _ 1363 [(6, .int z2), (5, .int z1), (4, .int i), (3, .ref 197), (2, .ref 181), (1, .ref 0), (0, .ref 1000000001)] [] h2 _ _
  refine AR.lessL (lv' := [(4, .int i), (3, .ref 197), (2, .ref 181), (1, .ref 0), (0, .ref 1000000001)]) (List.forall_mem_cons.mpr ⟨⟨_, by simp, ax_le_rfl rfl⟩, (List.forall_mem_cons.mpr ⟨⟨_, by simp, ax_le_rfl rfl⟩, (List.forall_mem_cons.mpr ⟨⟨_, by simp, ax_le_rfl rfl⟩, (List.forall_mem_cons.mpr ⟨⟨_, by simp, ax_le_rfl rfl⟩, (List.forall_mem_cons.mpr ⟨⟨_, by simp, ax_le_rfl rfl⟩, (fun _ h => absurd h List.not_mem_nil)⟩)⟩)⟩)⟩)⟩) ?_
  exact AR.lt (by omega) (by omega) (k _ I2)
theorem lw_op39 (hlst : l.stackTraces = false) (G : ty_G hy_I l) (I : lw_I h) (k : ∀ h', lw_I h' → AR ax_ns l (ax_mm 285) 13 (ax_r L xs) P X 1363 [(4, .int i), (3, .ref 197), (2, .ref 181), (1, .ref 0), (0, .ref 1000000001)] [] h' bc bs) : AR ax_ns l (ax_mm 285) 13 (ax_r L xs) P X 1306 [(4, .int i), (3, .ref 197), (2, .ref 181), (1, .ref 0), (0, .ref 1000000001)] [] h (bc + 1177) (bs + 14024) := by
  refine AR.aload_n (ax_look_ok hk_285_1306).1 (x := .ref 0) rfl rfl ?_
  refine AR.aload_n (ax_look_ok hk_285_1307).1 (x := .ref 197) rfl rfl ?_
  refine lw_callA (bc' := bc + 1000) (bs' := bs + 14000) (as := [.ref 0, .ref 197]) (rest := []) hk_285_1308 (lw_hs (by decide +kernel) rfl rfl (by decide)) (lp_252 hlst G I.1 I.2.1) (by decide) (by omega) (by omega) (fun E h' q => by obtain ⟨-, -, -, z, e, -⟩ := q; cases e) ?_
  rintro x1 h1 ⟨F1, i1, H1, z1, ex, A1⟩
  cases ex
  have r0 : hy_z h1 181 28 = hy_z h 181 28 := hy_zF F1 28 (by decide) (by decide +kernel) (by decide +kernel)
  have I1 : hy_H 0 h1 ∧ hy_I h1 ∧ True := ⟨H1, i1, trivial⟩
  show AR _ _ _ _ _ _ _ 1311 [(4, .int i), (3, .ref 197), (2, .ref 181), (1, .ref 0), (0, .ref 1000000001)] [.int z1] h1 _ _
  refine AR.istore (ax_look_ok hk_285_1311).1 (by decide +kernel) rfl ?_
  show AR _ _ _ _ _ _ _ 1313 [(5, .int z1), (4, .int i), (3, .ref 197), (2, .ref 181), (1, .ref 0), (0, .ref 1000000001)] [] h1 _ _
  refine AR.aload_n (ax_look_ok hk_285_1313).1 (x := .ref 181) rfl rfl ?_
  obtain ⟨v1, e1⟩ := lw_tag H1
  refine lw_callA (bc' := bc + 1000) (bs' := bs + 14000) (as := [.ref 181]) (rest := []) hk_285_1314 (lw_hv (by decide) (by decide +kernel) (by decide) e1 rfl rfl (by decide)) (hf_pop G.2.1 hlst I1.1 I1.2.1) (by decide) (by omega) (by omega) (fun E h' q => by obtain ⟨-, -, -, z, e, -⟩ := q; cases e) ?_
  rintro x2 h2 ⟨H2, F2, i2, z2, ex, A2⟩
  cases ex
  have r1 : hy_z h2 0 17 = hy_z h1 0 17 := hy_zF F2 17 (by decide) (by decide +kernel) (by decide +kernel)
  have r2 : hy_z h2 197 0 = hy_z h1 197 0 := hy_zF F2 0 (by decide) (by decide +kernel) (by decide +kernel)
  have I0 := I.2.2
  have A3 : (hy_z h1 181 28 = 0 ∧ hy_z h2 181 0 = 1 ∧ hy_z h2 181 28 = hy_z h1 181 28 ∧ z2.toInt = 0) ∨ (¬ hy_z h1 181 28 = 0 ∧ hy_z h2 181 0 = 0 ∧ hy_z h2 181 28 = hy_z h1 181 28 + (-1) ∧ z2.toInt = hy_z h1 181 28 + (-1)) := A2
  have I2 : lw_I h2 := ⟨H2, i2, by omega⟩
  show AR _ _ _ _ _ _ _ 1317 [(5, .int z1), (4, .int i), (3, .ref 197), (2, .ref 181), (1, .ref 0), (0, .ref 1000000001)] [.int z2] h2 _ _
  refine AR.istore (ax_look_ok hk_285_1317).1 (by decide +kernel) rfl ?_
  show AR _ _ _ _ _ _ _ 1319 [(6, .int z2), (5, .int z1), (4, .int i), (3, .ref 197), (2, .ref 181), (1, .ref 0), (0, .ref 1000000001)] [] h2 _ _
  refine AR.aload_n (ax_look_ok hk_285_1319).1 (x := .ref 181) rfl rfl ?_
  obtain ⟨v2, e2⟩ := lw_tag H2
  refine lw_callA (bc' := bc + 1000) (bs' := bs + 14000) (as := [.ref 181]) (rest := []) hk_285_1320 (lw_hv (by decide) (by decide +kernel) (by decide) e2 rfl rfl (by decide)) (lw_131 hlst H2) (by omega) (by omega) (by omega) (fun E h' q => by obtain ⟨-, z, e, -⟩ := q; cases e) ?_
  rintro x3 h3 ⟨eh, z3, ex, A4⟩
  cases ex
  obtain rfl := eh.symm
  show AR _ _ _ _ _ _ _ 1323 [(6, .int z2), (5, .int z1), (4, .int i), (3, .ref 197), (2, .ref 181), (1, .ref 0), (0, .ref 1000000001)] [.int z3] h2 _ _
  refine AR.iload (ax_look_ok hk_285_1323).1 (x := .int z1) rfl rfl ?_
  refine AR.icmp_eq (ax_look_ok hk_285_1325).1 (tgt := 1330) (by decide) (fun _ => ?_) (fun ne => absurd (Int32.toInt_inj.mp (by omega)) ne)
  refine AR.iload (ax_look_ok hk_285_1330).1 (x := .int z1) rfl rfl ?_
  have K : AR ax_ns l (ax_mm 285) 13 (ax_r L xs) P X 1347 [(6, .int z2), (5, .int z1), (4, .int i), (3, .ref 197), (2, .ref 181), (1, .ref 0), (0, .ref 1000000001)] [] h2 (bc + 1000) (bs + 14000) := by
    refine AR.goto (ax_look_ok hk_285_1347).1 (tgt := 1363) (by decide) ?_
    show AR _ _ _ _ _ _ _ 1363 [(6, .int z2), (5, .int z1), (4, .int i), (3, .ref 197), (2, .ref 181), (1, .ref 0), (0, .ref 1000000001)] [] h2 _ _
    refine AR.lessL (lv' := [(4, .int i), (3, .ref 197), (2, .ref 181), (1, .ref 0), (0, .ref 1000000001)]) (List.forall_mem_cons.mpr ⟨⟨_, by simp, ax_le_rfl rfl⟩, (List.forall_mem_cons.mpr ⟨⟨_, by simp, ax_le_rfl rfl⟩, (List.forall_mem_cons.mpr ⟨⟨_, by simp, ax_le_rfl rfl⟩, (List.forall_mem_cons.mpr ⟨⟨_, by simp, ax_le_rfl rfl⟩, (List.forall_mem_cons.mpr ⟨⟨_, by simp, ax_le_rfl rfl⟩, (fun _ h => absurd h List.not_mem_nil)⟩)⟩)⟩)⟩)⟩) ?_
    exact AR.lt (by omega) (by omega) (k _ I2)
  refine AR.if_ne (ax_look_ok hk_285_1332).1 (tgt := 1347) (by decide) (fun _ => K) (fun z0 => ?_)
  have z00 : z1.toInt = 0 := by rw [z0]; rfl
  refine AR.aload_n (ax_look_ok hk_285_1335).1 (x := .ref 197) rfl rfl ?_
  refine AR.iconst (ax_look_ok hk_285_1336).1 ?_
  obtain ⟨x9, vs9, f1, f2, f3, f4, f5⟩ := hy_at H2 (q := 197) (n := 1) (j := 0) (by decide) (by decide +kernel) (by decide)
  rw [hy_t197_0] at f5
  obtain ⟨o9, rfl, -⟩ := f5
  rw [show (ty_tab 197).1 = 101 from by decide +kernel] at f1
  have o10 := hy_zl f4
  refine AR.laload (ax_look_ok hk_285_1337).1 (vs := vs9) (x := .long o9) (by rw [ax_get_lt (by decide)]; exact f1) (by decide) f3 ?_
  refine AR.iload (ax_look_ok hk_285_1338).1 (x := .int z2) rfl rfl ?_
  refine AR.i2l (z := .long z2.toInt64) (ax_look_ok hk_285_1340).1 rfl ?_
  have oe : o9 = z2.toInt64 := Int64.toInt_inj.mp (by rw [Int32.toInt_toInt64]; omega)
  subst oe
  obtain ⟨-, c2, -⟩ := @ty_cmp z2.toInt64 z2.toInt64
  refine AR.lcmp (ax_look_ok hk_285_1341).1 rfl ?_
  rw [c2 rfl]
  exact AR.if_eq (ax_look_ok hk_285_1342).1 (tgt := 1347) (by decide) (fun _ => K) (fun ne => absurd rfl ne)
end LWQ
