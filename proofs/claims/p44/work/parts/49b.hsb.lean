/-! BY HAND, 10: StringBuilder, on -/
theorem hs_265_7 : ax_site (ax_mm 265) (ax_mm 268) 100 1 := by
  have m := ax_mfacts (by decide +kernel : ax_has 268 = true)
  exact ⟨m.1, m.2.1, ax_wk_mem (ix := 4034) (by decide +kernel), ⟨m.2.2.2.1, m.2.2.2.2.1, by decide +kernel⟩, m.2.2.2.2.2.1⟩
theorem hs_265_11 : ax_site (ax_mm 265) (ax_mm 272) 83 0 := by
  have m := ax_mfacts (by decide +kernel : ax_has 272 = true)
  exact ⟨m.1, m.2.1, ax_wk_mem (ix := 4069) (by decide +kernel), ⟨m.2.2.2.1, m.2.2.2.2.1, by decide +kernel⟩, m.2.2.2.2.2.1⟩
theorem hs_266_14 : ax_site (ax_mm 266) (ax_mm 268) 100 1 := by
  have m := ax_mfacts (by decide +kernel : ax_has 268 = true)
  exact ⟨m.1, m.2.1, ax_wk_mem (ix := 4034) (by decide +kernel), ⟨m.2.2.2.1, m.2.2.2.2.1, by decide +kernel⟩, m.2.2.2.2.2.1⟩
theorem hs_266_18 : ax_site (ax_mm 266) (ax_mm 272) 83 0 := by
  have m := ax_mfacts (by decide +kernel : ax_has 272 = true)
  exact ⟨m.1, m.2.1, ax_wk_mem (ix := 4069) (by decide +kernel), ⟨m.2.2.2.1, m.2.2.2.2.1, by decide +kernel⟩, m.2.2.2.2.2.1⟩
theorem hs_275_6 : ax_site (ax_mm 275) (ax_mm 276) 335 0 := by
  have m := ax_mfacts (by decide +kernel : ax_has 276 = true)
  exact ⟨m.1, m.2.1, ax_wk_mem (ix := 3191) (by decide +kernel), ⟨m.2.2.2.1, m.2.2.2.2.1, by decide +kernel⟩, m.2.2.2.2.2.1⟩
theorem hs_277_1 : ax_site (ax_mm 277) (ax_mm 276) 335 0 := by
  have m := ax_mfacts (by decide +kernel : ax_has 276 = true)
  exact ⟨m.1, m.2.1, ax_wk_mem (ix := 3191) (by decide +kernel), ⟨m.2.2.2.1, m.2.2.2.2.1, by decide +kernel⟩, m.2.2.2.2.2.1⟩
theorem hs_271_11 : ax_site (ax_mm 271) (ax_mm 276) 40 0 := by
  have m := ax_mfacts (by decide +kernel : ax_has 276 = true)
  exact ⟨m.1, m.2.1, ax_wk_mem (ix := 4098) (by decide +kernel), ⟨m.2.2.2.1, m.2.2.2.2.1, by decide +kernel⟩, m.2.2.2.2.2.1⟩
theorem hs_270_2 : ax_site (ax_mm 270) (ax_mm 271) 397 1 := by
  have m := ax_mfacts (by decide +kernel : ax_has 271 = true)
  exact ⟨m.1, m.2.1, ax_wk_mem (ix := 4094) (by decide +kernel), ⟨m.2.2.2.1, m.2.2.2.2.1, by decide +kernel⟩, m.2.2.2.2.2.1⟩
theorem hs_270_15 : ax_site (ax_mm 270) (ax_mm 277) 399 3 := by
  have m := ax_mfacts (by decide +kernel : ax_has 277 = true)
  exact ⟨m.1, m.2.1, ax_wk_mem (ix := 4118) (by decide +kernel), ⟨m.2.2.2.1, m.2.2.2.2.1, by decide +kernel⟩, m.2.2.2.2.2.1⟩
theorem hs_267_10 : ax_site (ax_mm 267) (ax_mm 275) 32 0 := by
  have m := ax_mfacts (by decide +kernel : ax_has 275 = true)
  exact ⟨m.1, m.2.1, ax_wk_mem (ix := 4089) (by decide +kernel), ⟨m.2.2.2.1, m.2.2.2.2.1, by decide +kernel⟩, m.2.2.2.2.2.1⟩
theorem hs_267_21 : ax_site (ax_mm 267) (ax_mm 268) 100 1 := by
  have m := ax_mfacts (by decide +kernel : ax_has 268 = true)
  exact ⟨m.1, m.2.1, ax_wk_mem (ix := 4034) (by decide +kernel), ⟨m.2.2.2.1, m.2.2.2.2.1, by decide +kernel⟩, m.2.2.2.2.2.1⟩
theorem hs_267_30 : ax_site (ax_mm 267) (ax_mm 270) 208 2 := by
  have m := ax_mfacts (by decide +kernel : ax_has 270 = true)
  exact ⟨m.1, m.2.1, ax_wk_mem (ix := 4090) (by decide +kernel), ⟨m.2.2.2.1, m.2.2.2.2.1, by decide +kernel⟩, m.2.2.2.2.2.1⟩
theorem hs_273_15 : ax_site (ax_mm 273) (ax_mm 268) 100 1 := by
  have m := ax_mfacts (by decide +kernel : ax_has 268 = true)
  exact ⟨m.1, m.2.1, ax_wk_mem (ix := 4034) (by decide +kernel), ⟨m.2.2.2.1, m.2.2.2.2.1, by decide +kernel⟩, m.2.2.2.2.2.1⟩
section HJ3
variable {l : Launch} {h : ax_H} {k : Nat} {bs : List Value} {ml : Value} {n q x : Int32} {j nn : Nat}
theorem AR.jeq {d i pc tgt : Nat} {off : Int} {P : ax_P} {X : ax_PX} {lv : List (Nat × Value)} {st : List Value} {bc bs' : Nat} {v : Value} {ws : List Nat} {w : Nat × Nat × Nat} {x y : Int32} (hl : ax_look i pc = some (.if_icmp .eq off, w, v, ws)) (ht : (pc : Int) + off = (tgt : Int)) (kt : x.toInt = y.toInt → AR ax_ns l (ax_mm i) d ty_R P X tgt lv st h bc bs') (kf : x.toInt ≠ y.toInt → AR ax_ns l (ax_mm i) d ty_R P X (pc + 3) lv st h bc bs') : AR ax_ns l (ax_mm i) d ty_R P X pc lv (.int y :: .int x :: st) h bc bs' :=
  AR.icmp_eq (ax_look_ok hl).1 ht (fun e => kt (by rw [e])) (fun e => kf (fun z => e (Int32.toInt_inj.mp z)))
theorem AR.jlt {d i pc tgt : Nat} {off : Int} {P : ax_P} {X : ax_PX} {lv : List (Nat × Value)} {st : List Value} {bc bs' : Nat} {v : Value} {ws : List Nat} {w : Nat × Nat × Nat} {x y : Int32} (hl : ax_look i pc = some (.if_icmp .lt off, w, v, ws)) (ht : (pc : Int) + off = (tgt : Int)) (kt : x.toInt < y.toInt → AR ax_ns l (ax_mm i) d ty_R P X tgt lv st h bc bs') (kf : y.toInt ≤ x.toInt → AR ax_ns l (ax_mm i) d ty_R P X (pc + 3) lv st h bc bs') : AR ax_ns l (ax_mm i) d ty_R P X pc lv (.int y :: .int x :: st) h bc bs' :=
  AR.icmp_lt (ax_look_ok hl).1 ht (fun e => kt (Int32.lt_iff_toInt_lt.mp e)) (fun e => kf (Int.not_lt.mp (fun z => e (Int32.lt_iff_toInt_lt.mpr z))))
theorem hj_il (hlst : l.stackTraces = false) (B : hb k bs ml n h) : AM ax_ns l (ax_mm 272) 0 ty_R (0) (0) [.ref 5] h (hq_int h 1) := by
  refine AM.of (ax_mfacts (by decide +kernel : ax_has 272 = true)).2.2.2.2.2.2 hlst (by rw [hn_272]; exact Nat.le_of_ble_eq_true rfl) ?_
  show AR ax_ns l (ax_mm 272) 0 ty_R _ _ 0 [(0, .ref 5)] [] h (0) (0)
  have c1 : (1 : Int32).toInt = 1 := rfl
  have c0 : (0 : Int32).toInt = 0 := rfl
  refine AR.s (pc' := 3) (lv' := [(0, .ref 5)]) (st' := [.int 1]) (h' := h) _ hn_272 hk_272_0 rfl ?_
  show AR _ _ _ _ _ _ _ 3 [(0, .ref 5)] [.int 1] h _ _
  refine AR.zeq hk_272_3 (tgt := 17) (by decide) (fun p1 => ?_) (fun p2 => ?_)
  · exact absurd p1 (by omega)
  · refine AR.s (pc' := 7) (lv' := [(0, .ref 5)]) (st' := [.ref 5]) (h' := h) _ hn_272 hk_272_6 rfl ?_
    refine AR.gx hk_272_7 (by decide) (by decide) B.1 (x := .int 0) rfl ?_
    show AR _ _ _ _ _ _ _ 10 [(0, .ref 5)] [.int 0] h _ _
    refine AR.zne hk_272_10 (tgt := 17) (by decide) (fun p3 => ?_) (fun p4 => ?_)
    · exact absurd p3 (by omega)
    · refine AR.iconstT hk_272_13 (by decide) (fun z13 ez13 => ?_)
      show AR _ _ _ _ _ _ _ 14 [(0, .ref 5)] [.int z13] h _ _
      refine AR.gotoT hk_272_14 (tgt := 18) (by decide) ?_
      exact AR.zret hk_272_18 hr_272 (Or.inr (by omega)) ⟨rfl, _, rfl, by omega⟩
theorem hj_ce (hlst : l.stackTraces = false) (hx : x.toInt ≤ 255) : AM ax_ns l (ax_mm 280) 0 ty_R (0) (0) [.int x] h (hq_int h 1) := by
  refine AM.of (ax_mfacts (by decide +kernel : ax_has 280 = true)).2.2.2.2.2.2 hlst (by rw [hn_280]; exact Nat.le_of_ble_eq_true rfl) ?_
  show AR ax_ns l (ax_mm 280) 0 ty_R _ _ 0 [(0, .int x)] [] h (0) (0)
  refine AR.s (pc' := 1) (lv' := [(0, .int x)]) (st' := [.int x]) (h' := h) _ hn_280 hk_280_0 rfl ?_
  refine AR.sipushT hk_280_1 (by decide) (fun z14 ez14 => ?_)
  show AR _ _ _ _ _ _ _ 4 [(0, .int x)] [.int z14, .int x] h _ _
  refine AR.jgt hk_280_4 (tgt := 11) (by decide) (fun p1 => ?_) (fun p2 => ?_)
  · exact absurd p1 (by omega)
  · refine AR.iconstT hk_280_7 (by decide) (fun z15 ez15 => ?_)
    show AR _ _ _ _ _ _ _ 8 [(0, .int x)] [.int z15] h _ _
    refine AR.gotoT hk_280_8 (tgt := 12) (by decide) ?_
    exact AR.zret hk_280_12 hr_280 (Or.inr (by omega)) ⟨rfl, _, rfl, by omega⟩
theorem hb.p {m : Int32} (B : hb k bs ml n h) (c : List Value) (hc : c = [.ref k, .int 0, ml, .int m]) : hb k bs ml m (h.set 5 (10, c)) := by
  subst hc
  exact ⟨List.getElem?_set_self (List.getElem?_eq_some_iff.mp B.1).1, by rw [List.getElem?_set_ne (Ne.symm B.2.2.1)]; exact B.2.1, B.2.2⟩
theorem hb.pm {m : Value} (B : hb k bs ml n h) (c : List Value) (hc : c = [.ref k, .int 0, m, .int n]) : hb k bs m n (h.set 5 (10, c)) := by
  subst hc
  exact ⟨List.getElem?_set_self (List.getElem?_eq_some_iff.mp B.1).1, by rw [List.getElem?_set_ne (Ne.symm B.2.2.1)]; exact B.2.1, B.2.2⟩
theorem hb.b {us : List Value} (B : hb k bs ml n h) (hu : ∀ x ∈ us, hj_by x) : hb k us ml n (h.set k (103, us)) :=
  ⟨by rw [List.getElem?_set_ne B.2.2.1]; exact B.1, List.getElem?_set_self (List.getElem?_eq_some_iff.mp B.2.1).1, B.2.2.1, B.2.2.2.1, hu⟩
theorem hb_mem {us : List Value} {j : Nat} {y : Value} (hu : ∀ x ∈ us, hj_by x) (hy : hj_by y) : ∀ x ∈ us.set j y, hj_by x := fun x hx => by
  rcases List.mem_or_eq_of_mem_set hx with e | e
  · exact hu x e
  · rw [e]; exact hy
theorem hb_L0 {L : Nat} {q : Int} (h0 : q ≤ 2 * L + 2) : q ≤ hb_L L q := by
  unfold hb_L
  split <;> omega
theorem hb_L1 {L : Nat} {q : Int} : L ≤ hb_L L q := by
  unfold hb_L
  split <;> omega
def hq_ap (h : ax_H) (L : Nat) (q : Int) : ax_Q := fun res h' => res = .inl (some (.ref 5)) ∧ hb_q h L q h'
theorem hj_apC (hlst : l.stackTraces = false) (B : hb k bs ml n h) (hbl : bs.length ≤ 700) (hn0 : 0 ≤ n.toInt) (hn1 : n.toInt ≤ bs.length) (hL : 16 ≤ bs.length) (hx : x.toInt ≤ 255) : AM ax_ns l (ax_mm 265) 3 ty_R (hb_c bs.length (n.toInt + 1)) (hb_m bs.length (n.toInt + 1)) [.ref 5, .int x] h (hq_ap h bs.length (n.toInt + 1)) := by
  refine AM.of (ax_mfacts (by decide +kernel : ax_has 265 = true)).2.2.2.2.2.2 hlst (by rw [hn_265]; exact Nat.le_of_ble_eq_true rfl) ?_
  show AR ax_ns l (ax_mm 265) 3 ty_R _ _ 0 [(0, .ref 5), (1, .int x)] [] h (hb_c bs.length (n.toInt + 1)) (hb_m bs.length (n.toInt + 1))
  refine AR.s (pc' := 1) (lv' := [(0, .ref 5), (1, .int x)]) (st' := [.ref 5]) (h' := h) _ hn_265 hk_265_0 rfl ?_
  refine AR.s (pc' := 2) (lv' := [(0, .ref 5), (1, .int x)]) (st' := [.ref 5, .ref 5]) (h' := h) _ hn_265 hk_265_1 rfl ?_
  refine AR.gx hk_265_2 (by decide) (by decide) B.1 (x := .int n) rfl ?_
  show AR _ _ _ _ _ _ _ 5 [(0, .ref 5), (1, .int x)] [.int n, .ref 5] h _ _
  refine AR.iconstT hk_265_5 (by decide) (fun z16 ez16 => ?_)
  show AR _ _ _ _ _ _ _ 6 [(0, .ref 5), (1, .int x)] [.int z16, .int n, .ref 5] h _ _
  refine AR.addT hk_265_6 (by omega) (by omega) (fun z17 ez17 => ?_)
  show AR _ _ _ _ _ _ _ 7 [(0, .ref 5), (1, .int x)] [.int z17, .ref 5] h _ _
  have ez7 : z17.toInt = n.toInt + 1 := by omega
  rw [← ez7]
  refine AR.jv (as := [.int z17]) (rest := []) hk_265_7 hs_265_7 (by decide +kernel) (by decide +kernel) (by decide +kernel) (ax_wk_mem (ix := 9000) (by decide +kernel)) B.1 rfl rfl (Nat.le_of_ble_eq_true rfl) (hj_en hlst B hbl (by omega) (by omega)) (by decide) (Nat.le_refl _) (Nat.le_refl _) (fun E h' q => by cases q.1) ?_
  rintro w7 h7 ⟨e, F7, k7, bs7, B7, l7⟩
  cases e
  show AR _ _ _ _ _ _ _ 10 [(0, .ref 5), (1, .int x)] [] h7 _ _
  have l8 := hb_L0 (L := bs.length) (q := z17.toInt) (by omega)
  have c1 : (1 : Int32).toInt = 1 := rfl
  have c0 : (0 : Int32).toInt = 0 := rfl
  refine AR.s (pc' := 11) (lv' := [(0, .ref 5), (1, .int x)]) (st' := [.ref 5]) (h' := h7) _ hn_265 hk_265_10 rfl ?_
  refine AR.jv (as := []) (rest := []) hk_265_11 hs_265_11 (by decide +kernel) (by decide +kernel) (by decide +kernel) (ax_wk_mem (ix := 4072) (by decide +kernel)) B7.1 rfl rfl (Nat.le_of_ble_eq_true rfl) (hj_il hlst B7) (by decide) (Nat.zero_le _) (Nat.zero_le _) (fun E h' q => by obtain ⟨-, x, e, -⟩ := q; cases e) ?_
  rintro w18 g19 ⟨eg19, z20, e, ez20⟩
  cases e
  obtain rfl := eg19.symm
  show AR _ _ _ _ _ _ _ 14 [(0, .ref 5), (1, .int x)] [.int z20] h7 _ _
  refine AR.zeq hk_265_14 (tgt := 45) (by decide) (fun p1 => ?_) (fun p2 => ?_)
  · exact absurd p1 (by omega)
  · refine AR.s (pc' := 18) (lv' := [(0, .ref 5), (1, .int x)]) (st' := [.int x]) (h' := h7) _ hn_265 hk_265_17 rfl ?_
    refine AR.cs (as := [.int x]) (rest := []) hk_265_18 (by decide +kernel) rfl rfl (Nat.le_of_ble_eq_true rfl) (hj_ce hlst hx) (by decide) (Nat.zero_le _) (Nat.zero_le _) (fun E h' q => by obtain ⟨-, x, e, -⟩ := q; cases e) ?_
    rintro w21 g22 ⟨eg22, z23, e, ez23⟩
    cases e
    obtain rfl := eg22.symm
    show AR _ _ _ _ _ _ _ 21 [(0, .ref 5), (1, .int x)] [.int z23] h7 _ _
    refine AR.zeq hk_265_21 (tgt := 45) (by decide) (fun p3 => ?_) (fun p4 => ?_)
    · exact absurd p3 (by omega)
    · refine AR.s (pc' := 25) (lv' := [(0, .ref 5), (1, .int x)]) (st' := [.ref 5]) (h' := h7) _ hn_265 hk_265_24 rfl ?_
      refine AR.gx hk_265_25 (by decide) (by decide) B7.1 (x := .ref k7) rfl ?_
      show AR _ _ _ _ _ _ _ 28 [(0, .ref 5), (1, .int x)] [.ref k7] h7 _ _
      refine AR.s (pc' := 29) (lv' := [(0, .ref 5), (1, .int x)]) (st' := [.ref 5, .ref k7]) (h' := h7) _ hn_265 hk_265_28 rfl ?_
      refine AR.s (pc' := 30) (lv' := [(0, .ref 5), (1, .int x)]) (st' := [.ref 5, .ref 5, .ref k7]) (h' := h7) _ hn_265 hk_265_29 rfl ?_
      refine AR.gx hk_265_30 (by decide) (by decide) B7.1 (x := .int n) rfl ?_
      show AR _ _ _ _ _ _ _ 33 [(0, .ref 5), (1, .int x)] [.int n, .ref 5, .ref k7] h7 _ _
      refine AR.dup_x1 (ax_look_ok hk_265_33).1 rfl rfl ?_
      show AR _ _ _ _ _ _ _ 34 [(0, .ref 5), (1, .int x)] [.int n, .ref 5, .int n, .ref k7] h7 _ _
      refine AR.iconstT hk_265_34 (by decide) (fun z24 ez24 => ?_)
      show AR _ _ _ _ _ _ _ 35 [(0, .ref 5), (1, .int x)] [.int z24, .int n, .ref 5, .int n, .ref k7] h7 _ _
      refine AR.addT hk_265_35 (by omega) (by omega) (fun z25 ez25 => ?_)
      show AR _ _ _ _ _ _ _ 36 [(0, .ref 5), (1, .int x)] [.int z25, .ref 5, .int n, .ref k7] h7 _ _
      refine AR.px hk_265_36 (by decide) (by decide) (vs := [.ref k7, .int 0, ml, .int n]) B7.1 (show ax_cls[10]? = some hy_c10 from rfl) rfl rfl ?_
      have B8 := B7.p (m := z25) _ rfl
      rw [show [Value.ref k7, .int 0, ml, .int n].set 3 (.int z25) = [.ref k7, .int 0, ml, .int z25] from rfl]
      show AR _ _ _ _ _ _ _ 39 [(0, .ref 5), (1, .int x)] [.int n, .ref k7] (h7.set 5 (10, [.ref k7, .int 0, ml, .int z25])) _ _
      refine AR.s (pc' := 40) (lv' := [(0, .ref 5), (1, .int x)]) (st' := [.int x, .int n, .ref k7]) (h' := (h7.set 5 (10, [.ref k7, .int 0, ml, .int z25]))) _ hn_265 hk_265_39 rfl ?_
      refine AR.i2bT hk_265_40 (fun z26 ez26 => ?_)
      show AR _ _ _ _ _ _ _ 41 [(0, .ref 5), (1, .int x)] [.int z26, .int n, .ref k7] (h7.set 5 (10, [.ref k7, .int 0, ml, .int z25])) _ _
      refine AR.bsT hk_265_41 B8.2.2.2.1 B8.2.1 (by omega) (by omega) ez26 ?_
      have B9 := B8.b (us := bs7.set n.toInt.toNat (.int z26)) (hb_mem B8.2.2.2.2 ez26)
      show AR _ _ _ _ _ _ _ 42 [(0, .ref 5), (1, .int x)] [] _ _ _
      refine AR.gotoT hk_265_42 (tgt := 75) (by decide) ?_
      refine AR.s (pc' := 76) (lv' := [(0, .ref 5), (1, .int x)]) (st' := [.ref 5]) (h' := _) _ hn_265 hk_265_75 rfl ?_
      exact AR.aret hk_265_76 hr_265 (Or.inl ⟨_, rfl⟩) ⟨rfl, hb_fr.trans F7 (hb_fr.trans (hb_fr.s5 _ _) (hb_fr.sk B8.2.1 (List.length_set ..))), _, _, _, _, B9, by rw [List.length_set]; exact l7, by omega⟩
def hb_p : Nat → Int
  | 0 => 1
  | n + 1 => 10 * hb_p n
theorem hb_p1 : ∀ n, 1 ≤ hb_p n
  | 0 => by decide
  | n + 1 => by have := hb_p1 n; show 1 ≤ 10 * hb_p n; omega
def hb_dg (u : Int) : Nat := if u < 10 then 1 else if u < 100 then 2 else if u < 1000 then 3 else if u < 10000 then 4 else if u < 100000 then 5 else if u < 1000000 then 6 else if u < 10000000 then 7 else if u < 100000000 then 8 else if u < 1000000000 then 9 else 10
def hb_ab (x : Int) : Int := if x < 0 then -x else x
def hb_sg (x : Int) : Int := if x < 0 then 1 else 0
def hb_sz (x : Int) : Int := hb_sg x + hb_dg (hb_ab x)
theorem hb_dg_p {u : Int} (hu : u ≤ 2147483648) : u < hb_p (hb_dg u) ∧ 1 ≤ hb_dg u ∧ hb_dg u ≤ 10 := by
  unfold hb_dg
  repeat' split
  all_goals (refine ⟨?_, by decide, by decide⟩; simp only [hb_p]; omega)
theorem hb_sz_le (x : Int32) : 1 ≤ hb_sz x.toInt ∧ hb_sz x.toInt ≤ 11 := by
  have h1 := Int32.le_toInt x
  have h2 := Int32.toInt_lt x
  have h3 := hb_dg_p (u := hb_ab x.toInt) (by unfold hb_ab; split <;> omega)
  unfold hb_sz hb_sg
  split <;> omega
theorem hb_dg1 {u : Int} (h2 : u < 10) : hb_dg u = 1 := by
  unfold hb_dg
  rw [if_pos h2]
theorem hb_dg2 {u : Int} (h1 : 10 ≤ u) (h2 : u < 100) : hb_dg u = 2 := by
  unfold hb_dg
  rw [if_neg (show ¬ u < 10 by omega), if_pos h2]
theorem hb_dg3 {u : Int} (h1 : 100 ≤ u) (h2 : u < 1000) : hb_dg u = 3 := by
  unfold hb_dg
  rw [if_neg (show ¬ u < 10 by omega), if_neg (show ¬ u < 100 by omega), if_pos h2]
theorem hb_dg4 {u : Int} (h1 : 1000 ≤ u) (h2 : u < 10000) : hb_dg u = 4 := by
  unfold hb_dg
  rw [if_neg (show ¬ u < 10 by omega), if_neg (show ¬ u < 100 by omega), if_neg (show ¬ u < 1000 by omega), if_pos h2]
theorem hb_dg5 {u : Int} (h1 : 10000 ≤ u) (h2 : u < 100000) : hb_dg u = 5 := by
  unfold hb_dg
  rw [if_neg (show ¬ u < 10 by omega), if_neg (show ¬ u < 100 by omega), if_neg (show ¬ u < 1000 by omega), if_neg (show ¬ u < 10000 by omega), if_pos h2]
theorem hb_dg6 {u : Int} (h1 : 100000 ≤ u) (h2 : u < 1000000) : hb_dg u = 6 := by
  unfold hb_dg
  rw [if_neg (show ¬ u < 10 by omega), if_neg (show ¬ u < 100 by omega), if_neg (show ¬ u < 1000 by omega), if_neg (show ¬ u < 10000 by omega), if_neg (show ¬ u < 100000 by omega), if_pos h2]
theorem hb_dg7 {u : Int} (h1 : 1000000 ≤ u) (h2 : u < 10000000) : hb_dg u = 7 := by
  unfold hb_dg
  rw [if_neg (show ¬ u < 10 by omega), if_neg (show ¬ u < 100 by omega), if_neg (show ¬ u < 1000 by omega), if_neg (show ¬ u < 10000 by omega), if_neg (show ¬ u < 100000 by omega), if_neg (show ¬ u < 1000000 by omega), if_pos h2]
theorem hb_dg8 {u : Int} (h1 : 10000000 ≤ u) (h2 : u < 100000000) : hb_dg u = 8 := by
  unfold hb_dg
  rw [if_neg (show ¬ u < 10 by omega), if_neg (show ¬ u < 100 by omega), if_neg (show ¬ u < 1000 by omega), if_neg (show ¬ u < 10000 by omega), if_neg (show ¬ u < 100000 by omega), if_neg (show ¬ u < 1000000 by omega), if_neg (show ¬ u < 10000000 by omega), if_pos h2]
theorem hb_dg9 {u : Int} (h1 : 100000000 ≤ u) (h2 : u < 1000000000) : hb_dg u = 9 := by
  unfold hb_dg
  rw [if_neg (show ¬ u < 10 by omega), if_neg (show ¬ u < 100 by omega), if_neg (show ¬ u < 1000 by omega), if_neg (show ¬ u < 10000 by omega), if_neg (show ¬ u < 100000 by omega), if_neg (show ¬ u < 1000000 by omega), if_neg (show ¬ u < 10000000 by omega), if_neg (show ¬ u < 100000000 by omega), if_pos h2]
theorem hb_dg10 {u : Int} (h1 : 1000000000 ≤ u) : hb_dg u = 10 := by
  unfold hb_dg
  rw [if_neg (show ¬ u < 10 by omega), if_neg (show ¬ u < 100 by omega), if_neg (show ¬ u < 1000 by omega), if_neg (show ¬ u < 10000 by omega), if_neg (show ¬ u < 100000 by omega), if_neg (show ¬ u < 1000000 by omega), if_neg (show ¬ u < 10000000 by omega), if_neg (show ¬ u < 100000000 by omega), if_neg (show ¬ u < 1000000000 by omega)]
theorem hj_ssL (hlst : l.stackTraces = false) {X : ax_PX} (y s0 : Int32) (x : Int) (hy : y.toInt = -hb_ab x) (hs : s0.toInt = hb_sg x) (hy1 : -2147483648 ≤ y.toInt) (hy2 : y.toInt ≤ 0) : AR ax_ns l (ax_mm 281) 0 ty_R (ax_ret ax_ns (ax_mm 281) (hq_int h (hb_sz x))) X 11 [(0, .int y), (1, .int s0)] [] h 0 0 := by
  have hd : hb_sz x = s0.toInt + hb_dg (-y.toInt) := by rw [hs, hy, Int.neg_neg]; rfl
  have hs1 : 0 ≤ s0.toInt ∧ s0.toInt ≤ 1 := by rw [hs]; unfold hb_sg; split <;> omega
  show AR _ _ _ _ _ _ _ 11 [(0, .int y), (1, .int s0)] [] h _ _
  refine AR.bipushT hk_281_11 (by decide) (fun z27 ez27 => ?_)
  show AR _ _ _ _ _ _ _ 13 [(0, .int y), (1, .int s0)] [.int z27] h _ _
  refine AR.s (pc' := 14) (lv' := [(2, .int z27), (0, .int y), (1, .int s0)]) (st' := []) (h' := h) _ hn_281 hk_281_13 rfl ?_
  refine AR.iconstT hk_281_14 (by decide) (fun z28 ez28 => ?_)
  show AR _ _ _ _ _ _ _ 15 [(2, .int z27), (0, .int y), (1, .int s0)] [.int z28] h _ _
  refine AR.s (pc' := 16) (lv' := [(3, .int z28), (2, .int z27), (0, .int y), (1, .int s0)]) (st' := []) (h' := h) _ hn_281 hk_281_15 rfl ?_
  refine AR.s (pc' := 17) (lv' := [(3, .int z28), (2, .int z27), (0, .int y), (1, .int s0)]) (st' := [.int z28]) (h' := h) _ hn_281 hk_281_16 rfl ?_
  refine AR.bipushT hk_281_17 (by decide) (fun z29 ez29 => ?_)
  show AR _ _ _ _ _ _ _ 19 [(3, .int z28), (2, .int z27), (0, .int y), (1, .int s0)] [.int z29, .int z28] h _ _
  refine AR.jge hk_281_19 (tgt := 42) (by decide) (fun p11 => ?_) (fun p12 => ?_)
  · exact absurd p11 (by omega)
  · refine AR.s (pc' := 23) (lv' := [(3, .int z28), (2, .int z27), (0, .int y), (1, .int s0)]) (st' := [.int y]) (h' := h) _ hn_281 hk_281_22 rfl ?_
    refine AR.s (pc' := 24) (lv' := [(3, .int z28), (2, .int z27), (0, .int y), (1, .int s0)]) (st' := [.int z27, .int y]) (h' := h) _ hn_281 hk_281_23 rfl ?_
    refine AR.jle hk_281_24 (tgt := 31) (by decide) (fun p13 => ?_) (fun p14 => ?_)
    · refine AR.bipushT hk_281_31 (by decide) (fun z31 ez31 => ?_)
      show AR _ _ _ _ _ _ _ 33 [(3, .int z28), (2, .int z27), (0, .int y), (1, .int s0)] [.int z31] h _ _
      refine AR.s (pc' := 34) (lv' := [(3, .int z28), (2, .int z27), (0, .int y), (1, .int s0)]) (st' := [.int z27, .int z31]) (h' := h) _ hn_281 hk_281_33 rfl ?_
      refine AR.mulA hk_281_34 (fun z32 ez32 => ?_)
      have v2 : z31.toInt * z27.toInt = -100 := by rw [ez31, ez27]; rfl
      have ep2 : z32.toInt = -100 := by rw [v2] at ez32; exact ez32 (by decide) (by decide)
      show AR _ _ _ _ _ _ _ 35 [(3, .int z28), (2, .int z27), (0, .int y), (1, .int s0)] [.int z32] h _ _
      refine AR.s (pc' := 36) (lv' := [(2, .int z32), (3, .int z28), (0, .int y), (1, .int s0)]) (st' := []) (h' := h) _ hn_281 hk_281_35 rfl ?_
      refine AR.iincT hk_281_36 (x := z28) rfl (by rw [hn_281]; decide) (by decide) (by omega) (by omega) (fun z33 ez33 => ?_)
      show AR _ _ _ _ _ _ _ 39 [(3, .int z33), (2, .int z32), (0, .int y), (1, .int s0)] [] h _ _
      refine AR.gotoT hk_281_39 (tgt := 16) (by decide) ?_
      refine AR.s (pc' := 17) (lv' := [(3, .int z33), (2, .int z32), (0, .int y), (1, .int s0)]) (st' := [.int z33]) (h' := h) _ hn_281 hk_281_16 rfl ?_
      refine AR.bipushT hk_281_17 (by decide) (fun z34 ez34 => ?_)
      show AR _ _ _ _ _ _ _ 19 [(3, .int z33), (2, .int z32), (0, .int y), (1, .int s0)] [.int z34, .int z33] h _ _
      refine AR.jge hk_281_19 (tgt := 42) (by decide) (fun p21 => ?_) (fun p22 => ?_)
      · exact absurd p21 (by omega)
      · refine AR.s (pc' := 23) (lv' := [(3, .int z33), (2, .int z32), (0, .int y), (1, .int s0)]) (st' := [.int y]) (h' := h) _ hn_281 hk_281_22 rfl ?_
        refine AR.s (pc' := 24) (lv' := [(3, .int z33), (2, .int z32), (0, .int y), (1, .int s0)]) (st' := [.int z32, .int y]) (h' := h) _ hn_281 hk_281_23 rfl ?_
        refine AR.jle hk_281_24 (tgt := 31) (by decide) (fun p23 => ?_) (fun p24 => ?_)
        · refine AR.bipushT hk_281_31 (by decide) (fun z36 ez36 => ?_)
          show AR _ _ _ _ _ _ _ 33 [(3, .int z33), (2, .int z32), (0, .int y), (1, .int s0)] [.int z36] h _ _
          refine AR.s (pc' := 34) (lv' := [(3, .int z33), (2, .int z32), (0, .int y), (1, .int s0)]) (st' := [.int z32, .int z36]) (h' := h) _ hn_281 hk_281_33 rfl ?_
          refine AR.mulA hk_281_34 (fun z37 ez37 => ?_)
          have v3 : z36.toInt * z32.toInt = -1000 := by rw [ez36, ep2]; rfl
          have ep3 : z37.toInt = -1000 := by rw [v3] at ez37; exact ez37 (by decide) (by decide)
          show AR _ _ _ _ _ _ _ 35 [(3, .int z33), (2, .int z32), (0, .int y), (1, .int s0)] [.int z37] h _ _
          refine AR.s (pc' := 36) (lv' := [(2, .int z37), (3, .int z33), (0, .int y), (1, .int s0)]) (st' := []) (h' := h) _ hn_281 hk_281_35 rfl ?_
          refine AR.iincT hk_281_36 (x := z33) rfl (by rw [hn_281]; decide) (by decide) (by omega) (by omega) (fun z38 ez38 => ?_)
          show AR _ _ _ _ _ _ _ 39 [(3, .int z38), (2, .int z37), (0, .int y), (1, .int s0)] [] h _ _
          refine AR.gotoT hk_281_39 (tgt := 16) (by decide) ?_
          refine AR.s (pc' := 17) (lv' := [(3, .int z38), (2, .int z37), (0, .int y), (1, .int s0)]) (st' := [.int z38]) (h' := h) _ hn_281 hk_281_16 rfl ?_
          refine AR.bipushT hk_281_17 (by decide) (fun z39 ez39 => ?_)
          show AR _ _ _ _ _ _ _ 19 [(3, .int z38), (2, .int z37), (0, .int y), (1, .int s0)] [.int z39, .int z38] h _ _
          refine AR.jge hk_281_19 (tgt := 42) (by decide) (fun p31 => ?_) (fun p32 => ?_)
          · exact absurd p31 (by omega)
          · refine AR.s (pc' := 23) (lv' := [(3, .int z38), (2, .int z37), (0, .int y), (1, .int s0)]) (st' := [.int y]) (h' := h) _ hn_281 hk_281_22 rfl ?_
            refine AR.s (pc' := 24) (lv' := [(3, .int z38), (2, .int z37), (0, .int y), (1, .int s0)]) (st' := [.int z37, .int y]) (h' := h) _ hn_281 hk_281_23 rfl ?_
            refine AR.jle hk_281_24 (tgt := 31) (by decide) (fun p33 => ?_) (fun p34 => ?_)
            · refine AR.bipushT hk_281_31 (by decide) (fun z41 ez41 => ?_)
              show AR _ _ _ _ _ _ _ 33 [(3, .int z38), (2, .int z37), (0, .int y), (1, .int s0)] [.int z41] h _ _
              refine AR.s (pc' := 34) (lv' := [(3, .int z38), (2, .int z37), (0, .int y), (1, .int s0)]) (st' := [.int z37, .int z41]) (h' := h) _ hn_281 hk_281_33 rfl ?_
              refine AR.mulA hk_281_34 (fun z42 ez42 => ?_)
              have v4 : z41.toInt * z37.toInt = -10000 := by rw [ez41, ep3]; rfl
              have ep4 : z42.toInt = -10000 := by rw [v4] at ez42; exact ez42 (by decide) (by decide)
              show AR _ _ _ _ _ _ _ 35 [(3, .int z38), (2, .int z37), (0, .int y), (1, .int s0)] [.int z42] h _ _
              refine AR.s (pc' := 36) (lv' := [(2, .int z42), (3, .int z38), (0, .int y), (1, .int s0)]) (st' := []) (h' := h) _ hn_281 hk_281_35 rfl ?_
              refine AR.iincT hk_281_36 (x := z38) rfl (by rw [hn_281]; decide) (by decide) (by omega) (by omega) (fun z43 ez43 => ?_)
              show AR _ _ _ _ _ _ _ 39 [(3, .int z43), (2, .int z42), (0, .int y), (1, .int s0)] [] h _ _
              refine AR.gotoT hk_281_39 (tgt := 16) (by decide) ?_
              refine AR.s (pc' := 17) (lv' := [(3, .int z43), (2, .int z42), (0, .int y), (1, .int s0)]) (st' := [.int z43]) (h' := h) _ hn_281 hk_281_16 rfl ?_
              refine AR.bipushT hk_281_17 (by decide) (fun z44 ez44 => ?_)
              show AR _ _ _ _ _ _ _ 19 [(3, .int z43), (2, .int z42), (0, .int y), (1, .int s0)] [.int z44, .int z43] h _ _
              refine AR.jge hk_281_19 (tgt := 42) (by decide) (fun p41 => ?_) (fun p42 => ?_)
              · exact absurd p41 (by omega)
              · refine AR.s (pc' := 23) (lv' := [(3, .int z43), (2, .int z42), (0, .int y), (1, .int s0)]) (st' := [.int y]) (h' := h) _ hn_281 hk_281_22 rfl ?_
                refine AR.s (pc' := 24) (lv' := [(3, .int z43), (2, .int z42), (0, .int y), (1, .int s0)]) (st' := [.int z42, .int y]) (h' := h) _ hn_281 hk_281_23 rfl ?_
                refine AR.jle hk_281_24 (tgt := 31) (by decide) (fun p43 => ?_) (fun p44 => ?_)
                · refine AR.bipushT hk_281_31 (by decide) (fun z46 ez46 => ?_)
                  show AR _ _ _ _ _ _ _ 33 [(3, .int z43), (2, .int z42), (0, .int y), (1, .int s0)] [.int z46] h _ _
                  refine AR.s (pc' := 34) (lv' := [(3, .int z43), (2, .int z42), (0, .int y), (1, .int s0)]) (st' := [.int z42, .int z46]) (h' := h) _ hn_281 hk_281_33 rfl ?_
                  refine AR.mulA hk_281_34 (fun z47 ez47 => ?_)
                  have v5 : z46.toInt * z42.toInt = -100000 := by rw [ez46, ep4]; rfl
                  have ep5 : z47.toInt = -100000 := by rw [v5] at ez47; exact ez47 (by decide) (by decide)
                  show AR _ _ _ _ _ _ _ 35 [(3, .int z43), (2, .int z42), (0, .int y), (1, .int s0)] [.int z47] h _ _
                  refine AR.s (pc' := 36) (lv' := [(2, .int z47), (3, .int z43), (0, .int y), (1, .int s0)]) (st' := []) (h' := h) _ hn_281 hk_281_35 rfl ?_
                  refine AR.iincT hk_281_36 (x := z43) rfl (by rw [hn_281]; decide) (by decide) (by omega) (by omega) (fun z48 ez48 => ?_)
                  show AR _ _ _ _ _ _ _ 39 [(3, .int z48), (2, .int z47), (0, .int y), (1, .int s0)] [] h _ _
                  refine AR.gotoT hk_281_39 (tgt := 16) (by decide) ?_
                  refine AR.s (pc' := 17) (lv' := [(3, .int z48), (2, .int z47), (0, .int y), (1, .int s0)]) (st' := [.int z48]) (h' := h) _ hn_281 hk_281_16 rfl ?_
                  refine AR.bipushT hk_281_17 (by decide) (fun z49 ez49 => ?_)
                  show AR _ _ _ _ _ _ _ 19 [(3, .int z48), (2, .int z47), (0, .int y), (1, .int s0)] [.int z49, .int z48] h _ _
                  refine AR.jge hk_281_19 (tgt := 42) (by decide) (fun p51 => ?_) (fun p52 => ?_)
                  · exact absurd p51 (by omega)
                  · refine AR.s (pc' := 23) (lv' := [(3, .int z48), (2, .int z47), (0, .int y), (1, .int s0)]) (st' := [.int y]) (h' := h) _ hn_281 hk_281_22 rfl ?_
                    refine AR.s (pc' := 24) (lv' := [(3, .int z48), (2, .int z47), (0, .int y), (1, .int s0)]) (st' := [.int z47, .int y]) (h' := h) _ hn_281 hk_281_23 rfl ?_
                    refine AR.jle hk_281_24 (tgt := 31) (by decide) (fun p53 => ?_) (fun p54 => ?_)
                    · refine AR.bipushT hk_281_31 (by decide) (fun z51 ez51 => ?_)
                      show AR _ _ _ _ _ _ _ 33 [(3, .int z48), (2, .int z47), (0, .int y), (1, .int s0)] [.int z51] h _ _
                      refine AR.s (pc' := 34) (lv' := [(3, .int z48), (2, .int z47), (0, .int y), (1, .int s0)]) (st' := [.int z47, .int z51]) (h' := h) _ hn_281 hk_281_33 rfl ?_
                      refine AR.mulA hk_281_34 (fun z52 ez52 => ?_)
                      have v6 : z51.toInt * z47.toInt = -1000000 := by rw [ez51, ep5]; rfl
                      have ep6 : z52.toInt = -1000000 := by rw [v6] at ez52; exact ez52 (by decide) (by decide)
                      show AR _ _ _ _ _ _ _ 35 [(3, .int z48), (2, .int z47), (0, .int y), (1, .int s0)] [.int z52] h _ _
                      refine AR.s (pc' := 36) (lv' := [(2, .int z52), (3, .int z48), (0, .int y), (1, .int s0)]) (st' := []) (h' := h) _ hn_281 hk_281_35 rfl ?_
                      refine AR.iincT hk_281_36 (x := z48) rfl (by rw [hn_281]; decide) (by decide) (by omega) (by omega) (fun z53 ez53 => ?_)
                      show AR _ _ _ _ _ _ _ 39 [(3, .int z53), (2, .int z52), (0, .int y), (1, .int s0)] [] h _ _
                      refine AR.gotoT hk_281_39 (tgt := 16) (by decide) ?_
                      refine AR.s (pc' := 17) (lv' := [(3, .int z53), (2, .int z52), (0, .int y), (1, .int s0)]) (st' := [.int z53]) (h' := h) _ hn_281 hk_281_16 rfl ?_
                      refine AR.bipushT hk_281_17 (by decide) (fun z54 ez54 => ?_)
                      show AR _ _ _ _ _ _ _ 19 [(3, .int z53), (2, .int z52), (0, .int y), (1, .int s0)] [.int z54, .int z53] h _ _
                      refine AR.jge hk_281_19 (tgt := 42) (by decide) (fun p61 => ?_) (fun p62 => ?_)
                      · exact absurd p61 (by omega)
                      · refine AR.s (pc' := 23) (lv' := [(3, .int z53), (2, .int z52), (0, .int y), (1, .int s0)]) (st' := [.int y]) (h' := h) _ hn_281 hk_281_22 rfl ?_
                        refine AR.s (pc' := 24) (lv' := [(3, .int z53), (2, .int z52), (0, .int y), (1, .int s0)]) (st' := [.int z52, .int y]) (h' := h) _ hn_281 hk_281_23 rfl ?_
                        refine AR.jle hk_281_24 (tgt := 31) (by decide) (fun p63 => ?_) (fun p64 => ?_)
                        · refine AR.bipushT hk_281_31 (by decide) (fun z56 ez56 => ?_)
                          show AR _ _ _ _ _ _ _ 33 [(3, .int z53), (2, .int z52), (0, .int y), (1, .int s0)] [.int z56] h _ _
                          refine AR.s (pc' := 34) (lv' := [(3, .int z53), (2, .int z52), (0, .int y), (1, .int s0)]) (st' := [.int z52, .int z56]) (h' := h) _ hn_281 hk_281_33 rfl ?_
                          refine AR.mulA hk_281_34 (fun z57 ez57 => ?_)
                          have v7 : z56.toInt * z52.toInt = -10000000 := by rw [ez56, ep6]; rfl
                          have ep7 : z57.toInt = -10000000 := by rw [v7] at ez57; exact ez57 (by decide) (by decide)
                          show AR _ _ _ _ _ _ _ 35 [(3, .int z53), (2, .int z52), (0, .int y), (1, .int s0)] [.int z57] h _ _
                          refine AR.s (pc' := 36) (lv' := [(2, .int z57), (3, .int z53), (0, .int y), (1, .int s0)]) (st' := []) (h' := h) _ hn_281 hk_281_35 rfl ?_
                          refine AR.iincT hk_281_36 (x := z53) rfl (by rw [hn_281]; decide) (by decide) (by omega) (by omega) (fun z58 ez58 => ?_)
                          show AR _ _ _ _ _ _ _ 39 [(3, .int z58), (2, .int z57), (0, .int y), (1, .int s0)] [] h _ _
                          refine AR.gotoT hk_281_39 (tgt := 16) (by decide) ?_
                          refine AR.s (pc' := 17) (lv' := [(3, .int z58), (2, .int z57), (0, .int y), (1, .int s0)]) (st' := [.int z58]) (h' := h) _ hn_281 hk_281_16 rfl ?_
                          refine AR.bipushT hk_281_17 (by decide) (fun z59 ez59 => ?_)
                          show AR _ _ _ _ _ _ _ 19 [(3, .int z58), (2, .int z57), (0, .int y), (1, .int s0)] [.int z59, .int z58] h _ _
                          refine AR.jge hk_281_19 (tgt := 42) (by decide) (fun p71 => ?_) (fun p72 => ?_)
                          · exact absurd p71 (by omega)
                          · refine AR.s (pc' := 23) (lv' := [(3, .int z58), (2, .int z57), (0, .int y), (1, .int s0)]) (st' := [.int y]) (h' := h) _ hn_281 hk_281_22 rfl ?_
                            refine AR.s (pc' := 24) (lv' := [(3, .int z58), (2, .int z57), (0, .int y), (1, .int s0)]) (st' := [.int z57, .int y]) (h' := h) _ hn_281 hk_281_23 rfl ?_
                            refine AR.jle hk_281_24 (tgt := 31) (by decide) (fun p73 => ?_) (fun p74 => ?_)
                            · refine AR.bipushT hk_281_31 (by decide) (fun z61 ez61 => ?_)
                              show AR _ _ _ _ _ _ _ 33 [(3, .int z58), (2, .int z57), (0, .int y), (1, .int s0)] [.int z61] h _ _
                              refine AR.s (pc' := 34) (lv' := [(3, .int z58), (2, .int z57), (0, .int y), (1, .int s0)]) (st' := [.int z57, .int z61]) (h' := h) _ hn_281 hk_281_33 rfl ?_
                              refine AR.mulA hk_281_34 (fun z62 ez62 => ?_)
                              have v8 : z61.toInt * z57.toInt = -100000000 := by rw [ez61, ep7]; rfl
                              have ep8 : z62.toInt = -100000000 := by rw [v8] at ez62; exact ez62 (by decide) (by decide)
                              show AR _ _ _ _ _ _ _ 35 [(3, .int z58), (2, .int z57), (0, .int y), (1, .int s0)] [.int z62] h _ _
                              refine AR.s (pc' := 36) (lv' := [(2, .int z62), (3, .int z58), (0, .int y), (1, .int s0)]) (st' := []) (h' := h) _ hn_281 hk_281_35 rfl ?_
                              refine AR.iincT hk_281_36 (x := z58) rfl (by rw [hn_281]; decide) (by decide) (by omega) (by omega) (fun z63 ez63 => ?_)
                              show AR _ _ _ _ _ _ _ 39 [(3, .int z63), (2, .int z62), (0, .int y), (1, .int s0)] [] h _ _
                              refine AR.gotoT hk_281_39 (tgt := 16) (by decide) ?_
                              refine AR.s (pc' := 17) (lv' := [(3, .int z63), (2, .int z62), (0, .int y), (1, .int s0)]) (st' := [.int z63]) (h' := h) _ hn_281 hk_281_16 rfl ?_
                              refine AR.bipushT hk_281_17 (by decide) (fun z64 ez64 => ?_)
                              show AR _ _ _ _ _ _ _ 19 [(3, .int z63), (2, .int z62), (0, .int y), (1, .int s0)] [.int z64, .int z63] h _ _
                              refine AR.jge hk_281_19 (tgt := 42) (by decide) (fun p81 => ?_) (fun p82 => ?_)
                              · exact absurd p81 (by omega)
                              · refine AR.s (pc' := 23) (lv' := [(3, .int z63), (2, .int z62), (0, .int y), (1, .int s0)]) (st' := [.int y]) (h' := h) _ hn_281 hk_281_22 rfl ?_
                                refine AR.s (pc' := 24) (lv' := [(3, .int z63), (2, .int z62), (0, .int y), (1, .int s0)]) (st' := [.int z62, .int y]) (h' := h) _ hn_281 hk_281_23 rfl ?_
                                refine AR.jle hk_281_24 (tgt := 31) (by decide) (fun p83 => ?_) (fun p84 => ?_)
                                · refine AR.bipushT hk_281_31 (by decide) (fun z66 ez66 => ?_)
                                  show AR _ _ _ _ _ _ _ 33 [(3, .int z63), (2, .int z62), (0, .int y), (1, .int s0)] [.int z66] h _ _
                                  refine AR.s (pc' := 34) (lv' := [(3, .int z63), (2, .int z62), (0, .int y), (1, .int s0)]) (st' := [.int z62, .int z66]) (h' := h) _ hn_281 hk_281_33 rfl ?_
                                  refine AR.mulA hk_281_34 (fun z67 ez67 => ?_)
                                  have v9 : z66.toInt * z62.toInt = -1000000000 := by rw [ez66, ep8]; rfl
                                  have ep9 : z67.toInt = -1000000000 := by rw [v9] at ez67; exact ez67 (by decide) (by decide)
                                  show AR _ _ _ _ _ _ _ 35 [(3, .int z63), (2, .int z62), (0, .int y), (1, .int s0)] [.int z67] h _ _
                                  refine AR.s (pc' := 36) (lv' := [(2, .int z67), (3, .int z63), (0, .int y), (1, .int s0)]) (st' := []) (h' := h) _ hn_281 hk_281_35 rfl ?_
                                  refine AR.iincT hk_281_36 (x := z63) rfl (by rw [hn_281]; decide) (by decide) (by omega) (by omega) (fun z68 ez68 => ?_)
                                  show AR _ _ _ _ _ _ _ 39 [(3, .int z68), (2, .int z67), (0, .int y), (1, .int s0)] [] h _ _
                                  refine AR.gotoT hk_281_39 (tgt := 16) (by decide) ?_
                                  refine AR.s (pc' := 17) (lv' := [(3, .int z68), (2, .int z67), (0, .int y), (1, .int s0)]) (st' := [.int z68]) (h' := h) _ hn_281 hk_281_16 rfl ?_
                                  refine AR.bipushT hk_281_17 (by decide) (fun z69 ez69 => ?_)
                                  show AR _ _ _ _ _ _ _ 19 [(3, .int z68), (2, .int z67), (0, .int y), (1, .int s0)] [.int z69, .int z68] h _ _
                                  refine AR.jge hk_281_19 (tgt := 42) (by decide) (fun p91 => ?_) (fun p92 => ?_)
                                  · exact absurd p91 (by omega)
                                  · refine AR.s (pc' := 23) (lv' := [(3, .int z68), (2, .int z67), (0, .int y), (1, .int s0)]) (st' := [.int y]) (h' := h) _ hn_281 hk_281_22 rfl ?_
                                    refine AR.s (pc' := 24) (lv' := [(3, .int z68), (2, .int z67), (0, .int y), (1, .int s0)]) (st' := [.int z67, .int y]) (h' := h) _ hn_281 hk_281_23 rfl ?_
                                    refine AR.jle hk_281_24 (tgt := 31) (by decide) (fun p93 => ?_) (fun p94 => ?_)
                                    · refine AR.bipushT hk_281_31 (by decide) (fun z71 ez71 => ?_)
                                      show AR _ _ _ _ _ _ _ 33 [(3, .int z68), (2, .int z67), (0, .int y), (1, .int s0)] [.int z71] h _ _
                                      refine AR.s (pc' := 34) (lv' := [(3, .int z68), (2, .int z67), (0, .int y), (1, .int s0)]) (st' := [.int z67, .int z71]) (h' := h) _ hn_281 hk_281_33 rfl ?_
                                      refine AR.mulA hk_281_34 (fun z72 ez72 => ?_)
                                      show AR _ _ _ _ _ _ _ 35 [(3, .int z68), (2, .int z67), (0, .int y), (1, .int s0)] [.int z72] h _ _
                                      refine AR.s (pc' := 36) (lv' := [(2, .int z72), (3, .int z68), (0, .int y), (1, .int s0)]) (st' := []) (h' := h) _ hn_281 hk_281_35 rfl ?_
                                      refine AR.iincT hk_281_36 (x := z68) rfl (by rw [hn_281]; decide) (by decide) (by omega) (by omega) (fun z73 ez73 => ?_)
                                      show AR _ _ _ _ _ _ _ 39 [(3, .int z73), (2, .int z72), (0, .int y), (1, .int s0)] [] h _ _
                                      refine AR.gotoT hk_281_39 (tgt := 16) (by decide) ?_
                                      refine AR.s (pc' := 17) (lv' := [(3, .int z73), (2, .int z72), (0, .int y), (1, .int s0)]) (st' := [.int z73]) (h' := h) _ hn_281 hk_281_16 rfl ?_
                                      refine AR.bipushT hk_281_17 (by decide) (fun z74 ez74 => ?_)
                                      show AR _ _ _ _ _ _ _ 19 [(3, .int z73), (2, .int z72), (0, .int y), (1, .int s0)] [.int z74, .int z73] h _ _
                                      refine AR.jge hk_281_19 (tgt := 42) (by decide) (fun p101 => ?_) (fun p102 => ?_)
                                      · refine AR.bipushT hk_281_42 (by decide) (fun z75 ez75 => ?_)
                                        show AR _ _ _ _ _ _ _ 44 [(3, .int z73), (2, .int z72), (0, .int y), (1, .int s0)] [.int z75] h _ _
                                        refine AR.s (pc' := 45) (lv' := [(3, .int z73), (2, .int z72), (0, .int y), (1, .int s0)]) (st' := [.int s0, .int z75]) (h' := h) _ hn_281 hk_281_44 rfl ?_
                                        refine AR.addT hk_281_45 (by omega) (by omega) (fun z76 ez76 => ?_)
                                        show AR _ _ _ _ _ _ _ 46 [(3, .int z73), (2, .int z72), (0, .int y), (1, .int s0)] [.int z76] h _ _
                                        exact AR.iret hk_281_46 hr_281 ⟨rfl, _, rfl, by rw [hd, hb_dg10 (by omega)]; omega⟩
                                      · exact absurd p102 (by omega)
                                    · refine AR.s (pc' := 28) (lv' := [(3, .int z68), (2, .int z67), (0, .int y), (1, .int s0)]) (st' := [.int z68]) (h' := h) _ hn_281 hk_281_27 rfl ?_
                                      refine AR.s (pc' := 29) (lv' := [(3, .int z68), (2, .int z67), (0, .int y), (1, .int s0)]) (st' := [.int s0, .int z68]) (h' := h) _ hn_281 hk_281_28 rfl ?_
                                      refine AR.addT hk_281_29 (by omega) (by omega) (fun z70 ez70 => ?_)
                                      show AR _ _ _ _ _ _ _ 30 [(3, .int z68), (2, .int z67), (0, .int y), (1, .int s0)] [.int z70] h _ _
                                      exact AR.iret hk_281_30 hr_281 ⟨rfl, _, rfl, by rw [hd, hb_dg9 (by omega) (by omega)]; omega⟩
                                · refine AR.s (pc' := 28) (lv' := [(3, .int z63), (2, .int z62), (0, .int y), (1, .int s0)]) (st' := [.int z63]) (h' := h) _ hn_281 hk_281_27 rfl ?_
                                  refine AR.s (pc' := 29) (lv' := [(3, .int z63), (2, .int z62), (0, .int y), (1, .int s0)]) (st' := [.int s0, .int z63]) (h' := h) _ hn_281 hk_281_28 rfl ?_
                                  refine AR.addT hk_281_29 (by omega) (by omega) (fun z65 ez65 => ?_)
                                  show AR _ _ _ _ _ _ _ 30 [(3, .int z63), (2, .int z62), (0, .int y), (1, .int s0)] [.int z65] h _ _
                                  exact AR.iret hk_281_30 hr_281 ⟨rfl, _, rfl, by rw [hd, hb_dg8 (by omega) (by omega)]; omega⟩
                            · refine AR.s (pc' := 28) (lv' := [(3, .int z58), (2, .int z57), (0, .int y), (1, .int s0)]) (st' := [.int z58]) (h' := h) _ hn_281 hk_281_27 rfl ?_
                              refine AR.s (pc' := 29) (lv' := [(3, .int z58), (2, .int z57), (0, .int y), (1, .int s0)]) (st' := [.int s0, .int z58]) (h' := h) _ hn_281 hk_281_28 rfl ?_
                              refine AR.addT hk_281_29 (by omega) (by omega) (fun z60 ez60 => ?_)
                              show AR _ _ _ _ _ _ _ 30 [(3, .int z58), (2, .int z57), (0, .int y), (1, .int s0)] [.int z60] h _ _
                              exact AR.iret hk_281_30 hr_281 ⟨rfl, _, rfl, by rw [hd, hb_dg7 (by omega) (by omega)]; omega⟩
                        · refine AR.s (pc' := 28) (lv' := [(3, .int z53), (2, .int z52), (0, .int y), (1, .int s0)]) (st' := [.int z53]) (h' := h) _ hn_281 hk_281_27 rfl ?_
                          refine AR.s (pc' := 29) (lv' := [(3, .int z53), (2, .int z52), (0, .int y), (1, .int s0)]) (st' := [.int s0, .int z53]) (h' := h) _ hn_281 hk_281_28 rfl ?_
                          refine AR.addT hk_281_29 (by omega) (by omega) (fun z55 ez55 => ?_)
                          show AR _ _ _ _ _ _ _ 30 [(3, .int z53), (2, .int z52), (0, .int y), (1, .int s0)] [.int z55] h _ _
                          exact AR.iret hk_281_30 hr_281 ⟨rfl, _, rfl, by rw [hd, hb_dg6 (by omega) (by omega)]; omega⟩
                    · refine AR.s (pc' := 28) (lv' := [(3, .int z48), (2, .int z47), (0, .int y), (1, .int s0)]) (st' := [.int z48]) (h' := h) _ hn_281 hk_281_27 rfl ?_
                      refine AR.s (pc' := 29) (lv' := [(3, .int z48), (2, .int z47), (0, .int y), (1, .int s0)]) (st' := [.int s0, .int z48]) (h' := h) _ hn_281 hk_281_28 rfl ?_
                      refine AR.addT hk_281_29 (by omega) (by omega) (fun z50 ez50 => ?_)
                      show AR _ _ _ _ _ _ _ 30 [(3, .int z48), (2, .int z47), (0, .int y), (1, .int s0)] [.int z50] h _ _
                      exact AR.iret hk_281_30 hr_281 ⟨rfl, _, rfl, by rw [hd, hb_dg5 (by omega) (by omega)]; omega⟩
                · refine AR.s (pc' := 28) (lv' := [(3, .int z43), (2, .int z42), (0, .int y), (1, .int s0)]) (st' := [.int z43]) (h' := h) _ hn_281 hk_281_27 rfl ?_
                  refine AR.s (pc' := 29) (lv' := [(3, .int z43), (2, .int z42), (0, .int y), (1, .int s0)]) (st' := [.int s0, .int z43]) (h' := h) _ hn_281 hk_281_28 rfl ?_
                  refine AR.addT hk_281_29 (by omega) (by omega) (fun z45 ez45 => ?_)
                  show AR _ _ _ _ _ _ _ 30 [(3, .int z43), (2, .int z42), (0, .int y), (1, .int s0)] [.int z45] h _ _
                  exact AR.iret hk_281_30 hr_281 ⟨rfl, _, rfl, by rw [hd, hb_dg4 (by omega) (by omega)]; omega⟩
            · refine AR.s (pc' := 28) (lv' := [(3, .int z38), (2, .int z37), (0, .int y), (1, .int s0)]) (st' := [.int z38]) (h' := h) _ hn_281 hk_281_27 rfl ?_
              refine AR.s (pc' := 29) (lv' := [(3, .int z38), (2, .int z37), (0, .int y), (1, .int s0)]) (st' := [.int s0, .int z38]) (h' := h) _ hn_281 hk_281_28 rfl ?_
              refine AR.addT hk_281_29 (by omega) (by omega) (fun z40 ez40 => ?_)
              show AR _ _ _ _ _ _ _ 30 [(3, .int z38), (2, .int z37), (0, .int y), (1, .int s0)] [.int z40] h _ _
              exact AR.iret hk_281_30 hr_281 ⟨rfl, _, rfl, by rw [hd, hb_dg3 (by omega) (by omega)]; omega⟩
        · refine AR.s (pc' := 28) (lv' := [(3, .int z33), (2, .int z32), (0, .int y), (1, .int s0)]) (st' := [.int z33]) (h' := h) _ hn_281 hk_281_27 rfl ?_
          refine AR.s (pc' := 29) (lv' := [(3, .int z33), (2, .int z32), (0, .int y), (1, .int s0)]) (st' := [.int s0, .int z33]) (h' := h) _ hn_281 hk_281_28 rfl ?_
          refine AR.addT hk_281_29 (by omega) (by omega) (fun z35 ez35 => ?_)
          show AR _ _ _ _ _ _ _ 30 [(3, .int z33), (2, .int z32), (0, .int y), (1, .int s0)] [.int z35] h _ _
          exact AR.iret hk_281_30 hr_281 ⟨rfl, _, rfl, by rw [hd, hb_dg2 (by omega) (by omega)]; omega⟩
    · refine AR.s (pc' := 28) (lv' := [(3, .int z28), (2, .int z27), (0, .int y), (1, .int s0)]) (st' := [.int z28]) (h' := h) _ hn_281 hk_281_27 rfl ?_
      refine AR.s (pc' := 29) (lv' := [(3, .int z28), (2, .int z27), (0, .int y), (1, .int s0)]) (st' := [.int s0, .int z28]) (h' := h) _ hn_281 hk_281_28 rfl ?_
      refine AR.addT hk_281_29 (by omega) (by omega) (fun z30 ez30 => ?_)
      show AR _ _ _ _ _ _ _ 30 [(3, .int z28), (2, .int z27), (0, .int y), (1, .int s0)] [.int z30] h _ _
      exact AR.iret hk_281_30 hr_281 ⟨rfl, _, rfl, by rw [hd, hb_dg1 (by omega)]; omega⟩
theorem hj_ss (hlst : l.stackTraces = false)  : AM ax_ns l (ax_mm 281) 0 ty_R (0) (0) [.int x] h (hq_int h (hb_sz x.toInt)) := by
  refine AM.of (ax_mfacts (by decide +kernel : ax_has 281 = true)).2.2.2.2.2.2 hlst (by rw [hn_281]; exact Nat.le_of_ble_eq_true rfl) ?_
  show AR ax_ns l (ax_mm 281) 0 ty_R _ _ 0 [(0, .int x)] [] h (0) (0)
  have x1 := Int32.le_toInt x
  have x2 := Int32.toInt_lt x
  refine AR.iconstT hk_281_0 (by decide) (fun z77 ez77 => ?_)
  show AR _ _ _ _ _ _ _ 1 [(0, .int x)] [.int z77] h _ _
  refine AR.s (pc' := 2) (lv' := [(1, .int z77), (0, .int x)]) (st' := []) (h' := h) _ hn_281 hk_281_1 rfl ?_
  refine AR.s (pc' := 3) (lv' := [(1, .int z77), (0, .int x)]) (st' := [.int x]) (h' := h) _ hn_281 hk_281_2 rfl ?_
  refine AR.zlt hk_281_3 (tgt := 11) (by decide) (fun p1 => ?_) (fun p2 => ?_)
  · refine AR.lessL (lv' := [(0, .int x), (1, .int z77)]) (List.forall_mem_cons.mpr ⟨⟨_, by simp, ax_le_rfl rfl⟩, (List.forall_mem_cons.mpr ⟨⟨_, by simp, ax_le_rfl rfl⟩, (fun _ h => absurd h List.not_mem_nil)⟩)⟩) ?_
    have g1 : hb_ab x.toInt = -x.toInt := if_pos p1
    have g2 : hb_sg x.toInt = 1 := if_pos p1
    exact hj_ssL hlst x z77 _ (by omega) (by omega) (by omega) (by omega)
  · refine AR.iconstT hk_281_6 (by decide) (fun z78 ez78 => ?_)
    show AR _ _ _ _ _ _ _ 7 [(1, .int z77), (0, .int x)] [.int z78] h _ _
    refine AR.s (pc' := 8) (lv' := [(1, .int z78), (0, .int x)]) (st' := []) (h' := h) _ hn_281 hk_281_7 rfl ?_
    refine AR.s (pc' := 9) (lv' := [(1, .int z78), (0, .int x)]) (st' := [.int x]) (h' := h) _ hn_281 hk_281_8 rfl ?_
    refine AR.negT hk_281_9 (by omega) (fun z79 ez79 => ?_)
    show AR _ _ _ _ _ _ _ 10 [(1, .int z78), (0, .int x)] [.int z79] h _ _
    refine AR.s (pc' := 11) (lv' := [(0, .int z79), (1, .int z78)]) (st' := []) (h' := h) _ hn_281 hk_281_10 rfl ?_
    refine AR.lessL (lv' := [(0, .int z79), (1, .int z78)]) (List.forall_mem_cons.mpr ⟨⟨_, by simp, ax_le_rfl rfl⟩, (List.forall_mem_cons.mpr ⟨⟨_, by simp, ax_le_rfl rfl⟩, (fun _ h => absurd h List.not_mem_nil)⟩)⟩) ?_
    have g1 : hb_ab x.toInt = x.toInt := if_neg (by omega)
    have g2 : hb_sg x.toInt = 0 := if_neg (by omega)
    exact hj_ssL hlst z79 z78 _ (by omega) (by omega) (by omega) (by omega)
def hb_us (L : Nat) (us : List Value) : Prop := us.length = L ∧ ∀ x ∈ us, hj_by x
theorem hj_gd {L : List Int32} (h : ∀ x ∈ L, -128 ≤ x.toInt ∧ x.toInt ≤ 127) (q : Nat) : hj_by (.int (L.getD q 0)) := by
  refine ⟨_, rfl, ?_⟩
  rw [List.getD_eq_getElem?_getD]
  cases e : L[q]? with
  | none => decide
  | some x => exact h x (List.mem_of_getElem? e)
theorem hj_d1 (q : Nat) : hj_by (.int (ax_dg1.getD q 0)) := hj_gd (by decide +kernel) q
theorem hj_d2 (q : Nat) : hj_by (.int (ax_dg2.getD q 0)) := hj_gd (by decide +kernel) q
theorem hb_set0 {c : Nat × List Value} (e : h[k]? = some c) : h.set k c = h := List.ext_getElem? (fun j => by
  by_cases e1 : k = j
  · subst e1
    rw [List.getElem?_set_self (List.getElem?_eq_some_iff.mp e).1, e]
  · rw [List.getElem?_set_ne e1])
theorem hb_td {y : Int} (h : y ≤ 0) : y.tdiv 100 = -((-y) / 100) := by
  have e : y = -(-y) := by omega
  rw [e, Int.neg_tdiv, Int.tdiv_eq_ediv_of_nonneg (by omega)]
  omega
section HJ4
variable {d i pc ix : Nat} {P : ax_P} {X : ax_PX} {lv : List (Nat × Value)} {st : List Value} {bc bs' : Nat} {v : Value} {ws : List Nat} {w : Nat × Nat × Nat}
theorem AR.bs2 {us : List Value} {L : Nat} {y z : Int32} (hl : ax_look i pc = some (.bastore, w, v, ws)) (hk : k < 1000000000) (hg : h[k]? = some (103, bs)) (hu : hb_us L us) (h0 : 0 ≤ y.toInt) (h1 : y.toInt < L) (hz : hj_by (.int z)) (K : ∀ us', hb_us L us' → AR ax_ns l (ax_mm i) d ty_R P X (pc + 1) lv st (h.set k (103, us')) bc bs') : AR ax_ns l (ax_mm i) d ty_R P X pc lv (.int z :: .int y :: .ref k :: st) (h.set k (103, us)) bc bs' := by
  refine AR.bsT hl hk (List.getElem?_set_self (List.getElem?_eq_some_iff.mp hg).1) h0 (by rw [hu.1]; exact h1) hz ?_
  rw [List.set_set]
  exact K _ ⟨by rw [List.length_set]; exact hu.1, hb_mem hu.2 hz⟩
theorem AR.dg1 (hl : ax_look i pc = some (.getstatic ix, w, v, ws)) (hw : Cond.fieldLink (ax_mm i).1.cls ix "java/lang/Integer" "DigitOnes" "[B" ∈ ax_tb) (K : AR ax_ns l (ax_mm i) d ty_R P X (pc + 3) lv (.ref (1000000000 + 6) :: st) h bc bs') : AR ax_ns l (ax_mm i) d ty_R P X pc lv st h bc bs' :=
  AR.gets (x := .ref (1000000000 + 6)) (ax_look_ok hl).1 hw (fun b o U hJ => ⟨.ref (o 6), by rw [ax_v, ax_ad_j (by decide)], hJ.2.2.1.1⟩) K
theorem AR.dg2 (hl : ax_look i pc = some (.getstatic ix, w, v, ws)) (hw : Cond.fieldLink (ax_mm i).1.cls ix "java/lang/Integer" "DigitTens" "[B" ∈ ax_tb) (K : AR ax_ns l (ax_mm i) d ty_R P X (pc + 3) lv (.ref (1000000000 + 7) :: st) h bc bs') : AR ax_ns l (ax_mm i) d ty_R P X pc lv st h bc bs' :=
  AR.gets (x := .ref (1000000000 + 7)) (ax_look_ok hl).1 hw (fun b o U hJ => ⟨.ref (o 7), by rw [ax_v, ax_ad_j (by decide)], hJ.2.2.2.1.1⟩) K
theorem AR.dl1 {y : Int32} (hl : ax_look i pc = some (.baload, w, v, ws)) (h0 : 0 ≤ y.toInt) (h1 : y.toInt < 100) (K : ∀ z, hj_by (.int z) → AR ax_ns l (ax_mm i) d ty_R P X (pc + 1) lv (.int z :: st) h bc bs') : AR ax_ns l (ax_mm i) d ty_R P X pc lv (.int y :: .ref (1000000000 + 6) :: st) h bc bs' :=
  AR.jald (j := 6) (n := 100) (f := fun q => ax_dg1.getD q 0) (ax_look_ok hl).1 (by decide) (fun b o U hJ => hJ.2.2.1.2) (hj_nn h0).1 (by show y.toInt.toNat < 100; omega) (K _ (hj_d1 _))
theorem AR.dl2 {y : Int32} (hl : ax_look i pc = some (.baload, w, v, ws)) (h0 : 0 ≤ y.toInt) (h1 : y.toInt < 100) (K : ∀ z, hj_by (.int z) → AR ax_ns l (ax_mm i) d ty_R P X (pc + 1) lv (.int z :: st) h bc bs') : AR ax_ns l (ax_mm i) d ty_R P X pc lv (.int y :: .ref (1000000000 + 7) :: st) h bc bs' :=
  AR.jald (j := 7) (n := 100) (f := fun q => ax_dg2.getD q 0) (ax_look_ok hl).1 (by decide) (fun b o U hJ => hJ.2.2.2.1.2) (hj_nn h0).1 (by show y.toInt.toNat < 100; omega) (K _ (hj_d2 _))
end HJ4
def hq_gc (h : ax_H) (k L : Nat) : ax_Q := fun res h' => ∃ (z : Int32) (us : List Value), res = .inl (some (.int z)) ∧ hb_us L us ∧ h' = h.set k (103, us)
theorem hj_gcE {X : ax_PX} {L : Nat} (hk : k < 1000000000) (hg : h[k]? = some (103, bs)) (hL : L ≤ 2000) (s : Int32) (hs : s.toInt = 0 ∨ s.toInt = 1) (q : Int32) (us : List Value) (hu : hb_us L us) (hq : s.toInt ≤ q.toInt) (hq2 : q.toInt ≤ L) : AR ax_ns l (ax_mm 282) 0 ty_R (ax_ret ax_ns (ax_mm 282) (hq_gc h k L)) X 104 [(6, .int s), (5, .int q), (2, .ref k)] [] (h.set k (103, us)) 0 0 := by
  show AR _ _ _ _ _ _ _ 104 [(6, .int s), (5, .int q), (2, .ref k)] [] (h.set k (103, us)) _ _
  refine AR.s (pc' := 106) (lv' := [(6, .int s), (5, .int q), (2, .ref k)]) (st' := [.int s]) (h' := (h.set k (103, us))) _ hn_282 hk_282_104 rfl ?_
  refine AR.zeq hk_282_106 (tgt := 118) (by decide) (fun p1 => ?_) (fun p2 => ?_)
  · refine AR.s (pc' := 120) (lv' := [(6, .int s), (5, .int q), (2, .ref k)]) (st' := [.int q]) (h' := (h.set k (103, us))) _ hn_282 hk_282_118 rfl ?_
    exact AR.iret hk_282_120 hr_282 ⟨_, us, rfl, hu, rfl⟩
  · refine AR.s (pc' := 110) (lv' := [(6, .int s), (5, .int q), (2, .ref k)]) (st' := [.ref k]) (h' := (h.set k (103, us))) _ hn_282 hk_282_109 rfl ?_
    refine AR.iincT hk_282_110 (x := q) rfl (by rw [hn_282]; decide) (by decide) (by omega) (by omega) (fun z80 ez80 => ?_)
    show AR _ _ _ _ _ _ _ 113 [(5, .int z80), (6, .int s), (2, .ref k)] [.ref k] (h.set k (103, us)) _ _
    refine AR.s (pc' := 115) (lv' := [(5, .int z80), (6, .int s), (2, .ref k)]) (st' := [.int z80, .ref k]) (h' := (h.set k (103, us))) _ hn_282 hk_282_113 rfl ?_
    refine AR.bipushT hk_282_115 (by decide) (fun z81 ez81 => ?_)
    show AR _ _ _ _ _ _ _ 117 [(5, .int z80), (6, .int s), (2, .ref k)] [.int z81, .int z80, .ref k] (h.set k (103, us)) _ _
    refine AR.bs2 hk_282_117 hk hg hu (by omega) (by omega) ⟨_, rfl, by omega, by omega⟩ (fun us82 hus82 => ?_)
    show AR _ _ _ _ _ _ _ 118 [(5, .int z80), (6, .int s), (2, .ref k)] [] (h.set k (103, us82)) _ _
    refine AR.s (pc' := 120) (lv' := [(5, .int z80), (6, .int s), (2, .ref k)]) (st' := [.int z80]) (h' := (h.set k (103, us82))) _ hn_282 hk_282_118 rfl ?_
    exact AR.iret hk_282_120 hr_282 ⟨_, _, rfl, hus82, rfl⟩
theorem hj_gcT {X : ax_PX} {L : Nat} (hk : k < 1000000000) (hg : h[k]? = some (103, bs)) (hL : L ≤ 2000) (s : Int32) (hs : s.toInt = 0 ∨ s.toInt = 1) (c : Nat) (y q : Int32) (us : List Value) (hu : hb_us L us) (hy0 : y.toInt ≤ 0) (hy1 : -100 < y.toInt) (hy2 : -hb_p c < y.toInt) (hc : 1 ≤ c) (hq : c + s.toInt ≤ q.toInt) (hq2 : q.toInt ≤ L) : AR ax_ns l (ax_mm 282) 0 ty_R (ax_ret ax_ns (ax_mm 282) (hq_gc h k L)) X 72 [(0, .int y), (6, .int s), (5, .int q), (2, .ref k)] [] (h.set k (103, us)) 0 0 := by
  have hc1 : c = 1 → hb_p c = 10 := fun e => by rw [e]; rfl
  show AR _ _ _ _ _ _ _ 72 [(0, .int y), (6, .int s), (5, .int q), (2, .ref k)] [] (h.set k (103, us)) _ _
  refine AR.s (pc' := 73) (lv' := [(0, .int y), (6, .int s), (5, .int q), (2, .ref k)]) (st' := [.ref k]) (h' := (h.set k (103, us))) _ hn_282 hk_282_72 rfl ?_
  refine AR.iincT hk_282_73 (x := q) rfl (by rw [hn_282]; decide) (by decide) (by omega) (by omega) (fun z83 ez83 => ?_)
  show AR _ _ _ _ _ _ _ 76 [(5, .int z83), (0, .int y), (6, .int s), (2, .ref k)] [.ref k] (h.set k (103, us)) _ _
  refine AR.s (pc' := 78) (lv' := [(5, .int z83), (0, .int y), (6, .int s), (2, .ref k)]) (st' := [.int z83, .ref k]) (h' := (h.set k (103, us))) _ hn_282 hk_282_76 rfl ?_
  refine AR.dg1 hk_282_78 (ax_wk_mem (ix := 4139) (by decide +kernel)) ?_
  show AR _ _ _ _ _ _ _ 81 [(5, .int z83), (0, .int y), (6, .int s), (2, .ref k)] [.ref (1000000000 + 6), .int z83, .ref k] (h.set k (103, us)) _ _
  refine AR.s (pc' := 82) (lv' := [(5, .int z83), (0, .int y), (6, .int s), (2, .ref k)]) (st' := [.int y, .ref (1000000000 + 6), .int z83, .ref k]) (h' := (h.set k (103, us))) _ hn_282 hk_282_81 rfl ?_
  refine AR.negT hk_282_82 (by omega) (fun z84 ez84 => ?_)
  show AR _ _ _ _ _ _ _ 83 [(5, .int z83), (0, .int y), (6, .int s), (2, .ref k)] [.int z84, .ref (1000000000 + 6), .int z83, .ref k] (h.set k (103, us)) _ _
  refine AR.dl1 hk_282_83 (by omega) (by omega) (fun z85 ez85 => ?_)
  show AR _ _ _ _ _ _ _ 84 [(5, .int z83), (0, .int y), (6, .int s), (2, .ref k)] [.int z85, .int z83, .ref k] (h.set k (103, us)) _ _
  refine AR.bs2 hk_282_84 hk hg hu (by omega) (by omega) ez85 (fun us86 hus86 => ?_)
  show AR _ _ _ _ _ _ _ 85 [(5, .int z83), (0, .int y), (6, .int s), (2, .ref k)] [] (h.set k (103, us86)) _ _
  refine AR.s (pc' := 86) (lv' := [(5, .int z83), (0, .int y), (6, .int s), (2, .ref k)]) (st' := [.int y]) (h' := (h.set k (103, us86))) _ hn_282 hk_282_85 rfl ?_
  refine AR.bipushT hk_282_86 (by decide) (fun z87 ez87 => ?_)
  show AR _ _ _ _ _ _ _ 88 [(5, .int z83), (0, .int y), (6, .int s), (2, .ref k)] [.int z87, .int y] (h.set k (103, us86)) _ _
  refine AR.jge hk_282_88 (tgt := 104) (by decide) (fun p1 => ?_) (fun p2 => ?_)
  · refine AR.lessL (lv' := [(6, .int s), (5, .int z83), (2, .ref k)]) (List.forall_mem_cons.mpr ⟨⟨_, by simp, ax_le_rfl rfl⟩, (List.forall_mem_cons.mpr ⟨⟨_, by simp, ax_le_rfl rfl⟩, (List.forall_mem_cons.mpr ⟨⟨_, by simp, ax_le_rfl rfl⟩, (fun _ h => absurd h List.not_mem_nil)⟩)⟩)⟩) ?_
    exact hj_gcE hk hg hL s hs _ _ hus86 (by omega) (by omega)
  · refine AR.s (pc' := 92) (lv' := [(5, .int z83), (0, .int y), (6, .int s), (2, .ref k)]) (st' := [.ref k]) (h' := (h.set k (103, us86))) _ hn_282 hk_282_91 rfl ?_
    refine AR.iincT hk_282_92 (x := z83) rfl (by rw [hn_282]; decide) (by decide) (by omega) (by omega) (fun z88 ez88 => ?_)
    show AR _ _ _ _ _ _ _ 95 [(5, .int z88), (0, .int y), (6, .int s), (2, .ref k)] [.ref k] (h.set k (103, us86)) _ _
    refine AR.s (pc' := 97) (lv' := [(5, .int z88), (0, .int y), (6, .int s), (2, .ref k)]) (st' := [.int z88, .ref k]) (h' := (h.set k (103, us86))) _ hn_282 hk_282_95 rfl ?_
    refine AR.dg2 hk_282_97 (ax_wk_mem (ix := 4141) (by decide +kernel)) ?_
    show AR _ _ _ _ _ _ _ 100 [(5, .int z88), (0, .int y), (6, .int s), (2, .ref k)] [.ref (1000000000 + 7), .int z88, .ref k] (h.set k (103, us86)) _ _
    refine AR.s (pc' := 101) (lv' := [(5, .int z88), (0, .int y), (6, .int s), (2, .ref k)]) (st' := [.int y, .ref (1000000000 + 7), .int z88, .ref k]) (h' := (h.set k (103, us86))) _ hn_282 hk_282_100 rfl ?_
    refine AR.negT hk_282_101 (by omega) (fun z89 ez89 => ?_)
    show AR _ _ _ _ _ _ _ 102 [(5, .int z88), (0, .int y), (6, .int s), (2, .ref k)] [.int z89, .ref (1000000000 + 7), .int z88, .ref k] (h.set k (103, us86)) _ _
    refine AR.dl2 hk_282_102 (by omega) (by omega) (fun z90 ez90 => ?_)
    show AR _ _ _ _ _ _ _ 103 [(5, .int z88), (0, .int y), (6, .int s), (2, .ref k)] [.int z90, .int z88, .ref k] (h.set k (103, us86)) _ _
    refine AR.bs2 hk_282_103 hk hg hus86 (by omega) (by omega) ez90 (fun us91 hus91 => ?_)
    show AR _ _ _ _ _ _ _ 104 [(5, .int z88), (0, .int y), (6, .int s), (2, .ref k)] [] (h.set k (103, us91)) _ _
    refine AR.lessL (lv' := [(6, .int s), (5, .int z88), (2, .ref k)]) (List.forall_mem_cons.mpr ⟨⟨_, by simp, ax_le_rfl rfl⟩, (List.forall_mem_cons.mpr ⟨⟨_, by simp, ax_le_rfl rfl⟩, (List.forall_mem_cons.mpr ⟨⟨_, by simp, ax_le_rfl rfl⟩, (fun _ h => absurd h List.not_mem_nil)⟩)⟩)⟩) ?_
    exact hj_gcE hk hg hL s hs _ _ hus91 (by omega) (by omega)
theorem hj_gcL {X : ax_PX} {L : Nat} (hk : k < 1000000000) (hg : h[k]? = some (103, bs)) (hL : L ≤ 2000) (s : Int32) (hs : s.toInt = 0 ∨ s.toInt = 1) : ∀ (m c : Nat), c ≤ m → ∀ (y q : Int32) (us : List Value), hb_us L us → y.toInt ≤ 0 → -hb_p c < y.toInt → 1 ≤ c → c + s.toInt ≤ q.toInt → q.toInt ≤ L → AR ax_ns l (ax_mm 282) 0 ty_R (ax_ret ax_ns (ax_mm 282) (hq_gc h k L)) X 22 [(0, .int y), (6, .int s), (5, .int q), (2, .ref k)] [] (h.set k (103, us)) 0 0 := by
  intro m
  induction m with
  | zero => intro c hm; omega
  | succ m ih =>
    intro c hm y q us hu hy0 hy2 hc hq hq2
    have hyl := Int32.le_toInt y
    have hc1 : c = 1 → hb_p c = 10 := fun e => by rw [e]; rfl
    have hc2 : c = 2 → hb_p c = 100 := fun e => by rw [e]; rfl
    show AR _ _ _ _ _ _ _ 22 [(0, .int y), (6, .int s), (5, .int q), (2, .ref k)] [] (h.set k (103, us)) _ _
    refine AR.s (pc' := 23) (lv' := [(0, .int y), (6, .int s), (5, .int q), (2, .ref k)]) (st' := [.int y]) (h' := (h.set k (103, us))) _ hn_282 hk_282_22 rfl ?_
    refine AR.bipushT hk_282_23 (by decide) (fun z92 ez92 => ?_)
    show AR _ _ _ _ _ _ _ 25 [(0, .int y), (6, .int s), (5, .int q), (2, .ref k)] [.int z92, .int y] (h.set k (103, us)) _ _
    refine AR.jgt hk_282_25 (tgt := 72) (by decide) (fun p1 => ?_) (fun p2 => ?_)
    · exact hj_gcT hk hg hL s hs c y q us hu hy0 (by omega) hy2 hc hq hq2
    · obtain ⟨c2, rfl⟩ : ∃ c2, c = c2 + 2 := ⟨c - 2, by omega⟩
      have hp : hb_p (c2 + 2) = 10 * (10 * hb_p c2) := rfl
      show AR _ _ _ _ _ _ _ 28 [(0, .int y), (6, .int s), (5, .int q), (2, .ref k)] [] (h.set k (103, us)) _ _
      refine AR.s (pc' := 29) (lv' := [(0, .int y), (6, .int s), (5, .int q), (2, .ref k)]) (st' := [.int y]) (h' := (h.set k (103, us))) _ hn_282 hk_282_28 rfl ?_
      refine AR.bipushT hk_282_29 (by decide) (fun z93 ez93 => ?_)
      show AR _ _ _ _ _ _ _ 31 [(0, .int y), (6, .int s), (5, .int q), (2, .ref k)] [.int z93, .int y] (h.set k (103, us)) _ _
      refine AR.div100 hk_282_31 ez93 (fun z94 ez94 => ?_)
      rw [hb_td hy0] at ez94
      show AR _ _ _ _ _ _ _ 32 [(0, .int y), (6, .int s), (5, .int q), (2, .ref k)] [.int z94] (h.set k (103, us)) _ _
      refine AR.s (pc' := 33) (lv' := [(3, .int z94), (0, .int y), (6, .int s), (5, .int q), (2, .ref k)]) (st' := []) (h' := (h.set k (103, us))) _ hn_282 hk_282_32 rfl ?_
      refine AR.s (pc' := 34) (lv' := [(3, .int z94), (0, .int y), (6, .int s), (5, .int q), (2, .ref k)]) (st' := [.int z94]) (h' := (h.set k (103, us))) _ hn_282 hk_282_33 rfl ?_
      refine AR.bipushT hk_282_34 (by decide) (fun z95 ez95 => ?_)
      show AR _ _ _ _ _ _ _ 36 [(3, .int z94), (0, .int y), (6, .int s), (5, .int q), (2, .ref k)] [.int z95, .int z94] (h.set k (103, us)) _ _
      have hm1 : z94.toInt * z95.toInt = z94.toInt * 100 := by rw [ez95]
      refine AR.mulT hk_282_36 (by rw [hm1]; omega) (by rw [hm1]; omega) (fun z96 ez96 => ?_)
      rw [hm1] at ez96
      show AR _ _ _ _ _ _ _ 37 [(3, .int z94), (0, .int y), (6, .int s), (5, .int q), (2, .ref k)] [.int z96] (h.set k (103, us)) _ _
      refine AR.s (pc' := 38) (lv' := [(3, .int z94), (0, .int y), (6, .int s), (5, .int q), (2, .ref k)]) (st' := [.int y, .int z96]) (h' := (h.set k (103, us))) _ hn_282 hk_282_37 rfl ?_
      refine AR.subT hk_282_38 (by omega) (by omega) (fun z97 ez97 => ?_)
      show AR _ _ _ _ _ _ _ 39 [(3, .int z94), (0, .int y), (6, .int s), (5, .int q), (2, .ref k)] [.int z97] (h.set k (103, us)) _ _
      refine AR.s (pc' := 41) (lv' := [(4, .int z97), (3, .int z94), (0, .int y), (6, .int s), (5, .int q), (2, .ref k)]) (st' := []) (h' := (h.set k (103, us))) _ hn_282 hk_282_39 rfl ?_
      refine AR.s (pc' := 42) (lv' := [(4, .int z97), (3, .int z94), (0, .int y), (6, .int s), (5, .int q), (2, .ref k)]) (st' := [.int z94]) (h' := (h.set k (103, us))) _ hn_282 hk_282_41 rfl ?_
      refine AR.s (pc' := 43) (lv' := [(0, .int z94), (4, .int z97), (3, .int z94), (6, .int s), (5, .int q), (2, .ref k)]) (st' := []) (h' := (h.set k (103, us))) _ hn_282 hk_282_42 rfl ?_
      refine AR.s (pc' := 44) (lv' := [(0, .int z94), (4, .int z97), (3, .int z94), (6, .int s), (5, .int q), (2, .ref k)]) (st' := [.ref k]) (h' := (h.set k (103, us))) _ hn_282 hk_282_43 rfl ?_
      refine AR.iincT hk_282_44 (x := q) rfl (by rw [hn_282]; decide) (by decide) (by omega) (by omega) (fun z98 ez98 => ?_)
      show AR _ _ _ _ _ _ _ 47 [(5, .int z98), (0, .int z94), (4, .int z97), (3, .int z94), (6, .int s), (2, .ref k)] [.ref k] (h.set k (103, us)) _ _
      refine AR.s (pc' := 49) (lv' := [(5, .int z98), (0, .int z94), (4, .int z97), (3, .int z94), (6, .int s), (2, .ref k)]) (st' := [.int z98, .ref k]) (h' := (h.set k (103, us))) _ hn_282 hk_282_47 rfl ?_
      refine AR.dg1 hk_282_49 (ax_wk_mem (ix := 4139) (by decide +kernel)) ?_
      show AR _ _ _ _ _ _ _ 52 [(5, .int z98), (0, .int z94), (4, .int z97), (3, .int z94), (6, .int s), (2, .ref k)] [.ref (1000000000 + 6), .int z98, .ref k] (h.set k (103, us)) _ _
      refine AR.s (pc' := 54) (lv' := [(5, .int z98), (0, .int z94), (4, .int z97), (3, .int z94), (6, .int s), (2, .ref k)]) (st' := [.int z97, .ref (1000000000 + 6), .int z98, .ref k]) (h' := (h.set k (103, us))) _ hn_282 hk_282_52 rfl ?_
      refine AR.dl1 hk_282_54 (by omega) (by omega) (fun z99 ez99 => ?_)
      show AR _ _ _ _ _ _ _ 55 [(5, .int z98), (0, .int z94), (4, .int z97), (3, .int z94), (6, .int s), (2, .ref k)] [.int z99, .int z98, .ref k] (h.set k (103, us)) _ _
      refine AR.bs2 hk_282_55 hk hg hu (by omega) (by omega) ez99 (fun us100 hus100 => ?_)
      show AR _ _ _ _ _ _ _ 56 [(5, .int z98), (0, .int z94), (4, .int z97), (3, .int z94), (6, .int s), (2, .ref k)] [] (h.set k (103, us100)) _ _
      refine AR.s (pc' := 57) (lv' := [(5, .int z98), (0, .int z94), (4, .int z97), (3, .int z94), (6, .int s), (2, .ref k)]) (st' := [.ref k]) (h' := (h.set k (103, us100))) _ hn_282 hk_282_56 rfl ?_
      refine AR.iincT hk_282_57 (x := z98) rfl (by rw [hn_282]; decide) (by decide) (by omega) (by omega) (fun z101 ez101 => ?_)
      show AR _ _ _ _ _ _ _ 60 [(5, .int z101), (0, .int z94), (4, .int z97), (3, .int z94), (6, .int s), (2, .ref k)] [.ref k] (h.set k (103, us100)) _ _
      refine AR.s (pc' := 62) (lv' := [(5, .int z101), (0, .int z94), (4, .int z97), (3, .int z94), (6, .int s), (2, .ref k)]) (st' := [.int z101, .ref k]) (h' := (h.set k (103, us100))) _ hn_282 hk_282_60 rfl ?_
      refine AR.dg2 hk_282_62 (ax_wk_mem (ix := 4141) (by decide +kernel)) ?_
      show AR _ _ _ _ _ _ _ 65 [(5, .int z101), (0, .int z94), (4, .int z97), (3, .int z94), (6, .int s), (2, .ref k)] [.ref (1000000000 + 7), .int z101, .ref k] (h.set k (103, us100)) _ _
      refine AR.s (pc' := 67) (lv' := [(5, .int z101), (0, .int z94), (4, .int z97), (3, .int z94), (6, .int s), (2, .ref k)]) (st' := [.int z97, .ref (1000000000 + 7), .int z101, .ref k]) (h' := (h.set k (103, us100))) _ hn_282 hk_282_65 rfl ?_
      refine AR.dl2 hk_282_67 (by omega) (by omega) (fun z102 ez102 => ?_)
      show AR _ _ _ _ _ _ _ 68 [(5, .int z101), (0, .int z94), (4, .int z97), (3, .int z94), (6, .int s), (2, .ref k)] [.int z102, .int z101, .ref k] (h.set k (103, us100)) _ _
      refine AR.bs2 hk_282_68 hk hg hus100 (by omega) (by omega) ez102 (fun us103 hus103 => ?_)
      show AR _ _ _ _ _ _ _ 69 [(5, .int z101), (0, .int z94), (4, .int z97), (3, .int z94), (6, .int s), (2, .ref k)] [] (h.set k (103, us103)) _ _
      refine AR.gotoT hk_282_69 (tgt := 22) (by decide) ?_
      refine AR.lessL (lv' := [(0, .int z94), (6, .int s), (5, .int z101), (2, .ref k)]) (List.forall_mem_cons.mpr ⟨⟨_, by simp, ax_le_rfl rfl⟩, (List.forall_mem_cons.mpr ⟨⟨_, by simp, ax_le_rfl rfl⟩, (List.forall_mem_cons.mpr ⟨⟨_, by simp, ax_le_rfl rfl⟩, (List.forall_mem_cons.mpr ⟨⟨_, by simp, ax_le_rfl rfl⟩, (fun _ h => absurd h List.not_mem_nil)⟩)⟩)⟩)⟩) ?_
      exact ih c2 (by omega) _ _ _ hus103 (by omega) (by omega) (by omega) (by omega) (by omega)
theorem hj_gc (hlst : l.stackTraces = false) {c : Nat} (hk : k < 1000000000) (hg : h[k]? = some (103, bs)) (hby : ∀ x ∈ bs, hj_by x) (hbl : bs.length ≤ 2000) (hx : hb_ab x.toInt < hb_p c) (hc : 1 ≤ c) (hq : c + hb_sg x.toInt ≤ q.toInt) (hq2 : q.toInt ≤ bs.length) : AM ax_ns l (ax_mm 282) 0 ty_R (0) (0) [.int x, .int q, .ref k] h (hq_gc h k bs.length) := by
  refine AM.of (ax_mfacts (by decide +kernel : ax_has 282 = true)).2.2.2.2.2.2 hlst (by rw [hn_282]; exact Nat.le_of_ble_eq_true rfl) ?_
  show AR ax_ns l (ax_mm 282) 0 ty_R _ _ 0 [(0, .int x), (1, .int q), (2, .ref k)] [] h (0) (0)
  have x1 := Int32.le_toInt x
  have x2 := Int32.toInt_lt x
  refine AR.s (pc' := 1) (lv' := [(0, .int x), (1, .int q), (2, .ref k)]) (st' := [.int q]) (h' := h) _ hn_282 hk_282_0 rfl ?_
  refine AR.s (pc' := 3) (lv' := [(5, .int q), (0, .int x), (1, .int q), (2, .ref k)]) (st' := []) (h' := h) _ hn_282 hk_282_1 rfl ?_
  refine AR.s (pc' := 4) (lv' := [(5, .int q), (0, .int x), (1, .int q), (2, .ref k)]) (st' := [.int x]) (h' := h) _ hn_282 hk_282_3 rfl ?_
  refine AR.zge hk_282_4 (tgt := 11) (by decide) (fun p1 => ?_) (fun p2 => ?_)
  · have g1 : hb_ab x.toInt = x.toInt := if_neg (by omega)
    have g2 : hb_sg x.toInt = 0 := if_neg (by omega)
    show AR _ _ _ _ _ _ _ 11 [(5, .int q), (0, .int x), (1, .int q), (2, .ref k)] [] h _ _
    refine AR.iconstT hk_282_11 (by decide) (fun z104 ez104 => ?_)
    show AR _ _ _ _ _ _ _ 12 [(5, .int q), (0, .int x), (1, .int q), (2, .ref k)] [.int z104] h _ _
    refine AR.s (pc' := 14) (lv' := [(6, .int z104), (5, .int q), (0, .int x), (1, .int q), (2, .ref k)]) (st' := []) (h' := h) _ hn_282 hk_282_12 rfl ?_
    refine AR.s (pc' := 16) (lv' := [(6, .int z104), (5, .int q), (0, .int x), (1, .int q), (2, .ref k)]) (st' := [.int z104]) (h' := h) _ hn_282 hk_282_14 rfl ?_
    refine AR.zne hk_282_16 (tgt := 22) (by decide) (fun p3 => ?_) (fun p4 => ?_)
    · exact absurd p3 (by omega)
    · refine AR.s (pc' := 20) (lv' := [(6, .int z104), (5, .int q), (0, .int x), (1, .int q), (2, .ref k)]) (st' := [.int x]) (h' := h) _ hn_282 hk_282_19 rfl ?_
      refine AR.negT hk_282_20 (by omega) (fun z105 ez105 => ?_)
      show AR _ _ _ _ _ _ _ 21 [(6, .int z104), (5, .int q), (0, .int x), (1, .int q), (2, .ref k)] [.int z105] h _ _
      refine AR.s (pc' := 22) (lv' := [(0, .int z105), (6, .int z104), (5, .int q), (1, .int q), (2, .ref k)]) (st' := []) (h' := h) _ hn_282 hk_282_21 rfl ?_
      refine AR.lessL (lv' := [(0, .int z105), (6, .int z104), (5, .int q), (2, .ref k)]) (List.forall_mem_cons.mpr ⟨⟨_, by simp, ax_le_rfl rfl⟩, (List.forall_mem_cons.mpr ⟨⟨_, by simp, ax_le_rfl rfl⟩, (List.forall_mem_cons.mpr ⟨⟨_, by simp, ax_le_rfl rfl⟩, (List.forall_mem_cons.mpr ⟨⟨_, by simp, ax_le_rfl rfl⟩, (fun _ h => absurd h List.not_mem_nil)⟩)⟩)⟩)⟩) ?_
      have r := hj_gcL (l := l) (X := fun _ _ E g _ _ => (ax_mm 282).2.2.2.2 = [] ∧ hq_gc h k bs.length (.inr E) g) hk hg hbl z104 (by omega) c c (Nat.le_refl _) z105 q bs ⟨rfl, hby⟩ (by omega) (by omega) hc (by omega) hq2
      rw [hb_set0 hg] at r
      exact r
  · have g1 : hb_ab x.toInt = -x.toInt := if_pos p2
    have g2 : hb_sg x.toInt = 1 := if_pos p2
    show AR _ _ _ _ _ _ _ 7 [(5, .int q), (0, .int x), (1, .int q), (2, .ref k)] [] h _ _
    refine AR.iconstT hk_282_7 (by decide) (fun z106 ez106 => ?_)
    show AR _ _ _ _ _ _ _ 8 [(5, .int q), (0, .int x), (1, .int q), (2, .ref k)] [.int z106] h _ _
    refine AR.gotoT hk_282_8 (tgt := 12) (by decide) ?_
    refine AR.s (pc' := 14) (lv' := [(6, .int z106), (5, .int q), (0, .int x), (1, .int q), (2, .ref k)]) (st' := []) (h' := h) _ hn_282 hk_282_12 rfl ?_
    refine AR.s (pc' := 16) (lv' := [(6, .int z106), (5, .int q), (0, .int x), (1, .int q), (2, .ref k)]) (st' := [.int z106]) (h' := h) _ hn_282 hk_282_14 rfl ?_
    refine AR.zne hk_282_16 (tgt := 22) (by decide) (fun p3 => ?_) (fun p4 => ?_)
    · refine AR.lessL (lv' := [(0, .int x), (6, .int z106), (5, .int q), (2, .ref k)]) (List.forall_mem_cons.mpr ⟨⟨_, by simp, ax_le_rfl rfl⟩, (List.forall_mem_cons.mpr ⟨⟨_, by simp, ax_le_rfl rfl⟩, (List.forall_mem_cons.mpr ⟨⟨_, by simp, ax_le_rfl rfl⟩, (List.forall_mem_cons.mpr ⟨⟨_, by simp, ax_le_rfl rfl⟩, (fun _ h => absurd h List.not_mem_nil)⟩)⟩)⟩)⟩) ?_
      have r := hj_gcL (l := l) (X := fun _ _ E g _ _ => (ax_mm 282).2.2.2.2 = [] ∧ hq_gc h k bs.length (.inr E) g) hk hg hbl z106 (by omega) c c (Nat.le_refl _) x q bs ⟨rfl, hby⟩ (by omega) (by omega) hc (by omega) hq2
      rw [hb_set0 hg] at r
      exact r
    · exact absurd p4 (by omega)
theorem hj_apI (hlst : l.stackTraces = false) (B : hb k bs ml n h) (hbl : bs.length ≤ 700) (hn0 : 0 ≤ n.toInt) (hn1 : n.toInt ≤ bs.length) (hL : 16 ≤ bs.length) : AM ax_ns l (ax_mm 266) 3 ty_R (hb_c bs.length (n.toInt + hb_sz x.toInt)) (hb_m bs.length (n.toInt + hb_sz x.toInt)) [.ref 5, .int x] h (hq_ap h bs.length (n.toInt + hb_sz x.toInt)) := by
  refine AM.of (ax_mfacts (by decide +kernel : ax_has 266 = true)).2.2.2.2.2.2 hlst (by rw [hn_266]; exact Nat.le_of_ble_eq_true rfl) ?_
  show AR ax_ns l (ax_mm 266) 3 ty_R _ _ 0 [(0, .ref 5), (1, .int x)] [] h (hb_c bs.length (n.toInt + hb_sz x.toInt)) (hb_m bs.length (n.toInt + hb_sz x.toInt))
  have hz := hb_sz_le x
  have hd := hb_dg_p (u := hb_ab x.toInt) (by have := Int32.le_toInt x; have := Int32.toInt_lt x; unfold hb_ab; split <;> omega)
  have hzz : hb_sz x.toInt = hb_sg x.toInt + hb_dg (hb_ab x.toInt) := rfl
  show AR _ _ _ _ _ _ _ 0 [(0, .ref 5), (1, .int x)] [] h _ _
  refine AR.s (pc' := 1) (lv' := [(0, .ref 5), (1, .int x)]) (st' := [.ref 5]) (h' := h) _ hn_266 hk_266_0 rfl ?_
  refine AR.gx hk_266_1 (by decide) (by decide) B.1 (x := .int n) rfl ?_
  show AR _ _ _ _ _ _ _ 4 [(0, .ref 5), (1, .int x)] [.int n] h _ _
  refine AR.s (pc' := 5) (lv' := [(2, .int n), (0, .ref 5), (1, .int x)]) (st' := []) (h' := h) _ hn_266 hk_266_4 rfl ?_
  refine AR.s (pc' := 6) (lv' := [(2, .int n), (0, .ref 5), (1, .int x)]) (st' := [.int n]) (h' := h) _ hn_266 hk_266_5 rfl ?_
  refine AR.s (pc' := 7) (lv' := [(2, .int n), (0, .ref 5), (1, .int x)]) (st' := [.int x, .int n]) (h' := h) _ hn_266 hk_266_6 rfl ?_
  refine AR.cs (as := [.int x]) (rest := [.int n]) hk_266_7 (by decide +kernel) rfl rfl (Nat.le_of_ble_eq_true rfl) (hj_ss hlst) (by decide) (Nat.zero_le _) (Nat.zero_le _) (fun E h' q => by obtain ⟨-, x, e, -⟩ := q; cases e) ?_
  rintro w107 g108 ⟨eg108, z109, e, ez109⟩
  cases e
  obtain rfl := eg108.symm
  show AR _ _ _ _ _ _ _ 10 [(2, .int n), (0, .ref 5), (1, .int x)] [.int z109, .int n] h _ _
  refine AR.addT hk_266_10 (by omega) (by omega) (fun z110 ez110 => ?_)
  show AR _ _ _ _ _ _ _ 11 [(2, .int n), (0, .ref 5), (1, .int x)] [.int z110] h _ _
  refine AR.s (pc' := 12) (lv' := [(3, .int z110), (2, .int n), (0, .ref 5), (1, .int x)]) (st' := []) (h' := h) _ hn_266 hk_266_11 rfl ?_
  refine AR.s (pc' := 13) (lv' := [(3, .int z110), (2, .int n), (0, .ref 5), (1, .int x)]) (st' := [.ref 5]) (h' := h) _ hn_266 hk_266_12 rfl ?_
  refine AR.s (pc' := 14) (lv' := [(3, .int z110), (2, .int n), (0, .ref 5), (1, .int x)]) (st' := [.int z110, .ref 5]) (h' := h) _ hn_266 hk_266_13 rfl ?_
  have ez7 : z110.toInt = n.toInt + hb_sz x.toInt := by omega
  rw [← ez7]
  refine AR.jv (as := [.int z110]) (rest := []) hk_266_14 hs_266_14 (by decide +kernel) (by decide +kernel) (by decide +kernel) (ax_wk_mem (ix := 9000) (by decide +kernel)) B.1 rfl rfl (Nat.le_of_ble_eq_true rfl) (hj_en hlst B hbl (by omega) (by omega)) (by decide) (Nat.le_refl _) (Nat.le_refl _) (fun E h' q => by cases q.1) ?_
  rintro w7 h7 ⟨e, F7, k7, bs7, B7, l7⟩
  cases e
  show AR _ _ _ _ _ _ _ 17 [(3, .int z110), (2, .int n), (0, .ref 5), (1, .int x)] [] h7 _ _
  have l8 := hb_L0 (L := bs.length) (q := z110.toInt) (by omega)
  have l9 : bs7.length ≤ 1402 := by rw [l7]; unfold hb_L; split <;> omega
  have c1 : (1 : Int32).toInt = 1 := rfl
  have c0 : (0 : Int32).toInt = 0 := rfl
  refine AR.s (pc' := 18) (lv' := [(3, .int z110), (2, .int n), (0, .ref 5), (1, .int x)]) (st' := [.ref 5]) (h' := h7) _ hn_266 hk_266_17 rfl ?_
  refine AR.jv (as := []) (rest := []) hk_266_18 hs_266_18 (by decide +kernel) (by decide +kernel) (by decide +kernel) (ax_wk_mem (ix := 4072) (by decide +kernel)) B7.1 rfl rfl (Nat.le_of_ble_eq_true rfl) (hj_il hlst B7) (by decide) (Nat.zero_le _) (Nat.zero_le _) (fun E h' q => by obtain ⟨-, x, e, -⟩ := q; cases e) ?_
  rintro w111 g112 ⟨eg112, z113, e, ez113⟩
  cases e
  obtain rfl := eg112.symm
  show AR _ _ _ _ _ _ _ 21 [(3, .int z110), (2, .int n), (0, .ref 5), (1, .int x)] [.int z113] h7 _ _
  refine AR.zeq hk_266_21 (tgt := 37) (by decide) (fun p1 => ?_) (fun p2 => ?_)
  · exact absurd p1 (by omega)
  · refine AR.s (pc' := 25) (lv' := [(3, .int z110), (2, .int n), (0, .ref 5), (1, .int x)]) (st' := [.int x]) (h' := h7) _ hn_266 hk_266_24 rfl ?_
    refine AR.s (pc' := 26) (lv' := [(3, .int z110), (2, .int n), (0, .ref 5), (1, .int x)]) (st' := [.int z110, .int x]) (h' := h7) _ hn_266 hk_266_25 rfl ?_
    refine AR.s (pc' := 27) (lv' := [(3, .int z110), (2, .int n), (0, .ref 5), (1, .int x)]) (st' := [.ref 5, .int z110, .int x]) (h' := h7) _ hn_266 hk_266_26 rfl ?_
    refine AR.gx hk_266_27 (by decide) (by decide) B7.1 (x := .ref k7) rfl ?_
    show AR _ _ _ _ _ _ _ 30 [(3, .int z110), (2, .int n), (0, .ref 5), (1, .int x)] [.ref k7, .int z110, .int x] h7 _ _
    refine AR.cs (as := [.int x, .int z110, .ref k7]) (rest := []) hk_266_30 (by decide +kernel) rfl rfl (Nat.le_of_ble_eq_true rfl) (hj_gc hlst B7.2.2.2.1 B7.2.1 B7.2.2.2.2 (by omega) hd.1 hd.2.1 (by omega) (by omega)) (by decide) (Nat.zero_le _) (Nat.zero_le _) (fun E h' q => by obtain ⟨_, _, e, _⟩ := q; cases e) ?_
    rintro w8 h8 ⟨z8, us, e, hu, e8⟩
    cases e
    subst e8
    have B8 := B7.b (us := us) hu.2
    show AR _ _ _ _ _ _ _ 33 [(3, .int z110), (2, .int n), (0, .ref 5), (1, .int x)] [.int z8] (h7.set k7 (103, us)) _ _
    refine AR.s (pc' := 34) (lv' := [(3, .int z110), (2, .int n), (0, .ref 5), (1, .int x)]) (st' := []) (h' := (h7.set k7 (103, us))) _ hn_266 hk_266_33 rfl ?_
    refine AR.gotoT hk_266_34 (tgt := 48) (by decide) ?_
    refine AR.s (pc' := 49) (lv' := [(3, .int z110), (2, .int n), (0, .ref 5), (1, .int x)]) (st' := [.ref 5]) (h' := (h7.set k7 (103, us))) _ hn_266 hk_266_48 rfl ?_
    refine AR.s (pc' := 50) (lv' := [(3, .int z110), (2, .int n), (0, .ref 5), (1, .int x)]) (st' := [.int z110, .ref 5]) (h' := (h7.set k7 (103, us))) _ hn_266 hk_266_49 rfl ?_
    refine AR.px hk_266_50 (by decide) (by decide) (vs := [.ref k7, .int 0, ml, .int n]) B8.1 (show ax_cls[10]? = some hy_c10 from rfl) rfl rfl ?_
    have B9 := B8.p (m := z110) _ rfl
    have l10 := hu.1
    show AR _ _ _ _ _ _ _ 53 [(3, .int z110), (2, .int n), (0, .ref 5), (1, .int x)] [] _ _ _
    refine AR.s (pc' := 54) (lv' := [(3, .int z110), (2, .int n), (0, .ref 5), (1, .int x)]) (st' := [.ref 5]) (h' := _) _ hn_266 hk_266_53 rfl ?_
    exact AR.aret hk_266_54 hr_266 (Or.inl ⟨_, rfl⟩) ⟨rfl, hb_fr.trans F7 (hb_fr.trans (hb_fr.sk B7.2.1 hu.1) (hb_fr.s5 _ _)), _, _, _, _, B9, by omega, by omega⟩
def hj_st (j nn : Nat) : Prop := (j = 2 ∧ nn = 3) ∨ (j = 4 ∧ nn = 4)
def hj_tx (j : Nat) : List Int32 := if j = 2 then [32, 43, 32] else [32, 62, 61, 32]
theorem hj_st.lt (hs : hj_st j nn) : j < 1000 := by rcases hs with ⟨rfl, _⟩ | ⟨rfl, _⟩ <;> decide
theorem hj_st.lt1 (hs : hj_st j nn) : j + 1 < 1000 := by rcases hs with ⟨rfl, _⟩ | ⟨rfl, _⟩ <;> decide
theorem hj_st.le (hs : hj_st j nn) : nn ≤ 4 := by rcases hs with ⟨_, rfl⟩ | ⟨_, rfl⟩ <;> decide
theorem hj_js (hs : hj_st j nn) (b : Nat) (o : Nat → Nat) (U : State) (hJ : ax_J b o U) : ax_js (o j) (o (j + 1)) nn (hj_tx j) (fun q => b ≤ q) U U.heap := by
  rcases hs with ⟨rfl, rfl⟩ | ⟨rfl, rfl⟩
  · exact hJ.1.1
  · exact hJ.2.1.1
theorem hj_txb (j q : Nat) : hj_by (.int ((hj_tx j).getD q 0)) := hj_gd (by
  unfold hj_tx
  split <;> decide) q
theorem hj_ln (hs : hj_st j nn) : (Int32.ofNat nn).toInt = nn := Int32.toInt_ofNat_of_lt (by have := hs.le; omega)
def hq_gb (h : ax_H) (k L : Nat) : ax_Q := fun res h' => res = .inl none ∧ ∃ us, us.length = L ∧ (∀ x ∈ us, hj_by x) ∧ h' = h.set k (103, us)
def hq_nc (h : ax_H) : ax_Q := fun res h' => res = .inl none ∧ h' = h
theorem hj_co (hlst : l.stackTraces = false) (hs : hj_st j nn) : AM ax_ns l (ax_mm 276) 0 ty_R (0) (0) [.ref (1000000000 + j)] h (hq_int h 0) := by
  refine AM.of (ax_mfacts (by decide +kernel : ax_has 276 = true)).2.2.2.2.2.2 hlst (by rw [hn_276]; exact Nat.le_of_ble_eq_true rfl) ?_
  show AR ax_ns l (ax_mm 276) 0 ty_R _ _ 0 [(0, .ref (1000000000 + j))] [] h (0) (0)
  have c1 : (1 : Int32).toInt = 1 := rfl
  have c0 : (0 : Int32).toInt = 0 := rfl
  refine AR.s (pc' := 3) (lv' := [(0, .ref (1000000000 + j))]) (st' := [.int 1]) (h' := h) _ hn_276 hk_276_0 rfl ?_
  show AR _ _ _ _ _ _ _ 3 [(0, .ref (1000000000 + j))] [.int 1] h _ _
  refine AR.zeq hk_276_3 (tgt := 13) (by decide) (fun p1 => ?_) (fun p2 => ?_)
  · exact absurd p1 (by omega)
  · refine AR.s (pc' := 7) (lv' := [(0, .ref (1000000000 + j))]) (st' := [.ref (1000000000 + j)]) (h' := h) _ hn_276 hk_276_6 rfl ?_
    refine AR.strG (x := .int 0) (ax_look_ok hk_276_7).1 hs.lt (ax_wk_mem (ix := 4198) (by decide +kernel)) (fun b o U hJ => ⟨_, rfl, (hj_js hs b o U hJ).2.1⟩) ?_
    show AR _ _ _ _ _ _ _ 10 [(0, .ref (1000000000 + j))] [.int 0] h _ _
    refine AR.gotoT hk_276_10 (tgt := 14) (by decide) ?_
    exact AR.bret hk_276_14 hr_276 ⟨0, rfl, by decide, by decide⟩ ⟨rfl, 0, rfl, rfl⟩
theorem hj_sl (hlst : l.stackTraces = false) (hs : hj_st j nn) : AM ax_ns l (ax_mm 275) 1 ty_R (0) (0) [.ref (1000000000 + j)] h (hq_int h nn) := by
  refine AM.of (ax_mfacts (by decide +kernel : ax_has 275 = true)).2.2.2.2.2.2 hlst (by rw [hn_275]; exact Nat.le_of_ble_eq_true rfl) ?_
  show AR ax_ns l (ax_mm 275) 1 ty_R _ _ 0 [(0, .ref (1000000000 + j))] [] h (0) (0)
  have el := hj_ln hs
  refine AR.s (pc' := 1) (lv' := [(0, .ref (1000000000 + j))]) (st' := [.ref (1000000000 + j)]) (h' := h) _ hn_275 hk_275_0 rfl ?_
  refine AR.strG (x := .ref (1000000000 + (j + 1))) (ax_look_ok hk_275_1).1 hs.lt (ax_wk_mem (ix := 4197) (by decide +kernel)) (fun b o U hJ => ⟨.ref (o (j + 1)), by rw [ax_v, ax_ad_j hs.lt1], (hj_js hs b o U hJ).2.2.1⟩) ?_
  show AR _ _ _ _ _ _ _ 4 [(0, .ref (1000000000 + j))] [.ref (1000000000 + (j + 1))] h _ _
  refine AR.strL (j := j + 1) (n := nn) (f := fun q => .int ((hj_tx j).getD q 0)) (ax_look_ok hk_275_4).1 hs.lt1 (fun b o U hJ => (hj_js hs b o U hJ).2.2.2) ?_
  show AR _ _ _ _ _ _ _ 5 [(0, .ref (1000000000 + j))] [.int (Int32.ofNat nn)] h _ _
  refine AR.s (pc' := 6) (lv' := [(0, .ref (1000000000 + j))]) (st' := [.ref (1000000000 + j), .int (Int32.ofNat nn)]) (h' := h) _ hn_275 hk_275_5 rfl ?_
  refine AR.jstr (as := []) (rest := [.int (Int32.ofNat nn)]) hk_275_6 hs_275_6 (by decide +kernel) (by decide +kernel) (by decide +kernel) (ax_wk_mem (ix := 3193) (by decide +kernel)) hs.lt (fun b o U hJ => (hj_js hs b o U hJ).1) rfl rfl (Nat.le_of_ble_eq_true rfl) (hj_co hlst hs) (by decide) (Nat.zero_le _) (Nat.zero_le _) (fun E h' q => by obtain ⟨-, x, e, -⟩ := q; cases e) ?_
  rintro w114 g115 ⟨eg115, z116, e, ez116⟩
  cases e
  obtain rfl := eg115.symm
  show AR _ _ _ _ _ _ _ 9 [(0, .ref (1000000000 + j))] [.int z116, .int (Int32.ofNat nn)] h _ _
  obtain rfl : z116 = 0 := Int32.toInt_inj.mp ez116
  show AR _ _ _ _ _ _ _ 9 [(0, .ref (1000000000 + j))] [.int 0, .int (Int32.ofNat nn)] h _ _
  refine AR.shrT hk_275_9 ?_
  show AR _ _ _ _ _ _ _ 10 [(0, .ref (1000000000 + j))] [.int (Int32.ofNat nn)] h _ _
  exact AR.iret hk_275_10 hr_275 ⟨rfl, _, rfl, el⟩
theorem hj_gb (hlst : l.stackTraces = false) (hs : hj_st j nn) (hk : k < 1000000000) (hg : h[k]? = some (103, bs)) (hby : ∀ x ∈ bs, hj_by x) (hn0 : 0 ≤ n.toInt) (hn1 : n.toInt + nn ≤ bs.length) : AM ax_ns l (ax_mm 277) 1 ty_R (0) (0) [.ref (1000000000 + j), .ref k, .int n, .int 0] h (hq_gb h k bs.length) := by
  refine AM.of (ax_mfacts (by decide +kernel : ax_has 277 = true)).2.2.2.2.2.2 hlst (by rw [hn_277]; exact Nat.le_of_ble_eq_true rfl) ?_
  show AR ax_ns l (ax_mm 277) 1 ty_R _ _ 0 [(0, .ref (1000000000 + j)), (1, .ref k), (2, .int n), (3, .int 0)] [] h (0) (0)
  have el := hj_ln hs
  have c0 : (0 : Int32).toInt = 0 := rfl
  refine AR.s (pc' := 1) (lv' := [(0, .ref (1000000000 + j)), (1, .ref k), (2, .int n), (3, .int 0)]) (st' := [.ref (1000000000 + j)]) (h' := h) _ hn_277 hk_277_0 rfl ?_
  refine AR.jstr (as := []) (rest := []) hk_277_1 hs_277_1 (by decide +kernel) (by decide +kernel) (by decide +kernel) (ax_wk_mem (ix := 3193) (by decide +kernel)) hs.lt (fun b o U hJ => (hj_js hs b o U hJ).1) rfl rfl (Nat.le_of_ble_eq_true rfl) (hj_co hlst hs) (by decide) (Nat.zero_le _) (Nat.zero_le _) (fun E h' q => by obtain ⟨-, x, e, -⟩ := q; cases e) ?_
  rintro w117 g118 ⟨eg118, z119, e, ez119⟩
  cases e
  obtain rfl := eg118.symm
  show AR _ _ _ _ _ _ _ 4 [(0, .ref (1000000000 + j)), (1, .ref k), (2, .int n), (3, .int 0)] [.int z119] h _ _
  obtain rfl : z119 = 0 := Int32.toInt_inj.mp ez119
  show AR _ _ _ _ _ _ _ 4 [(0, .ref (1000000000 + j)), (1, .ref k), (2, .int n), (3, .int 0)] [.int 0] h _ _
  refine AR.s (pc' := 5) (lv' := [(0, .ref (1000000000 + j)), (1, .ref k), (2, .int n), (3, .int 0)]) (st' := [.int 0, .int 0]) (h' := h) _ hn_277 hk_277_4 rfl ?_
  refine AR.jne hk_277_5 (tgt := 28) (by decide) (fun p1 => ?_) (fun p2 => ?_)
  · exact absurd rfl p1
  · refine AR.s (pc' := 9) (lv' := [(0, .ref (1000000000 + j)), (1, .ref k), (2, .int n), (3, .int 0)]) (st' := [.ref (1000000000 + j)]) (h' := h) _ hn_277 hk_277_8 rfl ?_
    refine AR.strG (x := .ref (1000000000 + (j + 1))) (ax_look_ok hk_277_9).1 hs.lt (ax_wk_mem (ix := 4197) (by decide +kernel)) (fun b o U hJ => ⟨.ref (o (j + 1)), by rw [ax_v, ax_ad_j hs.lt1], (hj_js hs b o U hJ).2.2.1⟩) ?_
    show AR _ _ _ _ _ _ _ 12 [(0, .ref (1000000000 + j)), (1, .ref k), (2, .int n), (3, .int 0)] [.ref (1000000000 + (j + 1))] h _ _
    refine AR.iconstT hk_277_12 (by decide) (fun z120 ez120 => ?_)
    show AR _ _ _ _ _ _ _ 13 [(0, .ref (1000000000 + j)), (1, .ref k), (2, .int n), (3, .int 0)] [.int z120, .ref (1000000000 + (j + 1))] h _ _
    refine AR.s (pc' := 14) (lv' := [(0, .ref (1000000000 + j)), (1, .ref k), (2, .int n), (3, .int 0)]) (st' := [.ref k, .int z120, .ref (1000000000 + (j + 1))]) (h' := h) _ hn_277 hk_277_13 rfl ?_
    refine AR.s (pc' := 15) (lv' := [(0, .ref (1000000000 + j)), (1, .ref k), (2, .int n), (3, .int 0)]) (st' := [.int n, .ref k, .int z120, .ref (1000000000 + (j + 1))]) (h' := h) _ hn_277 hk_277_14 rfl ?_
    refine AR.s (pc' := 16) (lv' := [(0, .ref (1000000000 + j)), (1, .ref k), (2, .int n), (3, .int 0)]) (st' := [.int 0, .int n, .ref k, .int z120, .ref (1000000000 + (j + 1))]) (h' := h) _ hn_277 hk_277_15 rfl ?_
    refine AR.shlT hk_277_16 ?_
    show AR _ _ _ _ _ _ _ 17 [(0, .ref (1000000000 + j)), (1, .ref k), (2, .int n), (3, .int 0)] [.int n, .ref k, .int z120, .ref (1000000000 + (j + 1))] h _ _
    refine AR.s (pc' := 18) (lv' := [(0, .ref (1000000000 + j)), (1, .ref k), (2, .int n), (3, .int 0)]) (st' := [.ref (1000000000 + j), .int n, .ref k, .int z120, .ref (1000000000 + (j + 1))]) (h' := h) _ hn_277 hk_277_17 rfl ?_
    refine AR.strG (x := .ref (1000000000 + (j + 1))) (ax_look_ok hk_277_18).1 hs.lt (ax_wk_mem (ix := 4197) (by decide +kernel)) (fun b o U hJ => ⟨.ref (o (j + 1)), by rw [ax_v, ax_ad_j hs.lt1], (hj_js hs b o U hJ).2.2.1⟩) ?_
    show AR _ _ _ _ _ _ _ 21 [(0, .ref (1000000000 + j)), (1, .ref k), (2, .int n), (3, .int 0)] [.ref (1000000000 + (j + 1)), .int n, .ref k, .int z120, .ref (1000000000 + (j + 1))] h _ _
    refine AR.strL (j := j + 1) (n := nn) (f := fun q => .int ((hj_tx j).getD q 0)) (ax_look_ok hk_277_21).1 hs.lt1 (fun b o U hJ => (hj_js hs b o U hJ).2.2.2) ?_
    show AR _ _ _ _ _ _ _ 22 [(0, .ref (1000000000 + j)), (1, .ref k), (2, .int n), (3, .int 0)] [.int (Int32.ofNat nn), .int n, .ref k, .int z120, .ref (1000000000 + (j + 1))] h _ _
    refine AR.bcopy (n0 := nn) (us := bs) (ax_look_ok hk_277_22).1 (ax_wk_mem (ix := 4122) (by decide +kernel)) (Or.inr ⟨j + 1, fun q => (hj_tx j).getD q 0, rfl, hs.lt1, fun b o U hJ => (hj_js hs b o U hJ).2.2.2, fun q _ => hj_txb j q⟩) hk hg hby (by omega) hn0 (by omega) (by omega) (by omega) (Nat.le_of_ble_eq_true rfl) (fun us u1 u2 => ?_)
    show AR _ _ _ _ _ _ _ 25 [(0, .ref (1000000000 + j)), (1, .ref k), (2, .int n), (3, .int 0)] [] _ _ _
    refine AR.gotoT hk_277_25 (tgt := 43) (by decide) ?_
    exact AR.vret hk_277_43 hr_277 ⟨rfl, us, u1, u2, rfl⟩
theorem hj_if (hlst : l.stackTraces = false) (B : hb k bs ml n h) (hs : hj_st j nn) : AM ax_ns l (ax_mm 271) 1 ty_R (0) (0) [.ref 5, .ref (1000000000 + j)] h (hq_nc h) := by
  refine AM.of (ax_mfacts (by decide +kernel : ax_has 271 = true)).2.2.2.2.2.2 hlst (by rw [hn_271]; exact Nat.le_of_ble_eq_true rfl) ?_
  show AR ax_ns l (ax_mm 271) 1 ty_R _ _ 0 [(0, .ref 5), (1, .ref (1000000000 + j))] [] h (0) (0)
  have c1 : (1 : Int32).toInt = 1 := rfl
  have c0 : (0 : Int32).toInt = 0 := rfl
  refine AR.s (pc' := 3) (lv' := [(0, .ref 5), (1, .ref (1000000000 + j))]) (st' := [.int 1]) (h' := h) _ hn_271 hk_271_0 rfl ?_
  show AR _ _ _ _ _ _ _ 3 [(0, .ref 5), (1, .ref (1000000000 + j))] [.int 1] h _ _
  refine AR.zeq hk_271_3 (tgt := 21) (by decide) (fun p1 => ?_) (fun p2 => ?_)
  · exact absurd p1 (by omega)
  · refine AR.s (pc' := 7) (lv' := [(0, .ref 5), (1, .ref (1000000000 + j))]) (st' := [.ref 5]) (h' := h) _ hn_271 hk_271_6 rfl ?_
    refine AR.gx hk_271_7 (by decide) (by decide) B.1 (x := .int 0) rfl ?_
    show AR _ _ _ _ _ _ _ 10 [(0, .ref 5), (1, .ref (1000000000 + j))] [.int 0] h _ _
    refine AR.s (pc' := 11) (lv' := [(0, .ref 5), (1, .ref (1000000000 + j))]) (st' := [.ref (1000000000 + j), .int 0]) (h' := h) _ hn_271 hk_271_10 rfl ?_
    refine AR.jstr (as := []) (rest := [.int 0]) hk_271_11 hs_271_11 (by decide +kernel) (by decide +kernel) (by decide +kernel) (ax_wk_mem (ix := 3193) (by decide +kernel)) hs.lt (fun b o U hJ => (hj_js hs b o U hJ).1) rfl rfl (Nat.le_of_ble_eq_true rfl) (hj_co hlst hs) (by decide) (Nat.zero_le _) (Nat.zero_le _) (fun E h' q => by obtain ⟨-, x, e, -⟩ := q; cases e) ?_
    rintro w121 g122 ⟨eg122, z123, e, ez123⟩
    cases e
    obtain rfl := eg122.symm
    show AR _ _ _ _ _ _ _ 14 [(0, .ref 5), (1, .ref (1000000000 + j))] [.int z123, .int 0] h _ _
    obtain rfl : z123 = 0 := Int32.toInt_inj.mp ez123
    show AR _ _ _ _ _ _ _ 14 [(0, .ref 5), (1, .ref (1000000000 + j))] [.int 0, .int 0] h _ _
    refine AR.jeq hk_271_14 (tgt := 21) (by decide) (fun p3 => ?_) (fun p4 => ?_)
    · exact AR.vret hk_271_21 hr_271 ⟨rfl, rfl⟩
    · exact absurd rfl p4
theorem hj_ps (hlst : l.stackTraces = false) (B : hb k bs ml n h) (hs : hj_st j nn) (hn0 : 0 ≤ n.toInt) (hn1 : n.toInt + nn ≤ bs.length) : AM ax_ns l (ax_mm 270) 2 ty_R (0) (0) [.ref 5, .int n, .ref (1000000000 + j)] h (hq_gb h k bs.length) := by
  refine AM.of (ax_mfacts (by decide +kernel : ax_has 270 = true)).2.2.2.2.2.2 hlst (by rw [hn_270]; exact Nat.le_of_ble_eq_true rfl) ?_
  show AR ax_ns l (ax_mm 270) 2 ty_R _ _ 0 [(0, .ref 5), (1, .int n), (2, .ref (1000000000 + j))] [] h (0) (0)
  refine AR.s (pc' := 1) (lv' := [(0, .ref 5), (1, .int n), (2, .ref (1000000000 + j))]) (st' := [.ref 5]) (h' := h) _ hn_270 hk_270_0 rfl ?_
  refine AR.s (pc' := 2) (lv' := [(0, .ref 5), (1, .int n), (2, .ref (1000000000 + j))]) (st' := [.ref (1000000000 + j), .ref 5]) (h' := h) _ hn_270 hk_270_1 rfl ?_
  refine AR.jv (as := [.ref (1000000000 + j)]) (rest := []) hk_270_2 hs_270_2 (by decide +kernel) (by decide +kernel) (by decide +kernel) (ax_wk_mem (ix := 9003) (by decide +kernel)) B.1 rfl rfl (Nat.le_of_ble_eq_true rfl) (hj_if hlst B hs) (by decide) (Nat.zero_le _) (Nat.zero_le _) (fun E h' q => by cases q.1) ?_
  rintro w124 g125 ⟨e, eg125⟩
  cases e
  obtain rfl := eg125.symm
  show AR _ _ _ _ _ _ _ 5 [(0, .ref 5), (1, .int n), (2, .ref (1000000000 + j))] [] h _ _
  refine AR.s (pc' := 6) (lv' := [(0, .ref 5), (1, .int n), (2, .ref (1000000000 + j))]) (st' := [.ref (1000000000 + j)]) (h' := h) _ hn_270 hk_270_5 rfl ?_
  refine AR.s (pc' := 7) (lv' := [(0, .ref 5), (1, .int n), (2, .ref (1000000000 + j))]) (st' := [.ref 5, .ref (1000000000 + j)]) (h' := h) _ hn_270 hk_270_6 rfl ?_
  refine AR.gx hk_270_7 (by decide) (by decide) B.1 (x := .ref k) rfl ?_
  show AR _ _ _ _ _ _ _ 10 [(0, .ref 5), (1, .int n), (2, .ref (1000000000 + j))] [.ref k, .ref (1000000000 + j)] h _ _
  refine AR.s (pc' := 11) (lv' := [(0, .ref 5), (1, .int n), (2, .ref (1000000000 + j))]) (st' := [.int n, .ref k, .ref (1000000000 + j)]) (h' := h) _ hn_270 hk_270_10 rfl ?_
  refine AR.s (pc' := 12) (lv' := [(0, .ref 5), (1, .int n), (2, .ref (1000000000 + j))]) (st' := [.ref 5, .int n, .ref k, .ref (1000000000 + j)]) (h' := h) _ hn_270 hk_270_11 rfl ?_
  refine AR.gx hk_270_12 (by decide) (by decide) B.1 (x := .int 0) rfl ?_
  show AR _ _ _ _ _ _ _ 15 [(0, .ref 5), (1, .int n), (2, .ref (1000000000 + j))] [.int 0, .int n, .ref k, .ref (1000000000 + j)] h _ _
  refine AR.jstr (as := [.ref k, .int n, .int 0]) (rest := []) hk_270_15 hs_270_15 (by decide +kernel) (by decide +kernel) (by decide +kernel) (ax_wk_mem (ix := 4120) (by decide +kernel)) hs.lt (fun b o U hJ => (hj_js hs b o U hJ).1) rfl rfl (Nat.le_of_ble_eq_true rfl) (hj_gb hlst hs B.2.2.2.1 B.2.1 B.2.2.2.2 hn0 hn1) (by decide) (Nat.zero_le _) (Nat.zero_le _) (fun E h' q => by cases q.1) ?_
  rintro w8 h8 ⟨e, us, u1, u2, e8⟩
  cases e
  subst e8
  show AR _ _ _ _ _ _ _ 18 [(0, .ref 5), (1, .int n), (2, .ref (1000000000 + j))] [] _ _ _
  exact AR.vret hk_270_18 hr_270 ⟨rfl, us, u1, u2, rfl⟩
theorem hj_apS (hlst : l.stackTraces = false) (B : hb k bs ml n h) (hs : hj_st j nn) (hbl : bs.length ≤ 700) (hn0 : 0 ≤ n.toInt) (hn1 : n.toInt ≤ bs.length) (hL : 16 ≤ bs.length) : AM ax_ns l (ax_mm 267) 3 ty_R (hb_c bs.length (n.toInt + nn)) (hb_m bs.length (n.toInt + nn)) [.ref 5, .ref (1000000000 + j)] h (hq_ap h bs.length (n.toInt + nn)) := by
  refine AM.of (ax_mfacts (by decide +kernel : ax_has 267 = true)).2.2.2.2.2.2 hlst (by rw [hn_267]; exact Nat.le_of_ble_eq_true rfl) ?_
  show AR ax_ns l (ax_mm 267) 3 ty_R _ _ 0 [(0, .ref 5), (1, .ref (1000000000 + j))] [] h (hb_c bs.length (n.toInt + nn)) (hb_m bs.length (n.toInt + nn))
  have el := hs.le
  refine AR.s (pc' := 1) (lv' := [(0, .ref 5), (1, .ref (1000000000 + j))]) (st' := [.ref (1000000000 + j)]) (h' := h) _ hn_267 hk_267_0 rfl ?_
  refine AR.ifnonnull (tgt := 9) (ax_look_ok hk_267_1).1 (by decide) ?_
  show AR _ _ _ _ _ _ _ 9 [(0, .ref 5), (1, .ref (1000000000 + j))] [] h _ _
  refine AR.s (pc' := 10) (lv' := [(0, .ref 5), (1, .ref (1000000000 + j))]) (st' := [.ref (1000000000 + j)]) (h' := h) _ hn_267 hk_267_9 rfl ?_
  refine AR.jstr (as := []) (rest := []) hk_267_10 hs_267_10 (by decide +kernel) (by decide +kernel) (by decide +kernel) (ax_wk_mem (ix := 3189) (by decide +kernel)) hs.lt (fun b o U hJ => (hj_js hs b o U hJ).1) rfl rfl (Nat.le_of_ble_eq_true rfl) (hj_sl hlst hs) (by decide) (Nat.zero_le _) (Nat.zero_le _) (fun E h' q => by obtain ⟨-, x, e, -⟩ := q; cases e) ?_
  rintro w126 g127 ⟨eg127, z128, e, ez128⟩
  cases e
  obtain rfl := eg127.symm
  show AR _ _ _ _ _ _ _ 13 [(0, .ref 5), (1, .ref (1000000000 + j))] [.int z128] h _ _
  refine AR.s (pc' := 14) (lv' := [(2, .int z128), (0, .ref 5), (1, .ref (1000000000 + j))]) (st' := []) (h' := h) _ hn_267 hk_267_13 rfl ?_
  refine AR.s (pc' := 15) (lv' := [(2, .int z128), (0, .ref 5), (1, .ref (1000000000 + j))]) (st' := [.ref 5]) (h' := h) _ hn_267 hk_267_14 rfl ?_
  refine AR.s (pc' := 16) (lv' := [(2, .int z128), (0, .ref 5), (1, .ref (1000000000 + j))]) (st' := [.ref 5, .ref 5]) (h' := h) _ hn_267 hk_267_15 rfl ?_
  refine AR.gx hk_267_16 (by decide) (by decide) B.1 (x := .int n) rfl ?_
  show AR _ _ _ _ _ _ _ 19 [(2, .int z128), (0, .ref 5), (1, .ref (1000000000 + j))] [.int n, .ref 5] h _ _
  refine AR.s (pc' := 20) (lv' := [(2, .int z128), (0, .ref 5), (1, .ref (1000000000 + j))]) (st' := [.int z128, .int n, .ref 5]) (h' := h) _ hn_267 hk_267_19 rfl ?_
  refine AR.addT hk_267_20 (by omega) (by omega) (fun z129 ez129 => ?_)
  show AR _ _ _ _ _ _ _ 21 [(2, .int z128), (0, .ref 5), (1, .ref (1000000000 + j))] [.int z129, .ref 5] h _ _
  have ez7 : z129.toInt = n.toInt + nn := by omega
  rw [← ez7]
  refine AR.jv (as := [.int z129]) (rest := []) hk_267_21 hs_267_21 (by decide +kernel) (by decide +kernel) (by decide +kernel) (ax_wk_mem (ix := 9000) (by decide +kernel)) B.1 rfl rfl (Nat.le_of_ble_eq_true rfl) (hj_en hlst B hbl (by omega) (by omega)) (by decide) (Nat.le_refl _) (Nat.le_refl _) (fun E h' q => by cases q.1) ?_
  rintro w7 h7 ⟨e, F7, k7, bs7, B7, l7⟩
  cases e
  show AR _ _ _ _ _ _ _ 24 [(2, .int z128), (0, .ref 5), (1, .ref (1000000000 + j))] [] h7 _ _
  have l8 := hb_L0 (L := bs.length) (q := z129.toInt) (by omega)
  refine AR.s (pc' := 25) (lv' := [(2, .int z128), (0, .ref 5), (1, .ref (1000000000 + j))]) (st' := [.ref 5]) (h' := h7) _ hn_267 hk_267_24 rfl ?_
  refine AR.s (pc' := 26) (lv' := [(2, .int z128), (0, .ref 5), (1, .ref (1000000000 + j))]) (st' := [.ref 5, .ref 5]) (h' := h7) _ hn_267 hk_267_25 rfl ?_
  refine AR.gx hk_267_26 (by decide) (by decide) B7.1 (x := .int n) rfl ?_
  show AR _ _ _ _ _ _ _ 29 [(2, .int z128), (0, .ref 5), (1, .ref (1000000000 + j))] [.int n, .ref 5] h7 _ _
  refine AR.s (pc' := 30) (lv' := [(2, .int z128), (0, .ref 5), (1, .ref (1000000000 + j))]) (st' := [.ref (1000000000 + j), .int n, .ref 5]) (h' := h7) _ hn_267 hk_267_29 rfl ?_
  refine AR.jv (as := [.int n, .ref (1000000000 + j)]) (rest := []) hk_267_30 hs_267_30 (by decide +kernel) (by decide +kernel) (by decide +kernel) (ax_wk_mem (ix := 9002) (by decide +kernel)) B7.1 rfl rfl (Nat.le_of_ble_eq_true rfl) (hj_ps hlst B7 hs hn0 (by omega)) (by decide) (Nat.zero_le _) (Nat.zero_le _) (fun E h' q => by cases q.1) ?_
  rintro w8 h8 ⟨e, us, u1, u2, e8⟩
  cases e
  subst e8
  have B8 := B7.b (us := us) u2
  show AR _ _ _ _ _ _ _ 33 [(2, .int z128), (0, .ref 5), (1, .ref (1000000000 + j))] [] (h7.set k7 (103, us)) _ _
  refine AR.s (pc' := 34) (lv' := [(2, .int z128), (0, .ref 5), (1, .ref (1000000000 + j))]) (st' := [.ref 5]) (h' := (h7.set k7 (103, us))) _ hn_267 hk_267_33 rfl ?_
  refine AR.s (pc' := 35) (lv' := [(2, .int z128), (0, .ref 5), (1, .ref (1000000000 + j))]) (st' := [.ref 5, .ref 5]) (h' := (h7.set k7 (103, us))) _ hn_267 hk_267_34 rfl ?_
  refine AR.gx hk_267_35 (by decide) (by decide) B8.1 (x := .int n) rfl ?_
  show AR _ _ _ _ _ _ _ 38 [(2, .int z128), (0, .ref 5), (1, .ref (1000000000 + j))] [.int n, .ref 5] (h7.set k7 (103, us)) _ _
  refine AR.s (pc' := 39) (lv' := [(2, .int z128), (0, .ref 5), (1, .ref (1000000000 + j))]) (st' := [.int z128, .int n, .ref 5]) (h' := (h7.set k7 (103, us))) _ hn_267 hk_267_38 rfl ?_
  refine AR.addT hk_267_39 (by omega) (by omega) (fun z130 ez130 => ?_)
  show AR _ _ _ _ _ _ _ 40 [(2, .int z128), (0, .ref 5), (1, .ref (1000000000 + j))] [.int z130, .ref 5] (h7.set k7 (103, us)) _ _
  refine AR.px hk_267_40 (by decide) (by decide) (vs := [.ref k7, .int 0, ml, .int n]) B8.1 (show ax_cls[10]? = some hy_c10 from rfl) rfl rfl ?_
  have B9 := B8.p (m := z130) _ rfl
  show AR _ _ _ _ _ _ _ 43 [(2, .int z128), (0, .ref 5), (1, .ref (1000000000 + j))] [] _ _ _
  refine AR.s (pc' := 44) (lv' := [(2, .int z128), (0, .ref 5), (1, .ref (1000000000 + j))]) (st' := [.ref 5]) (h' := _) _ hn_267 hk_267_43 rfl ?_
  exact AR.aret hk_267_44 hr_267 (Or.inl ⟨_, rfl⟩) ⟨rfl, hb_fr.trans F7 (hb_fr.trans (hb_fr.sk B7.2.1 u1) (hb_fr.s5 _ _)), _, _, _, _, B9, by omega, by omega⟩
theorem hj_C (hlst : l.stackTraces = false) (B : hb k bs ml n h) (hbl : bs.length ≤ 700) (hn0 : 0 ≤ n.toInt) (hn1 : n.toInt ≤ bs.length) (hL : 16 ≤ bs.length) (hx : x.toInt ≤ 255) : AM ax_ns l (ax_mm 260) 4 ty_R (hb_c bs.length (n.toInt + 1)) (hb_m bs.length (n.toInt + 1)) [.ref 5, .int x] h (hq_ap h bs.length (n.toInt + 1)) := by
  refine AM.of (ax_mfacts (by decide +kernel : ax_has 260 = true)).2.2.2.2.2.2 hlst (by rw [hn_260]; exact Nat.le_of_ble_eq_true rfl) ?_
  show AR ax_ns l (ax_mm 260) 4 ty_R _ _ 0 [(0, .ref 5), (1, .int x)] [] h (hb_c bs.length (n.toInt + 1)) (hb_m bs.length (n.toInt + 1))
  refine AR.s (pc' := 1) (lv' := [(0, .ref 5), (1, .int x)]) (st' := [.ref 5]) (h' := h) _ hn_260 hk_260_0 rfl ?_
  refine AR.s (pc' := 2) (lv' := [(0, .ref 5), (1, .int x)]) (st' := [.int x, .ref 5]) (h' := h) _ hn_260 hk_260_1 rfl ?_
  refine AR.ju (as := [.int x]) (rest := []) hk_260_2 (by decide +kernel) (by decide +kernel) (by decide +kernel) B.1 rfl rfl (Nat.le_of_ble_eq_true rfl) (hj_apC hlst B hbl hn0 hn1 hL hx) (by decide) (Nat.le_refl _) (Nat.le_refl _) (fun E h' q => by cases q.1) ?_
  rintro w7 h7 ⟨e, Q7⟩
  cases e
  show AR _ _ _ _ _ _ _ 5 [(0, .ref 5), (1, .int x)] [.ref 5] h7 _ _
  refine AR.s (pc' := 6) (lv' := [(0, .ref 5), (1, .int x)]) (st' := []) (h' := h7) _ hn_260 hk_260_5 rfl ?_
  refine AR.s (pc' := 7) (lv' := [(0, .ref 5), (1, .int x)]) (st' := [.ref 5]) (h' := h7) _ hn_260 hk_260_6 rfl ?_
  exact AR.aret hk_260_7 hr_260 (Or.inl ⟨_, rfl⟩) ⟨rfl, Q7⟩
theorem hj_I (hlst : l.stackTraces = false) (B : hb k bs ml n h) (hbl : bs.length ≤ 700) (hn0 : 0 ≤ n.toInt) (hn1 : n.toInt ≤ bs.length) (hL : 16 ≤ bs.length) : AM ax_ns l (ax_mm 261) 4 ty_R (hb_c bs.length (n.toInt + hb_sz x.toInt)) (hb_m bs.length (n.toInt + hb_sz x.toInt)) [.ref 5, .int x] h (hq_ap h bs.length (n.toInt + hb_sz x.toInt)) := by
  refine AM.of (ax_mfacts (by decide +kernel : ax_has 261 = true)).2.2.2.2.2.2 hlst (by rw [hn_261]; exact Nat.le_of_ble_eq_true rfl) ?_
  show AR ax_ns l (ax_mm 261) 4 ty_R _ _ 0 [(0, .ref 5), (1, .int x)] [] h (hb_c bs.length (n.toInt + hb_sz x.toInt)) (hb_m bs.length (n.toInt + hb_sz x.toInt))
  refine AR.s (pc' := 1) (lv' := [(0, .ref 5), (1, .int x)]) (st' := [.ref 5]) (h' := h) _ hn_261 hk_261_0 rfl ?_
  refine AR.s (pc' := 2) (lv' := [(0, .ref 5), (1, .int x)]) (st' := [.int x, .ref 5]) (h' := h) _ hn_261 hk_261_1 rfl ?_
  refine AR.ju (as := [.int x]) (rest := []) hk_261_2 (by decide +kernel) (by decide +kernel) (by decide +kernel) B.1 rfl rfl (Nat.le_of_ble_eq_true rfl) (hj_apI hlst B hbl hn0 hn1 hL) (by decide) (Nat.le_refl _) (Nat.le_refl _) (fun E h' q => by cases q.1) ?_
  rintro w7 h7 ⟨e, Q7⟩
  cases e
  show AR _ _ _ _ _ _ _ 5 [(0, .ref 5), (1, .int x)] [.ref 5] h7 _ _
  refine AR.s (pc' := 6) (lv' := [(0, .ref 5), (1, .int x)]) (st' := []) (h' := h7) _ hn_261 hk_261_5 rfl ?_
  refine AR.s (pc' := 7) (lv' := [(0, .ref 5), (1, .int x)]) (st' := [.ref 5]) (h' := h7) _ hn_261 hk_261_6 rfl ?_
  exact AR.aret hk_261_7 hr_261 (Or.inl ⟨_, rfl⟩) ⟨rfl, Q7⟩
theorem hj_S (hlst : l.stackTraces = false) (B : hb k bs ml n h) (hbl : bs.length ≤ 700) (hn0 : 0 ≤ n.toInt) (hn1 : n.toInt ≤ bs.length) (hL : 16 ≤ bs.length) (hs : hj_st j nn) : AM ax_ns l (ax_mm 262) 4 ty_R (hb_c bs.length (n.toInt + nn)) (hb_m bs.length (n.toInt + nn)) [.ref 5, .ref (1000000000 + j)] h (hq_ap h bs.length (n.toInt + nn)) := by
  refine AM.of (ax_mfacts (by decide +kernel : ax_has 262 = true)).2.2.2.2.2.2 hlst (by rw [hn_262]; exact Nat.le_of_ble_eq_true rfl) ?_
  show AR ax_ns l (ax_mm 262) 4 ty_R _ _ 0 [(0, .ref 5), (1, .ref (1000000000 + j))] [] h (hb_c bs.length (n.toInt + nn)) (hb_m bs.length (n.toInt + nn))
  refine AR.s (pc' := 1) (lv' := [(0, .ref 5), (1, .ref (1000000000 + j))]) (st' := [.ref 5]) (h' := h) _ hn_262 hk_262_0 rfl ?_
  refine AR.s (pc' := 2) (lv' := [(0, .ref 5), (1, .ref (1000000000 + j))]) (st' := [.ref (1000000000 + j), .ref 5]) (h' := h) _ hn_262 hk_262_1 rfl ?_
  refine AR.ju (as := [.ref (1000000000 + j)]) (rest := []) hk_262_2 (by decide +kernel) (by decide +kernel) (by decide +kernel) B.1 rfl rfl (Nat.le_of_ble_eq_true rfl) (hj_apS hlst B hs hbl hn0 hn1 hL) (by decide) (Nat.le_refl _) (Nat.le_refl _) (fun E h' q => by cases q.1) ?_
  rintro w7 h7 ⟨e, Q7⟩
  cases e
  show AR _ _ _ _ _ _ _ 5 [(0, .ref 5), (1, .ref (1000000000 + j))] [.ref 5] h7 _ _
  refine AR.s (pc' := 6) (lv' := [(0, .ref 5), (1, .ref (1000000000 + j))]) (st' := []) (h' := h7) _ hn_262 hk_262_5 rfl ?_
  refine AR.s (pc' := 7) (lv' := [(0, .ref 5), (1, .ref (1000000000 + j))]) (st' := [.ref 5]) (h' := h7) _ hn_262 hk_262_6 rfl ?_
  exact AR.aret hk_262_7 hr_262 (Or.inl ⟨_, rfl⟩) ⟨rfl, Q7⟩
def hq_s0 (h : ax_H) (L : Nat) : ax_Q := fun res h' => res = .inl none ∧ hb_q h L 0 h'
theorem hj_s0a (hlst : l.stackTraces = false) (B : hb k bs ml n h) (hbl : bs.length ≤ 700) (hn0 : 0 ≤ n.toInt) (hn1 : n.toInt ≤ bs.length) (hL : 16 ≤ bs.length) (hx : x.toInt = 0) : AM ax_ns l (ax_mm 273) 3 ty_R (0) (0) [.ref 5, .int x] h (hq_s0 h bs.length) := by
  refine AM.of (ax_mfacts (by decide +kernel : ax_has 273 = true)).2.2.2.2.2.2 hlst (by rw [hn_273]; exact Nat.le_of_ble_eq_true rfl) ?_
  show AR ax_ns l (ax_mm 273) 3 ty_R _ _ 0 [(0, .ref 5), (1, .int x)] [] h (0) (0)
  have e1 : hb_c bs.length x.toInt = 0 := if_pos (by omega)
  have e2 : hb_m bs.length x.toInt = 0 := if_pos (by omega)
  have e3 : ∀ q : Int, q = 0 → hb_L bs.length q = bs.length := fun q hq => if_pos (by omega)
  have M := hj_en hlst B hbl (q := x) (by omega) (by omega)
  rw [e1, e2] at M
  show AR _ _ _ _ _ _ _ 0 [(0, .ref 5), (1, .int x)] [] h _ _
  refine AR.s (pc' := 1) (lv' := [(0, .ref 5), (1, .int x)]) (st' := [.int x]) (h' := h) _ hn_273 hk_273_0 rfl ?_
  refine AR.zge hk_273_1 (tgt := 13) (by decide) (fun p1 => ?_) (fun p2 => ?_)
  · refine AR.s (pc' := 14) (lv' := [(0, .ref 5), (1, .int x)]) (st' := [.ref 5]) (h' := h) _ hn_273 hk_273_13 rfl ?_
    refine AR.s (pc' := 15) (lv' := [(0, .ref 5), (1, .int x)]) (st' := [.int x, .ref 5]) (h' := h) _ hn_273 hk_273_14 rfl ?_
    refine AR.jv (as := [.int x]) (rest := []) hk_273_15 hs_273_15 (by decide +kernel) (by decide +kernel) (by decide +kernel) (ax_wk_mem (ix := 9000) (by decide +kernel)) B.1 rfl rfl (Nat.le_of_ble_eq_true rfl) (M) (by decide) (Nat.zero_le _) (Nat.zero_le _) (fun E h' q => by cases q.1) ?_
    rintro w7 h7 ⟨e, F7, k7, bs7, B7, l7⟩
    cases e
    rw [e3 _ hx] at l7
    show AR _ _ _ _ _ _ _ 18 [(0, .ref 5), (1, .int x)] [] h7 _ _
    refine AR.s (pc' := 19) (lv' := [(0, .ref 5), (1, .int x)]) (st' := [.ref 5]) (h' := h7) _ hn_273 hk_273_18 rfl ?_
    refine AR.gx hk_273_19 (by decide) (by decide) B7.1 (x := .int n) rfl ?_
    show AR _ _ _ _ _ _ _ 22 [(0, .ref 5), (1, .int x)] [.int n] h7 _ _
    refine AR.s (pc' := 23) (lv' := [(0, .ref 5), (1, .int x)]) (st' := [.int x, .int n]) (h' := h7) _ hn_273 hk_273_22 rfl ?_
    refine AR.jge hk_273_23 (tgt := 63) (by decide) (fun p3 => ?_) (fun p4 => ?_)
    · refine AR.s (pc' := 64) (lv' := [(0, .ref 5), (1, .int x)]) (st' := [.ref 5]) (h' := h7) _ hn_273 hk_273_63 rfl ?_
      refine AR.gx hk_273_64 (by decide) (by decide) B7.1 (x := .int n) rfl ?_
      show AR _ _ _ _ _ _ _ 67 [(0, .ref 5), (1, .int x)] [.int n] h7 _ _
      refine AR.s (pc' := 68) (lv' := [(0, .ref 5), (1, .int x)]) (st' := [.int x, .int n]) (h' := h7) _ hn_273 hk_273_67 rfl ?_
      refine AR.jle hk_273_68 (tgt := 76) (by decide) (fun p5 => ?_) (fun p6 => ?_)
      · refine AR.s (pc' := 77) (lv' := [(0, .ref 5), (1, .int x)]) (st' := [.ref 5]) (h' := h7) _ hn_273 hk_273_76 rfl ?_
        refine AR.s (pc' := 78) (lv' := [(0, .ref 5), (1, .int x)]) (st' := [.int x, .ref 5]) (h' := h7) _ hn_273 hk_273_77 rfl ?_
        refine AR.px hk_273_78 (by decide) (by decide) (vs := [.ref k7, .int 0, ml, .int n]) B7.1 (show ax_cls[10]? = some hy_c10 from rfl) rfl rfl ?_
        have B9 := B7.p (m := x) _ rfl
        show AR _ _ _ _ _ _ _ 81 [(0, .ref 5), (1, .int x)] [] _ _ _
        exact AR.vret hk_273_81 hr_273 ⟨rfl, hb_fr.trans F7 (hb_fr.s5 _ _), _, _, _, _, B9, by rw [e3 0 rfl]; exact l7, hx⟩
      · refine AR.s (pc' := 72) (lv' := [(0, .ref 5), (1, .int x)]) (st' := [.ref 5]) (h' := h7) _ hn_273 hk_273_71 rfl ?_
        refine AR.iconstT hk_273_72 (by decide) (fun z131 ez131 => ?_)
        show AR _ _ _ _ _ _ _ 73 [(0, .ref 5), (1, .int x)] [.int z131, .ref 5] h7 _ _
        refine AR.px hk_273_73 (by decide) (by decide) (vs := [.ref k7, .int 0, ml, .int n]) B7.1 (show ax_cls[10]? = some hy_c10 from rfl) rfl (hy_fz (by omega)) ?_
        have B8 := B7.pm (m := .int z131) _ rfl
        show AR _ _ _ _ _ _ _ 76 [(0, .ref 5), (1, .int x)] [] _ _ _
        refine AR.s (pc' := 77) (lv' := [(0, .ref 5), (1, .int x)]) (st' := [.ref 5]) (h' := _) _ hn_273 hk_273_76 rfl ?_
        refine AR.s (pc' := 78) (lv' := [(0, .ref 5), (1, .int x)]) (st' := [.int x, .ref 5]) (h' := _) _ hn_273 hk_273_77 rfl ?_
        refine AR.px hk_273_78 (by decide) (by decide) (vs := [.ref k7, .int 0, .int z131, .int n]) B8.1 (show ax_cls[10]? = some hy_c10 from rfl) rfl rfl ?_
        have B9 := B8.p (m := x) _ rfl
        show AR _ _ _ _ _ _ _ 81 [(0, .ref 5), (1, .int x)] [] _ _ _
        exact AR.vret hk_273_81 hr_273 ⟨rfl, hb_fr.trans F7 (hb_fr.trans (hb_fr.s5 _ _) (hb_fr.s5 _ _)), _, _, _, _, B9, by rw [e3 0 rfl]; exact l7, hx⟩
    · exact absurd p4 (by omega)
  · exact absurd p2 (by omega)
theorem hj_s0 (hlst : l.stackTraces = false) (B : hb k bs ml n h) (hbl : bs.length ≤ 700) (hn0 : 0 ≤ n.toInt) (hn1 : n.toInt ≤ bs.length) (hL : 16 ≤ bs.length) (hx : x.toInt = 0) : AM ax_ns l (ax_mm 263) 4 ty_R (0) (0) [.ref 5, .int x] h (hq_s0 h bs.length) := by
  refine AM.of (ax_mfacts (by decide +kernel : ax_has 263 = true)).2.2.2.2.2.2 hlst (by rw [hn_263]; exact Nat.le_of_ble_eq_true rfl) ?_
  show AR ax_ns l (ax_mm 263) 4 ty_R _ _ 0 [(0, .ref 5), (1, .int x)] [] h (0) (0)
  refine AR.s (pc' := 1) (lv' := [(0, .ref 5), (1, .int x)]) (st' := [.ref 5]) (h' := h) _ hn_263 hk_263_0 rfl ?_
  refine AR.s (pc' := 2) (lv' := [(0, .ref 5), (1, .int x)]) (st' := [.int x, .ref 5]) (h' := h) _ hn_263 hk_263_1 rfl ?_
  refine AR.ju (as := [.int x]) (rest := []) hk_263_2 (by decide +kernel) (by decide +kernel) (by decide +kernel) B.1 rfl rfl (Nat.le_of_ble_eq_true rfl) (hj_s0a hlst B hbl hn0 hn1 hL hx) (by decide) (Nat.le_refl _) (Nat.le_refl _) (fun E h' q => by cases q.1) ?_
  rintro w7 h7 ⟨e, Q7⟩
  cases e
  show AR _ _ _ _ _ _ _ 5 [(0, .ref 5), (1, .int x)] [] h7 _ _
  exact AR.vret hk_263_5 hr_263 ⟨rfl, Q7⟩
theorem hj_ci (hlst : l.stackTraces = false) {v : Value} (hv : v = .null ∨ v = .retAddr 0) (h0 : 0 ≤ x.toInt) (h1 : x.toInt < n.toInt) : AM ax_ns l (ax_mm 279) 0 ty_R 0 0 [.int x, .int n, v] h (hq_int h x.toInt) := by
  rcases hv with rfl | rfl
  · refine AM.of (ax_mfacts (by decide +kernel : ax_has 279 = true)).2.2.2.2.2.2 hlst (by rw [hn_279]; exact Nat.le_of_ble_eq_true rfl) ?_
    show AR ax_ns l (ax_mm 279) 0 ty_R _ _ 0 [(0, .int x), (1, .int n), (2, .null)] [] h 0 0
    refine AR.s (pc' := 1) (lv' := [(0, .int x), (1, .int n), (2, .null)]) (st' := [.int x]) (h' := h) _ hn_279 hk_279_0 rfl ?_
    refine AR.zlt hk_279_1 (tgt := 9) (by decide) (fun p1 => ?_) (fun p2 => ?_)
    · exact absurd p1 (by omega)
    · refine AR.s (pc' := 5) (lv' := [(0, .int x), (1, .int n), (2, .null)]) (st' := [.int x]) (h' := h) _ hn_279 hk_279_4 rfl ?_
      refine AR.s (pc' := 6) (lv' := [(0, .int x), (1, .int n), (2, .null)]) (st' := [.int n, .int x]) (h' := h) _ hn_279 hk_279_5 rfl ?_
      refine AR.jlt hk_279_6 (tgt := 16) (by decide) (fun p3 => ?_) (fun p4 => ?_)
      · refine AR.s (pc' := 17) (lv' := [(0, .int x), (1, .int n), (2, .null)]) (st' := [.int x]) (h' := h) _ hn_279 hk_279_16 rfl ?_
        exact AR.iret hk_279_17 hr_279 ⟨rfl, _, rfl, rfl⟩
      · exact absurd p4 (by omega)
  · refine AM.of (ax_mfacts (by decide +kernel : ax_has 279 = true)).2.2.2.2.2.2 hlst (by rw [hn_279]; exact Nat.le_of_ble_eq_true rfl) ?_
    show AR ax_ns l (ax_mm 279) 0 ty_R _ _ 0 [(0, .int x), (1, .int n), (2, .retAddr 0)] [] h 0 0
    refine AR.s (pc' := 1) (lv' := [(0, .int x), (1, .int n), (2, .retAddr 0)]) (st' := [.int x]) (h' := h) _ hn_279 hk_279_0 rfl ?_
    refine AR.zlt hk_279_1 (tgt := 9) (by decide) (fun p1 => ?_) (fun p2 => ?_)
    · exact absurd p1 (by omega)
    · refine AR.s (pc' := 5) (lv' := [(0, .int x), (1, .int n), (2, .retAddr 0)]) (st' := [.int x]) (h' := h) _ hn_279 hk_279_4 rfl ?_
      refine AR.s (pc' := 6) (lv' := [(0, .int x), (1, .int n), (2, .retAddr 0)]) (st' := [.int n, .int x]) (h' := h) _ hn_279 hk_279_5 rfl ?_
      refine AR.jlt hk_279_6 (tgt := 16) (by decide) (fun p3 => ?_) (fun p4 => ?_)
      · refine AR.s (pc' := 17) (lv' := [(0, .int x), (1, .int n), (2, .retAddr 0)]) (st' := [.int x]) (h' := h) _ hn_279 hk_279_16 rfl ?_
        exact AR.iret hk_279_17 hr_279 ⟨rfl, _, rfl, rfl⟩
      · exact absurd p4 (by omega)
theorem hj_si (hlst : l.stackTraces = false) (h0 : 0 ≤ x.toInt) (h1 : x.toInt < n.toInt) : AM ax_ns l (ax_mm 278) 1 ty_R (0) (0) [.int x, .int n] h (hq_nc h) := by
  refine AM.of (ax_mfacts (by decide +kernel : ax_has 278 = true)).2.2.2.2.2.2 hlst (by rw [hn_278]; exact Nat.le_of_ble_eq_true rfl) ?_
  show AR ax_ns l (ax_mm 278) 1 ty_R _ _ 0 [(0, .int x), (1, .int n)] [] h (0) (0)
  refine AR.s (pc' := 1) (lv' := [(0, .int x), (1, .int n)]) (st' := [.int x]) (h' := h) _ hn_278 hk_278_0 rfl ?_
  refine AR.s (pc' := 2) (lv' := [(0, .int x), (1, .int n)]) (st' := [.int n, .int x]) (h' := h) _ hn_278 hk_278_1 rfl ?_
  refine AR.getq (ax_look_ok hk_278_2).1 (ax_wk_mem (ix := 3216) (by decide +kernel)) (fun v hv => ?_)
  show AR _ _ _ _ _ _ _ 5 [(0, .int x), (1, .int n)] [v, .int n, .int x] h _ _
  refine AR.cs (as := [.int x, .int n, v]) (rest := []) hk_278_5 (by decide +kernel) rfl rfl (Nat.le_of_ble_eq_true rfl) (hj_ci hlst hv h0 h1) (by decide) (Nat.zero_le _) (Nat.zero_le _) (fun E h' q => by obtain ⟨-, x, e, -⟩ := q; cases e) ?_
  rintro w132 g133 ⟨eg133, z134, e, ez134⟩
  cases e
  obtain rfl := eg133.symm
  show AR _ _ _ _ _ _ _ 8 [(0, .int x), (1, .int n)] [.int z134] h _ _
  refine AR.s (pc' := 9) (lv' := [(0, .int x), (1, .int n)]) (st' := []) (h' := h) _ hn_278 hk_278_8 rfl ?_
  exact AR.vret hk_278_9 hr_278 ⟨rfl, rfl⟩
def ax_retc (k : ax_M) (Q : ax_Q) : ax_P := fun pc _ st h bc bs => ∃ x : Int32, st = [.int x] ∧ narrow .char (.int x) = .int x ∧ decode k.2.1 pc = .ok (.ireturn, 1) ∧ k.2.2.2.1 = some .char ∧ Q (.inl (some (.int x))) h
theorem AM.ofc {ns : ax_NS} {l : Launch} {k : ax_M} {d : Nat} {r : ax_H} {mc ms : Nat} {as : List Value} {h : ax_H} {Q : ax_Q} (hy : plainName k.1.cls = true) (hl : l.stackTraces = false) (hlen : (lg_sl as).length ≤ k.2.2.1) (hnil : k.2.2.2.2 = []) (hbody : AR ns l k d r (ax_retc k Q) (fun _ _ _ _ _ _ => False) 0 (lv_args 0 as) [] h mc ms) : AM ns l k d r mc ms as h Q := by
  intro D b o
  refine vx_ofW (cc := k.2.1) (maxL := k.2.2.1) (ret := k.2.2.2.1) hy (ws' := ax_tb) (by rw [ax_ws, ax_hd_nil hnil]) ?_
  intro p e s m args below meth c s₁ B hml hex hv
  have hex : c.exceptionTable.toList = tableOf k.2.2.2.2 := by
    rw [hnil]
    cases he : c.exceptionTable.toList with
    | nil => rfl
    | cons x t => exact (hex x (by rw [he]; exact List.mem_cons_self)).elim
  obtain ⟨ac, rfl, ha, hR, hT, hz⟩ := hv
  have hts0 := atoms_spec (ws := ax_ws k) B.pre
  have hX : ax_X ns l k d r D b o mc ms p (headSpec (ax_ws k) (ax_rm d mc ms)).room s m ac.toArray meth c :=
    ⟨B.exec, B.bytes, hml, findClass_of_methodNamed B.named, fun w hw => hts0 w (List.mem_cons_of_mem _ hw), hT, Nat.le_refl _, Nat.le_refl _, Nat.le_refl _, Nat.le_refl _, B.notSynchronized, (name_of_methodNamed B.named B.method).1, hl, hex, hz⟩
  rw [lg_entry_eq]
  have hlc : (lg_sl ac).length ≤ k.2.2.1 := by rw [ax_sl_len ha]; exact hlen
  have hl0 := lv_entry ac (n := k.2.2.1) hlc
  refine hbody D b o mc ms p e _ s m ac.toArray below meth c _ hX (fun pc lv st h bc bs hp => ?_) (fun pc lv E h bc bs hq => hq.elim) _ _ _ _ [] 0 0 ⟨hl0, ax_args 0 ha, rfl, hR, va_S.rf, by omega, by omega⟩
  intro lvc ls stc H locs cells slots hG
  obtain ⟨g1, g2, g3, g4, g5, g6, g7⟩ := hG
  obtain ⟨hx, hb, hml, hown, hts, hT, hfr, hlo, -, -, hlk, -, htr, hex, -⟩ := id hX
  obtain ⟨x, rfl, hn, hd, hk, hQ⟩ := hp
  obtain ⟨v, t1, rfl, hv, ht1⟩ := g3
  cases ht1
  cases hv
  refine W.widen (k := mc) (n := ms) (by omega) (by omega) (vx_ret (W.zret hx hb (by rw [B.returns]; exact hk) hn (fun t ht hW => ?_) g5.2.2 hd hlk))
  exact ⟨some (.int x), _, h, rfl, ⟨_, rfl, rfl⟩, hQ, by rw [ht]; exact g4, g5.F ht⟩
def hj_cc (x : Int32) : Prop := narrow .char (.int x) = .int x ∧ 0 ≤ x.toInt ∧ x.toInt ≤ 65535
theorem hj_c (x : Int32) : hj_cc (x.toUInt32 % 65536).toInt32 := by
  have g : ∀ u : UInt32, u.toNat < 65536 → u.toInt32.toInt = (u.toNat : Int) := fun u hu => by
    show (u.toBitVec).toInt = _
    rw [BitVec.toInt_eq_toNat_bmod]
    exact Int.bmod_eq_of_le (by show -_ ≤ (u.toNat : Int); omega) (by show (u.toNat : Int) < _; omega)
  have h2 : (x.toUInt32 % 65536).toNat = x.toUInt32.toNat % 65536 := UInt32.toNat_mod ..
  have e := g (x.toUInt32 % 65536) (by omega)
  refine ⟨?_, by omega, by omega⟩
  show Value.int _ = _
  congr 1
  apply Int32.toInt_inj.mp
  have h3 : (x.toUInt32 % 65536).toInt32.toUInt32 = x.toUInt32 % 65536 := by simp
  have h4 : ((x.toUInt32 % 65536).toUInt16.toUInt32).toNat = (x.toUInt32 % 65536).toNat := by
    rw [UInt16.toNat_toUInt32, UInt32.toNat_toUInt16]
    omega
  rw [h3, e, g _ (by omega), h4]
def hq_ch (h : ax_H) : ax_Q := fun res g => g = h ∧ ∃ z : Int32, res = .inl (some (.int z)) ∧ hj_cc z
theorem AR.cret {d i pc : Nat} {X : ax_PX} {lv : List (Nat × Value)} {bc bs' : Nat} {v : Value} {ws : List Nat} {w : Nat × Nat × Nat} {Q : ax_Q} (hl : ax_look i pc = some (.ireturn, w, v, ws)) (ht : (ax_mm i).2.2.2.1 = some .char) (hx : hj_cc x) (hq : Q (.inl (some (.int x))) h) : AR ax_ns l (ax_mm i) d ty_R (ax_retc (ax_mm i) Q) X pc lv [.int x] h bc bs' := AR.at ⟨x, rfl, hx.1, (ax_look_ok hl).1, ht, hq⟩
theorem hj_cha (hlst : l.stackTraces = false) (B : hb k bs ml n h) (hbl : bs.length ≤ 2000) (hn1 : n.toInt ≤ bs.length) (h0 : 0 ≤ x.toInt) (h1 : x.toInt < n.toInt) : AM ax_ns l (ax_mm 274) 2 ty_R (0) (0) [.ref 5, .int x] h (hq_ch h) := by
  refine AM.ofc (ax_mfacts (by decide +kernel : ax_has 274 = true)).2.2.2.2.2.2 hlst (by rw [hn_274]; exact Nat.le_of_ble_eq_true rfl) (by decide +kernel) ?_
  show AR ax_ns l (ax_mm 274) 2 ty_R _ _ 0 [(0, .ref 5), (1, .int x)] [] h (0) (0)
  have c0 : (0 : Int32).toInt = 0 := rfl
  refine AR.s (pc' := 1) (lv' := [(0, .ref 5), (1, .int x)]) (st' := [.ref 5]) (h' := h) _ hn_274 hk_274_0 rfl ?_
  refine AR.gx hk_274_1 (by decide) (by decide) B.1 (x := .int 0) rfl ?_
  show AR _ _ _ _ _ _ _ 4 [(0, .ref 5), (1, .int x)] [.int 0] h _ _
  refine AR.s (pc' := 5) (lv' := [(2, .int 0), (0, .ref 5), (1, .int x)]) (st' := []) (h' := h) _ hn_274 hk_274_4 rfl ?_
  refine AR.s (pc' := 6) (lv' := [(2, .int 0), (0, .ref 5), (1, .int x)]) (st' := [.ref 5]) (h' := h) _ hn_274 hk_274_5 rfl ?_
  refine AR.gx hk_274_6 (by decide) (by decide) B.1 (x := .ref k) rfl ?_
  show AR _ _ _ _ _ _ _ 9 [(2, .int 0), (0, .ref 5), (1, .int x)] [.ref k] h _ _
  refine AR.s (pc' := 10) (lv' := [(3, .ref k), (2, .int 0), (0, .ref 5), (1, .int x)]) (st' := []) (h' := h) _ hn_274 hk_274_9 rfl ?_
  refine AR.s (pc' := 11) (lv' := [(3, .ref k), (2, .int 0), (0, .ref 5), (1, .int x)]) (st' := [.ref 5]) (h' := h) _ hn_274 hk_274_10 rfl ?_
  refine AR.gx hk_274_11 (by decide) (by decide) B.1 (x := .int n) rfl ?_
  show AR _ _ _ _ _ _ _ 14 [(3, .ref k), (2, .int 0), (0, .ref 5), (1, .int x)] [.int n] h _ _
  refine AR.s (pc' := 15) (lv' := [(3, .ref k), (2, .int 0), (0, .ref 5), (1, .int x)]) (st' := [.ref k, .int n]) (h' := h) _ hn_274 hk_274_14 rfl ?_
  refine AR.alx (t := 0) hk_274_15 B.2.2.2.1 B.2.1 (by omega) (fun z135 ez135 => ?_)
  show AR _ _ _ _ _ _ _ 16 [(3, .ref k), (2, .int 0), (0, .ref 5), (1, .int x)] [.int z135, .int n] h _ _
  refine AR.s (pc' := 17) (lv' := [(3, .ref k), (2, .int 0), (0, .ref 5), (1, .int x)]) (st' := [.int 0, .int z135, .int n]) (h' := h) _ hn_274 hk_274_16 rfl ?_
  refine AR.shrT hk_274_17 ?_
  show AR _ _ _ _ _ _ _ 18 [(3, .ref k), (2, .int 0), (0, .ref 5), (1, .int x)] [.int z135, .int n] h _ _
  refine AR.mminI (ax_look_ok hk_274_18).1 (ax_wk_mem (ix := 999999) (by decide +kernel)) (ax_wk_mem (ix := 4064) (by decide +kernel)) (ax_wk_mem (ix := 999999) (by decide +kernel)) (Nat.le_of_ble_eq_true rfl) ?_
  show AR _ _ _ _ _ _ _ 21 [(3, .ref k), (2, .int 0), (0, .ref 5), (1, .int x)] [.int (if z135 < n then z135 else n)] h _ _
  have e7 : (if z135 < n then z135 else n).toInt = n.toInt := by
    split
    · rename_i e; rw [Int32.lt_iff_toInt_lt] at e; omega
    · rfl
  generalize (if z135 < n then z135 else n) = m7 at e7
  show AR _ _ _ _ _ _ _ 21 [(3, .ref k), (2, .int 0), (0, .ref 5), (1, .int x)] [.int m7] h _ _
  refine AR.s (pc' := 23) (lv' := [(4, .int m7), (3, .ref k), (2, .int 0), (0, .ref 5), (1, .int x)]) (st' := []) (h' := h) _ hn_274 hk_274_21 rfl ?_
  refine AR.s (pc' := 24) (lv' := [(4, .int m7), (3, .ref k), (2, .int 0), (0, .ref 5), (1, .int x)]) (st' := [.int x]) (h' := h) _ hn_274 hk_274_23 rfl ?_
  refine AR.s (pc' := 26) (lv' := [(4, .int m7), (3, .ref k), (2, .int 0), (0, .ref 5), (1, .int x)]) (st' := [.int m7, .int x]) (h' := h) _ hn_274 hk_274_24 rfl ?_
  refine AR.cs (as := [.int x, .int m7]) (rest := []) hk_274_26 (by decide +kernel) rfl rfl (Nat.le_of_ble_eq_true rfl) (hj_si hlst h0 (by omega)) (by decide) (Nat.zero_le _) (Nat.zero_le _) (fun E h' q => by cases q.1) ?_
  rintro w136 g137 ⟨e, eg137⟩
  cases e
  obtain rfl := eg137.symm
  show AR _ _ _ _ _ _ _ 29 [(4, .int m7), (3, .ref k), (2, .int 0), (0, .ref 5), (1, .int x)] [] h _ _
  refine AR.s (pc' := 30) (lv' := [(4, .int m7), (3, .ref k), (2, .int 0), (0, .ref 5), (1, .int x)]) (st' := [.int 0]) (h' := h) _ hn_274 hk_274_29 rfl ?_
  refine AR.zne hk_274_30 (tgt := 42) (by decide) (fun p1 => ?_) (fun p2 => ?_)
  · exact absurd rfl p1
  · refine AR.s (pc' := 34) (lv' := [(4, .int m7), (3, .ref k), (2, .int 0), (0, .ref 5), (1, .int x)]) (st' := [.ref k]) (h' := h) _ hn_274 hk_274_33 rfl ?_
    refine AR.s (pc' := 35) (lv' := [(4, .int m7), (3, .ref k), (2, .int 0), (0, .ref 5), (1, .int x)]) (st' := [.int x, .ref k]) (h' := h) _ hn_274 hk_274_34 rfl ?_
    have hlt : x.toNatClampNeg < bs.length := by show x.toInt.toNat < _; omega
    obtain ⟨z7, e8, b1, b2⟩ := B.2.2.2.2 _ (List.getElem_mem hlt)
    refine AR.baload (ax_look_ok hk_274_35).1 (hb_get B.2.2.2.1 B.2.1) (hj_nn h0).1 (x := .int z7) (by rw [List.getElem?_eq_getElem hlt, e8]) ?_
    show AR _ _ _ _ _ _ _ 36 [(4, .int m7), (3, .ref k), (2, .int 0), (0, .ref 5), (1, .int x)] [.int z7] h _ _
    refine AR.sipushT hk_274_36 (by decide) (fun z138 ez138 => ?_)
    show AR _ _ _ _ _ _ _ 39 [(4, .int m7), (3, .ref k), (2, .int 0), (0, .ref 5), (1, .int x)] [.int z138, .int z7] h _ _
    refine AR.iand (z := .int (z7 &&& z138)) (ax_look_ok hk_274_39).1 rfl ?_
    show AR _ _ _ _ _ _ _ 40 [(4, .int m7), (3, .ref k), (2, .int 0), (0, .ref 5), (1, .int x)] [.int (z7 &&& z138)] h _ _
    refine AR.i2c (z := .int ((z7 &&& z138).toUInt32 % 65536).toInt32) (ax_look_ok hk_274_40).1 rfl ?_
    exact AR.cret hk_274_41 hr_274 (hj_c _) ⟨rfl, _, rfl, hj_c _⟩
theorem hj_ch (hlst : l.stackTraces = false) (B : hb k bs ml n h) (hbl : bs.length ≤ 2000) (hn1 : n.toInt ≤ bs.length) (h0 : 0 ≤ x.toInt) (h1 : x.toInt < n.toInt) : AM ax_ns l (ax_mm 264) 3 ty_R (0) (0) [.ref 5, .int x] h (hq_ch h) := by
  refine AM.ofc (ax_mfacts (by decide +kernel : ax_has 264 = true)).2.2.2.2.2.2 hlst (by rw [hn_264]; exact Nat.le_of_ble_eq_true rfl) (by decide +kernel) ?_
  show AR ax_ns l (ax_mm 264) 3 ty_R _ _ 0 [(0, .ref 5), (1, .int x)] [] h (0) (0)
  refine AR.s (pc' := 1) (lv' := [(0, .ref 5), (1, .int x)]) (st' := [.ref 5]) (h' := h) _ hn_264 hk_264_0 rfl ?_
  refine AR.s (pc' := 2) (lv' := [(0, .ref 5), (1, .int x)]) (st' := [.int x, .ref 5]) (h' := h) _ hn_264 hk_264_1 rfl ?_
  refine AR.ju (as := [.int x]) (rest := []) hk_264_2 (by decide +kernel) (by decide +kernel) (by decide +kernel) B.1 rfl rfl (Nat.le_of_ble_eq_true rfl) (hj_cha hlst B hbl hn1 h0 h1) (by decide) (Nat.le_refl _) (Nat.le_refl _) (fun E h' q => by obtain ⟨-, x, e, -⟩ := q; cases e) ?_
  rintro w7 h7 ⟨e7, z7, e, c7⟩
  cases e
  obtain rfl := e7.symm
  show AR _ _ _ _ _ _ _ 5 [(0, .ref 5), (1, .int x)] [.int z7] h _ _
  exact AR.cret hk_264_5 hr_264 c7 ⟨rfl, z7, rfl, c7⟩
end HJ3
