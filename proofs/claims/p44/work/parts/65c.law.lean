/-! p44, 10: the law's body as one -/
theorem hs_285_439 : ax_site (ax_mm 285) (ax_mm 275) 9 0 := by
  have m := ax_mfacts (by decide +kernel : ax_has 275 = true)
  exact ⟨m.1, m.2.1, ax_wk_mem (ix := 3187) (by decide +kernel), ⟨m.2.2.2.1, m.2.2.2.2.1, by decide +kernel⟩, m.2.2.2.2.2.1⟩
section LWI
variable {l : Launch} {h g : ax_H} {n p L b5 : Nat} {xs : Nat → Int32} {F U : Nat → Bool} {P : ax_P} {X : ax_PX} {bc bs : Nat} {f : Nat → Int32} {Y N V v : Nat}
theorem ex_hm (W : ∀ w, w < 64 → ∀ k, k < 64 → pb (hw g 148 w) k = F k) : ((∃ w k, w < 64 ∧ k < 64 ∧ hm g Y N w k = true) → ex F (ma Y N 6) 64 = true) ∧ ((∀ w, w < 64 → ∀ k, k < 64 → hm g Y N w k = false) → ex F (ma Y N 6) 64 = false) := by
  constructor
  · rintro ⟨w, k, hw0, hk, e⟩
    unfold hm at e
    rw [W w hw0 k hk, Bool.and_eq_true_iff] at e
    exact (ex_iff 64).mpr ⟨k, hk, e⟩
  · intro a
    cases e : ex F (ma Y N 6) 64 with
    | false => rfl
    | true =>
      obtain ⟨k, hk, e1, e2⟩ := (ex_iff 64).mp e
      have := a 0 (by decide) k hk
      unfold hm at this
      rw [W 0 (by decide) k hk, e1, e2] at this
      cases this
theorem uV_0 (e : uV V N (2 * v) = true) : V.testBit v = true ∧ uV V N (2 * v + 1) = false := by
  unfold uV at e ⊢
  rw [show 2 * v / 2 = v by omega, decide_eq_false (show ¬ 2 * v % 2 = 1 by omega)] at e
  rw [show (2 * v + 1) / 2 = v by omega, decide_eq_true (show (2 * v + 1) % 2 = 1 by omega)]
  cases eV : V.testBit v <;> cases eN : N.testBit v <;> simp [eV, eN] at e ⊢
theorem uV_1 (e : uV V N (2 * v + 1) = true) : V.testBit v = true ∧ uV V N (2 * v) = false := by
  unfold uV at e ⊢
  rw [show (2 * v + 1) / 2 = v by omega, decide_eq_true (show (2 * v + 1) % 2 = 1 by omega)] at e
  rw [show 2 * v / 2 = v by omega, decide_eq_false (show ¬ 2 * v % 2 = 1 by omega)]
  cases eV : V.testBit v <;> cases eN : N.testBit v <;> simp [eV, eN] at e ⊢
theorem ld_a : ∀ Y, Y < 64 → ∀ V, V < 64 → Y &&& V < 64 ∧ (Y &&& V) &&& Y = Y &&& V := by decide +kernel
theorem wA_0 {t : Nat} {a : Int32} (h : a.toInt = 0) : wA U t a 0 := fun v hv => by
  rw [show a = 0 from Int32.toInt_inj.mp (h.trans rfl), ib_0, decide_eq_false (Nat.not_lt_zero _), Bool.and_false, Bool.and_false]
/-- behind an explain that answered a reason -/
theorem law_571 (hlst : l.stackTraces = false) {x y z : Int32} (b1 : b5 < 1000000000) (e5 : g[b5]? = some (102, ar 64 f)) (hf : ∀ k, k < 64 → f k = bi (F k)) {fr fd fa : Nat → Int32} (A9 : AA g fr fd fa) (V9 : AV L xs 4 fr fd fa) (H : hy_H 0 g) (hx : x.toInt = Y) (hY : Y < 64) (hy : y.toInt = N) (hN : N < 64) (hYN : Y &&& N = 0) (W : ∀ w, w < 64 → ∀ k, k < 64 → pb (hw h 148 w) k = F k) (R : rs h Y N V) (z0 : z.toInt = cnt (uV V N) 24) (r1 : hy_z g 21 1 = cnt (uV V N) 24) (r2 : ∀ k, k < 24 → uV V N k = true → hy_z g 22 (cnt (uV V N) k) = k) : AR ax_ns l (ax_mm 285) 8 (ax_r L xs) lw_PE X 571 [(14, .int z), (12, .int y), (11, .int x), (5, .ref b5), (4, .ref 183), (3, .ref 182), (2, .ref 181), (1, .ref 0), (0, .ref 1000000001)] [] g (bc) (bs) := by
  obtain ⟨R1, R2, R3, R4⟩ := R
  have wv := fun (v : Nat) (hv : v < 12) => w_uV hY hN hYN R1 R2 hv
  obtain ⟨hA, aY⟩ := ld_a Y hY V R1
  obtain ⟨hB, aN⟩ := ld_a N hN V R1
  show AR _ _ _ _ _ _ _ 571 [(14, .int z), (12, .int y), (11, .int x), (5, .ref b5), (4, .ref 183), (3, .ref 182), (2, .ref 181), (1, .ref 0), (0, .ref 1000000001)] [] g _ _
  refine AW.iconstT hk_285_571 (by decide) (fun z408 ez408 => ?_)
  show AR _ _ _ _ _ _ _ 572 [(14, .int z), (12, .int y), (11, .int x), (5, .ref b5), (4, .ref 183), (3, .ref 182), (2, .ref 181), (1, .ref 0), (0, .ref 1000000001)] [.int z408] g _ _
  refine AR.s (pc' := 574) (lv' := [(15, .int z408), (14, .int z), (12, .int y), (11, .int x), (5, .ref b5), (4, .ref 183), (3, .ref 182), (2, .ref 181), (1, .ref 0), (0, .ref 1000000001)]) (st' := []) (h' := g) _ hn_285 hk_285_572 rfl ?_
  refine AW.iconstT hk_285_574 (by decide) (fun z409 ez409 => ?_)
  show AR _ _ _ _ _ _ _ 575 [(15, .int z408), (14, .int z), (12, .int y), (11, .int x), (5, .ref b5), (4, .ref 183), (3, .ref 182), (2, .ref 181), (1, .ref 0), (0, .ref 1000000001)] [.int z409] g _ _
  refine AR.s (pc' := 577) (lv' := [(16, .int z409), (15, .int z408), (14, .int z), (12, .int y), (11, .int x), (5, .ref b5), (4, .ref 183), (3, .ref 182), (2, .ref 181), (1, .ref 0), (0, .ref 1000000001)]) (st' := []) (h' := g) _ hn_285 hk_285_575 rfl ?_
  refine AW.iconstT hk_285_577 (by decide) (fun z410 ez410 => ?_)
  show AR _ _ _ _ _ _ _ 578 [(16, .int z409), (15, .int z408), (14, .int z), (12, .int y), (11, .int x), (5, .ref b5), (4, .ref 183), (3, .ref 182), (2, .ref 181), (1, .ref 0), (0, .ref 1000000001)] [.int z410] g _ _
  refine AR.s (pc' := 580) (lv' := [(17, .int z410), (16, .int z409), (15, .int z408), (14, .int z), (12, .int y), (11, .int x), (5, .ref b5), (4, .ref 183), (3, .ref 182), (2, .ref 181), (1, .ref 0), (0, .ref 1000000001)]) (st' := []) (h' := g) _ hn_285 hk_285_578 rfl ?_
  refine AR.lessL (lv' := [(17, .int z410), (16, .int z409), (15, .int z408), (14, .int z), (12, .int y), (11, .int x), (5, .ref b5), (4, .ref 183), (3, .ref 182), (2, .ref 181), (1, .ref 0), (0, .ref 1000000001)]) (List.forall_mem_cons.mpr ⟨⟨_, by simp, ax_le_rfl rfl⟩, (List.forall_mem_cons.mpr ⟨⟨_, by simp, ax_le_rfl rfl⟩, (List.forall_mem_cons.mpr ⟨⟨_, by simp, ax_le_rfl rfl⟩, (List.forall_mem_cons.mpr ⟨⟨_, by simp, ax_le_rfl rfl⟩, (List.forall_mem_cons.mpr ⟨⟨_, by simp, ax_le_rfl rfl⟩, (List.forall_mem_cons.mpr ⟨⟨_, by simp, ax_le_rfl rfl⟩, (List.forall_mem_cons.mpr ⟨⟨_, by simp, ax_le_rfl rfl⟩, (List.forall_mem_cons.mpr ⟨⟨_, by simp, ax_le_rfl rfl⟩, (List.forall_mem_cons.mpr ⟨⟨_, by simp, ax_le_rfl rfl⟩, (List.forall_mem_cons.mpr ⟨⟨_, by simp, ax_le_rfl rfl⟩, (List.forall_mem_cons.mpr ⟨⟨_, by simp, ax_le_rfl rfl⟩, (List.forall_mem_cons.mpr ⟨⟨_, by simp, ax_le_rfl rfl⟩, (fun _ h => absurd h List.not_mem_nil)⟩)⟩)⟩)⟩)⟩)⟩)⟩)⟩)⟩)⟩)⟩)⟩) ?_
  refine l6 hlst H z0 r1 r2 (fun a b wa wb => ?_) _ 0 _ _ _ (Nat.zero_add _) (by omega) (wA_0 (by omega)) (wA_0 (by omega))
  have va := wA_end wa (by decide) hA (fun v hv => (wv v hv).1)
  have vb := wA_end wb (by decide) hB (fun v hv => (wv v hv).2)
  show AR _ _ _ _ _ _ _ 633 [(16, .int b), (15, .int a), (14, .int z), (12, .int y), (11, .int x), (5, .ref b5), (4, .ref 183), (3, .ref 182), (2, .ref 181), (1, .ref 0), (0, .ref 1000000001)] [] g _ _
  refine AR.s (pc' := 635) (lv' := [(16, .int b), (15, .int a), (14, .int z), (12, .int y), (11, .int x), (5, .ref b5), (4, .ref 183), (3, .ref 182), (2, .ref 181), (1, .ref 0), (0, .ref 1000000001)]) (st' := [.int a]) (h' := g) _ hn_285 hk_285_633 rfl ?_
  refine AR.s (pc' := 637) (lv' := [(16, .int b), (15, .int a), (14, .int z), (12, .int y), (11, .int x), (5, .ref b5), (4, .ref 183), (3, .ref 182), (2, .ref 181), (1, .ref 0), (0, .ref 1000000001)]) (st' := [.int x, .int a]) (h' := g) _ hn_285 hk_285_635 rfl ?_
  refine AW.iconstT hk_285_637 (by decide) (fun z411 ez411 => ?_)
  show AR _ _ _ _ _ _ _ 638 [(16, .int b), (15, .int a), (14, .int z), (12, .int y), (11, .int x), (5, .ref b5), (4, .ref 183), (3, .ref 182), (2, .ref 181), (1, .ref 0), (0, .ref 1000000001)] [.int z411, .int x, .int a] g _ _
  refine AR.ixor (z := .int (x ^^^ z411)) (ax_look_ok hk_285_638).1 rfl ?_
  generalize gz412 : x ^^^ z411 = z412
  show AR _ _ _ _ _ _ _ 639 [(16, .int b), (15, .int a), (14, .int z), (12, .int y), (11, .int x), (5, .ref b5), (4, .ref 183), (3, .ref 182), (2, .ref 181), (1, .ref 0), (0, .ref 1000000001)] [.int z412, .int a] g _ _
  have hD := nt_of va hA hx hY ez411
  rw [gz412] at hD
  refine AR.iand (z := .int (a &&& z412)) (ax_look_ok hk_285_639).1 rfl ?_
  generalize gz413 : a &&& z412 = z413
  show AR _ _ _ _ _ _ _ 640 [(16, .int b), (15, .int a), (14, .int z), (12, .int y), (11, .int x), (5, .ref b5), (4, .ref 183), (3, .ref 182), (2, .ref 181), (1, .ref 0), (0, .ref 1000000001)] [.int z413] g _ _
  rw [gz413, (nt_a _ hA _ hY).2.2.2 aY] at hD
  show AR _ _ _ _ _ _ _ 640 [(16, .int b), (15, .int a), (14, .int z), (12, .int y), (11, .int x), (5, .ref b5), (4, .ref 183), (3, .ref 182), (2, .ref 181), (1, .ref 0), (0, .ref 1000000001)] [.int z413] g _ _
  refine AW.zne hk_285_640 (tgt := 653) (by decide) (fun p1 => ?_) (fun p2 => ?_)
  · exact absurd (by omega) p1
  · refine AR.s (pc' := 645) (lv' := [(16, .int b), (15, .int a), (14, .int z), (12, .int y), (11, .int x), (5, .ref b5), (4, .ref 183), (3, .ref 182), (2, .ref 181), (1, .ref 0), (0, .ref 1000000001)]) (st' := [.int b]) (h' := g) _ hn_285 hk_285_643 rfl ?_
    refine AR.s (pc' := 647) (lv' := [(16, .int b), (15, .int a), (14, .int z), (12, .int y), (11, .int x), (5, .ref b5), (4, .ref 183), (3, .ref 182), (2, .ref 181), (1, .ref 0), (0, .ref 1000000001)]) (st' := [.int y, .int b]) (h' := g) _ hn_285 hk_285_645 rfl ?_
    refine AW.iconstT hk_285_647 (by decide) (fun z414 ez414 => ?_)
    show AR _ _ _ _ _ _ _ 648 [(16, .int b), (15, .int a), (14, .int z), (12, .int y), (11, .int x), (5, .ref b5), (4, .ref 183), (3, .ref 182), (2, .ref 181), (1, .ref 0), (0, .ref 1000000001)] [.int z414, .int y, .int b] g _ _
    refine AR.ixor (z := .int (y ^^^ z414)) (ax_look_ok hk_285_648).1 rfl ?_
    generalize gz415 : y ^^^ z414 = z415
    show AR _ _ _ _ _ _ _ 649 [(16, .int b), (15, .int a), (14, .int z), (12, .int y), (11, .int x), (5, .ref b5), (4, .ref 183), (3, .ref 182), (2, .ref 181), (1, .ref 0), (0, .ref 1000000001)] [.int z415, .int b] g _ _
    have hD := nt_of vb hB hy hN ez414
    rw [gz415] at hD
    refine AR.iand (z := .int (b &&& z415)) (ax_look_ok hk_285_649).1 rfl ?_
    generalize gz416 : b &&& z415 = z416
    show AR _ _ _ _ _ _ _ 650 [(16, .int b), (15, .int a), (14, .int z), (12, .int y), (11, .int x), (5, .ref b5), (4, .ref 183), (3, .ref 182), (2, .ref 181), (1, .ref 0), (0, .ref 1000000001)] [.int z416] g _ _
    rw [gz416, (nt_a _ hB _ hN).2.2.2 aN] at hD
    show AR _ _ _ _ _ _ _ 650 [(16, .int b), (15, .int a), (14, .int z), (12, .int y), (11, .int x), (5, .ref b5), (4, .ref 183), (3, .ref 182), (2, .ref 181), (1, .ref 0), (0, .ref 1000000001)] [.int z416] g _ _
    refine AW.zeq hk_285_650 (tgt := 655) (by decide) (fun q1 => ?_) (fun q2 => ?_)
    · refine AW.iconstT hk_285_655 (by decide) (fun z417 ez417 => ?_)
      show AR _ _ _ _ _ _ _ 656 [(16, .int b), (15, .int a), (14, .int z), (12, .int y), (11, .int x), (5, .ref b5), (4, .ref 183), (3, .ref 182), (2, .ref 181), (1, .ref 0), (0, .ref 1000000001)] [.int z417] g _ _
      refine AR.s (pc' := 658) (lv' := [(17, .int z417), (16, .int b), (15, .int a), (14, .int z), (12, .int y), (11, .int x), (5, .ref b5), (4, .ref 183), (3, .ref 182), (2, .ref 181), (1, .ref 0), (0, .ref 1000000001)]) (st' := []) (h' := g) _ hn_285 hk_285_656 rfl ?_
      refine AR.lessL (lv' := [(17, .int z417), (16, .int b), (15, .int a), (14, .int z), (5, .ref b5), (4, .ref 183), (3, .ref 182), (2, .ref 181), (1, .ref 0), (0, .ref 1000000001)]) (List.forall_mem_cons.mpr ⟨⟨_, by simp, ax_le_rfl rfl⟩, (List.forall_mem_cons.mpr ⟨⟨_, by simp, ax_le_rfl rfl⟩, (List.forall_mem_cons.mpr ⟨⟨_, by simp, ax_le_rfl rfl⟩, (List.forall_mem_cons.mpr ⟨⟨_, by simp, ax_le_rfl rfl⟩, (List.forall_mem_cons.mpr ⟨⟨_, by simp, ax_le_rfl rfl⟩, (List.forall_mem_cons.mpr ⟨⟨_, by simp, ax_le_rfl rfl⟩, (List.forall_mem_cons.mpr ⟨⟨_, by simp, ax_le_rfl rfl⟩, (List.forall_mem_cons.mpr ⟨⟨_, by simp, ax_le_rfl rfl⟩, (List.forall_mem_cons.mpr ⟨⟨_, by simp, ax_le_rfl rfl⟩, (List.forall_mem_cons.mpr ⟨⟨_, by simp, ax_le_rfl rfl⟩, (fun _ h => absurd h List.not_mem_nil)⟩)⟩)⟩)⟩)⟩)⟩)⟩)⟩)⟩)⟩) ?_
      refine l7 hlst b1 e5 hf H z0 r1 r2 va hA vb hB ((ex_hm W).2 R3) (fun v hv e => ?_) (fun v hv e => ?_) (AR.lt (Nat.le_refl _) (Nat.le_refl _) (l_end A9 V9)) (cnt (uV V N) 24 + 1) _ (by omega) (by omega)
      · obtain ⟨e1, e2⟩ := uV_0 e
        have e3 := (ex_hm W).1 (R4 v hv e1)
        rw [dr_land, dr_land, (dr_a _ hB v hv).2 ((wv v hv).2.trans e2)] at e3
        exact e3
      · obtain ⟨e1, e2⟩ := uV_1 e
        have e3 := (ex_hm W).1 (R4 v hv e1)
        rw [dr_land, dr_land, (dr_a _ hA v hv).2 ((wv v hv).1.trans e2)] at e3
        exact e3
    · exact absurd (by omega) q2
theorem c_2122 : ∀ q ∈ [21, 22], q < 181 ∨ 184 ≤ q := by decide
theorem law_544 (hlst : l.stackTraces = false) {x y u : Int32} (b1 : b5 < 1000000000) (e5 : g[b5]? = some (102, ar 64 f)) (hf : ∀ k, k < 64 → f k = bi (F k)) (b0 : 184 ≤ b5) {fr fd fa : Nat → Int32} (A9 : AA g fr fd fa) (V9 : AV L xs 4 fr fd fa) (H : hy_H 0 g) (I : pI g) (hx : x.toInt = Y) (hY : Y < 64) (hy : y.toInt = N) (hN : N < 64) (hYN : Y &&& N = 0) (W : ∀ w, w < 64 → ∀ k, k < 64 → pb (hw g 148 w) k = F k) (hu : u.toInt = if ex F (ma Y N 6) 64 then 1 else 0) : AR ax_ns l (ax_mm 285) 8 (ax_r L xs) lw_PE X 544 [(13, .int u), (12, .int y), (11, .int x), (5, .ref b5), (4, .ref 183), (3, .ref 182), (2, .ref 181), (1, .ref 0), (0, .ref 1000000001)] [] g (bc + 1) (bs + 6) := by
  show AR _ _ _ _ _ _ _ 544 [(13, .int u), (12, .int y), (11, .int x), (5, .ref b5), (4, .ref 183), (3, .ref 182), (2, .ref 181), (1, .ref 0), (0, .ref 1000000001)] [] g _ _
  refine AR.s (pc' := 545) (lv' := [(13, .int u), (12, .int y), (11, .int x), (5, .ref b5), (4, .ref 183), (3, .ref 182), (2, .ref 181), (1, .ref 0), (0, .ref 1000000001)]) (st' := [.ref 0]) (h' := g) _ hn_285 hk_285_544 rfl ?_
  refine AR.s (pc' := 547) (lv' := [(13, .int u), (12, .int y), (11, .int x), (5, .ref b5), (4, .ref 183), (3, .ref 182), (2, .ref 181), (1, .ref 0), (0, .ref 1000000001)]) (st' := [.int x, .ref 0]) (h' := g) _ hn_285 hk_285_545 rfl ?_
  refine AR.s (pc' := 549) (lv' := [(13, .int u), (12, .int y), (11, .int x), (5, .ref b5), (4, .ref 183), (3, .ref 182), (2, .ref 181), (1, .ref 0), (0, .ref 1000000001)]) (st' := [.int y, .int x, .ref 0]) (h' := g) _ hn_285 hk_285_547 rfl ?_
  refine AW.cs (as := [.ref 0, .int x, .int y]) (rest := []) hk_285_549 (by decide +kernel) rfl rfl (Nat.le_of_ble_eq_true rfl) (AW.W (t_140 hlst H I hx hY hy hN hYN)) (by decide) (by omega) (by omega) (fun E h' q => by obtain ⟨-, -, _, e, -⟩ := q; cases e) ?_
  rintro w4 g4 ⟨H4, M4, z4, e4, D4⟩
  cases e4
  have A4 := A9.lf M4 c_2122
  have e54 : g4[b5]? = some (102, ar 64 f) := (M4.2 b5 (List.getElem?_eq_some_iff.mp e5).1 (by simp only [List.mem_cons, List.not_mem_nil, or_false]; omega)).trans e5
  show AR _ _ _ _ _ _ _ 552 [(13, .int u), (12, .int y), (11, .int x), (5, .ref b5), (4, .ref 183), (3, .ref 182), (2, .ref 181), (1, .ref 0), (0, .ref 1000000001)] [.int z4] g4 _ _
  rcases D4 with ⟨d1, d2⟩ | ⟨d1, V, d2, d3, d4, d5⟩
  · rw [(ex_hm W).1 d2] at hu
    simp only [Bool.false_eq_true, if_true, if_false] at hu
    show AR _ _ _ _ _ _ _ 552 [(13, .int u), (12, .int y), (11, .int x), (5, .ref b5), (4, .ref 183), (3, .ref 182), (2, .ref 181), (1, .ref 0), (0, .ref 1000000001)] [.int z4] g4 _ _
    refine AR.s (pc' := 554) (lv' := [(14, .int z4), (13, .int u), (12, .int y), (11, .int x), (5, .ref b5), (4, .ref 183), (3, .ref 182), (2, .ref 181), (1, .ref 0), (0, .ref 1000000001)]) (st' := []) (h' := g4) _ hn_285 hk_285_552 rfl ?_
    refine AR.s (pc' := 556) (lv' := [(14, .int z4), (13, .int u), (12, .int y), (11, .int x), (5, .ref b5), (4, .ref 183), (3, .ref 182), (2, .ref 181), (1, .ref 0), (0, .ref 1000000001)]) (st' := [.int z4]) (h' := g4) _ hn_285 hk_285_554 rfl ?_
    refine AW.zge hk_285_556 (tgt := 563) (by decide) (fun p1 => ?_) (fun p2 => ?_)
    · exact absurd p1 (by omega)
    · refine AW.iconstT hk_285_559 (by decide) (fun z418 ez418 => ?_)
      show AR _ _ _ _ _ _ _ 560 [(14, .int z4), (13, .int u), (12, .int y), (11, .int x), (5, .ref b5), (4, .ref 183), (3, .ref 182), (2, .ref 181), (1, .ref 0), (0, .ref 1000000001)] [.int z418] g4 _ _
      refine AW.gotoT hk_285_560 (tgt := 564) (by decide) ?_
      refine AR.s (pc' := 566) (lv' := [(14, .int z4), (13, .int u), (12, .int y), (11, .int x), (5, .ref b5), (4, .ref 183), (3, .ref 182), (2, .ref 181), (1, .ref 0), (0, .ref 1000000001)]) (st' := [.int u, .int z418]) (h' := g4) _ hn_285 hk_285_564 rfl ?_
      refine AW.jeq hk_285_566 (tgt := 571) (by decide) (fun y1 => ?_) (fun y2 => ?_)
      · refine AW.iconstT hk_285_571 (by decide) (fun z419 ez419 => ?_)
        show AR _ _ _ _ _ _ _ 572 [(14, .int z4), (13, .int u), (12, .int y), (11, .int x), (5, .ref b5), (4, .ref 183), (3, .ref 182), (2, .ref 181), (1, .ref 0), (0, .ref 1000000001)] [.int z419] g4 _ _
        refine AR.s (pc' := 574) (lv' := [(15, .int z419), (14, .int z4), (13, .int u), (12, .int y), (11, .int x), (5, .ref b5), (4, .ref 183), (3, .ref 182), (2, .ref 181), (1, .ref 0), (0, .ref 1000000001)]) (st' := []) (h' := g4) _ hn_285 hk_285_572 rfl ?_
        refine AW.iconstT hk_285_574 (by decide) (fun z420 ez420 => ?_)
        show AR _ _ _ _ _ _ _ 575 [(15, .int z419), (14, .int z4), (13, .int u), (12, .int y), (11, .int x), (5, .ref b5), (4, .ref 183), (3, .ref 182), (2, .ref 181), (1, .ref 0), (0, .ref 1000000001)] [.int z420] g4 _ _
        refine AR.s (pc' := 577) (lv' := [(16, .int z420), (15, .int z419), (14, .int z4), (13, .int u), (12, .int y), (11, .int x), (5, .ref b5), (4, .ref 183), (3, .ref 182), (2, .ref 181), (1, .ref 0), (0, .ref 1000000001)]) (st' := []) (h' := g4) _ hn_285 hk_285_575 rfl ?_
        refine AW.iconstT hk_285_577 (by decide) (fun z421 ez421 => ?_)
        show AR _ _ _ _ _ _ _ 578 [(16, .int z420), (15, .int z419), (14, .int z4), (13, .int u), (12, .int y), (11, .int x), (5, .ref b5), (4, .ref 183), (3, .ref 182), (2, .ref 181), (1, .ref 0), (0, .ref 1000000001)] [.int z421] g4 _ _
        refine AR.s (pc' := 580) (lv' := [(17, .int z421), (16, .int z420), (15, .int z419), (14, .int z4), (13, .int u), (12, .int y), (11, .int x), (5, .ref b5), (4, .ref 183), (3, .ref 182), (2, .ref 181), (1, .ref 0), (0, .ref 1000000001)]) (st' := []) (h' := g4) _ hn_285 hk_285_578 rfl ?_
        refine AR.s (pc' := 582) (lv' := [(17, .int z421), (16, .int z420), (15, .int z419), (14, .int z4), (13, .int u), (12, .int y), (11, .int x), (5, .ref b5), (4, .ref 183), (3, .ref 182), (2, .ref 181), (1, .ref 0), (0, .ref 1000000001)]) (st' := [.int z421]) (h' := g4) _ hn_285 hk_285_580 rfl ?_
        refine AR.s (pc' := 584) (lv' := [(17, .int z421), (16, .int z420), (15, .int z419), (14, .int z4), (13, .int u), (12, .int y), (11, .int x), (5, .ref b5), (4, .ref 183), (3, .ref 182), (2, .ref 181), (1, .ref 0), (0, .ref 1000000001)]) (st' := [.int z4, .int z421]) (h' := g4) _ hn_285 hk_285_582 rfl ?_
        refine AW.jge hk_285_584 (tgt := 633) (by decide) (fun c1 => ?_) (fun c2 => ?_)
        · have n0 : z419.toInt = ((0 : Nat) : Int) := by omega
          refine AR.s (pc' := 635) (lv' := [(17, .int z421), (16, .int z420), (15, .int z419), (14, .int z4), (13, .int u), (12, .int y), (11, .int x), (5, .ref b5), (4, .ref 183), (3, .ref 182), (2, .ref 181), (1, .ref 0), (0, .ref 1000000001)]) (st' := [.int z419]) (h' := g4) _ hn_285 hk_285_633 rfl ?_
          refine AR.s (pc' := 637) (lv' := [(17, .int z421), (16, .int z420), (15, .int z419), (14, .int z4), (13, .int u), (12, .int y), (11, .int x), (5, .ref b5), (4, .ref 183), (3, .ref 182), (2, .ref 181), (1, .ref 0), (0, .ref 1000000001)]) (st' := [.int x, .int z419]) (h' := g4) _ hn_285 hk_285_635 rfl ?_
          refine AW.iconstT hk_285_637 (by decide) (fun z422 ez422 => ?_)
          show AR _ _ _ _ _ _ _ 638 [(17, .int z421), (16, .int z420), (15, .int z419), (14, .int z4), (13, .int u), (12, .int y), (11, .int x), (5, .ref b5), (4, .ref 183), (3, .ref 182), (2, .ref 181), (1, .ref 0), (0, .ref 1000000001)] [.int z422, .int x, .int z419] g4 _ _
          refine AR.ixor (z := .int (x ^^^ z422)) (ax_look_ok hk_285_638).1 rfl ?_
          generalize gz423 : x ^^^ z422 = z423
          show AR _ _ _ _ _ _ _ 639 [(17, .int z421), (16, .int z420), (15, .int z419), (14, .int z4), (13, .int u), (12, .int y), (11, .int x), (5, .ref b5), (4, .ref 183), (3, .ref 182), (2, .ref 181), (1, .ref 0), (0, .ref 1000000001)] [.int z423, .int z419] g4 _ _
          have hD := nt_of n0 (by decide) hx hY ez422
          rw [gz423] at hD
          refine AR.iand (z := .int (z419 &&& z423)) (ax_look_ok hk_285_639).1 rfl ?_
          generalize gz424 : z419 &&& z423 = z424
          show AR _ _ _ _ _ _ _ 640 [(17, .int z421), (16, .int z420), (15, .int z419), (14, .int z4), (13, .int u), (12, .int y), (11, .int x), (5, .ref b5), (4, .ref 183), (3, .ref 182), (2, .ref 181), (1, .ref 0), (0, .ref 1000000001)] [.int z424] g4 _ _
          rw [gz424, (nt_a _ (by decide) _ hY).2.2.2 (Nat.zero_and _)] at hD
          show AR _ _ _ _ _ _ _ 640 [(17, .int z421), (16, .int z420), (15, .int z419), (14, .int z4), (13, .int u), (12, .int y), (11, .int x), (5, .ref b5), (4, .ref 183), (3, .ref 182), (2, .ref 181), (1, .ref 0), (0, .ref 1000000001)] [.int z424] g4 _ _
          refine AW.zne hk_285_640 (tgt := 653) (by decide) (fun r1 => ?_) (fun r2 => ?_)
          · exact absurd (by omega) r1
          · have n0 : z420.toInt = ((0 : Nat) : Int) := by omega
            refine AR.s (pc' := 645) (lv' := [(17, .int z421), (16, .int z420), (15, .int z419), (14, .int z4), (13, .int u), (12, .int y), (11, .int x), (5, .ref b5), (4, .ref 183), (3, .ref 182), (2, .ref 181), (1, .ref 0), (0, .ref 1000000001)]) (st' := [.int z420]) (h' := g4) _ hn_285 hk_285_643 rfl ?_
            refine AR.s (pc' := 647) (lv' := [(17, .int z421), (16, .int z420), (15, .int z419), (14, .int z4), (13, .int u), (12, .int y), (11, .int x), (5, .ref b5), (4, .ref 183), (3, .ref 182), (2, .ref 181), (1, .ref 0), (0, .ref 1000000001)]) (st' := [.int y, .int z420]) (h' := g4) _ hn_285 hk_285_645 rfl ?_
            refine AW.iconstT hk_285_647 (by decide) (fun z425 ez425 => ?_)
            show AR _ _ _ _ _ _ _ 648 [(17, .int z421), (16, .int z420), (15, .int z419), (14, .int z4), (13, .int u), (12, .int y), (11, .int x), (5, .ref b5), (4, .ref 183), (3, .ref 182), (2, .ref 181), (1, .ref 0), (0, .ref 1000000001)] [.int z425, .int y, .int z420] g4 _ _
            refine AR.ixor (z := .int (y ^^^ z425)) (ax_look_ok hk_285_648).1 rfl ?_
            generalize gz426 : y ^^^ z425 = z426
            show AR _ _ _ _ _ _ _ 649 [(17, .int z421), (16, .int z420), (15, .int z419), (14, .int z4), (13, .int u), (12, .int y), (11, .int x), (5, .ref b5), (4, .ref 183), (3, .ref 182), (2, .ref 181), (1, .ref 0), (0, .ref 1000000001)] [.int z426, .int z420] g4 _ _
            have hD := nt_of n0 (by decide) hy hN ez425
            rw [gz426] at hD
            refine AR.iand (z := .int (z420 &&& z426)) (ax_look_ok hk_285_649).1 rfl ?_
            generalize gz427 : z420 &&& z426 = z427
            show AR _ _ _ _ _ _ _ 650 [(17, .int z421), (16, .int z420), (15, .int z419), (14, .int z4), (13, .int u), (12, .int y), (11, .int x), (5, .ref b5), (4, .ref 183), (3, .ref 182), (2, .ref 181), (1, .ref 0), (0, .ref 1000000001)] [.int z427] g4 _ _
            rw [gz427, (nt_a _ (by decide) _ hN).2.2.2 (Nat.zero_and _)] at hD
            show AR _ _ _ _ _ _ _ 650 [(17, .int z421), (16, .int z420), (15, .int z419), (14, .int z4), (13, .int u), (12, .int y), (11, .int x), (5, .ref b5), (4, .ref 183), (3, .ref 182), (2, .ref 181), (1, .ref 0), (0, .ref 1000000001)] [.int z427] g4 _ _
            refine AW.zeq hk_285_650 (tgt := 655) (by decide) (fun r1 => ?_) (fun r2 => ?_)
            · refine AW.iconstT hk_285_655 (by decide) (fun z428 ez428 => ?_)
              show AR _ _ _ _ _ _ _ 656 [(17, .int z421), (16, .int z420), (15, .int z419), (14, .int z4), (13, .int u), (12, .int y), (11, .int x), (5, .ref b5), (4, .ref 183), (3, .ref 182), (2, .ref 181), (1, .ref 0), (0, .ref 1000000001)] [.int z428] g4 _ _
              refine AR.s (pc' := 658) (lv' := [(17, .int z428), (16, .int z420), (15, .int z419), (14, .int z4), (13, .int u), (12, .int y), (11, .int x), (5, .ref b5), (4, .ref 183), (3, .ref 182), (2, .ref 181), (1, .ref 0), (0, .ref 1000000001)]) (st' := []) (h' := g4) _ hn_285 hk_285_656 rfl ?_
              refine AR.s (pc' := 660) (lv' := [(17, .int z428), (16, .int z420), (15, .int z419), (14, .int z4), (13, .int u), (12, .int y), (11, .int x), (5, .ref b5), (4, .ref 183), (3, .ref 182), (2, .ref 181), (1, .ref 0), (0, .ref 1000000001)]) (st' := [.int z428]) (h' := g4) _ hn_285 hk_285_658 rfl ?_
              refine AR.s (pc' := 662) (lv' := [(17, .int z428), (16, .int z420), (15, .int z419), (14, .int z4), (13, .int u), (12, .int y), (11, .int x), (5, .ref b5), (4, .ref 183), (3, .ref 182), (2, .ref 181), (1, .ref 0), (0, .ref 1000000001)]) (st' := [.int z4, .int z428]) (h' := g4) _ hn_285 hk_285_660 rfl ?_
              refine AW.jge hk_285_662 (tgt := 819) (by decide) (fun s1 => ?_) (fun s2 => ?_)
              · refine AR.lessL (lv' := [(4, .ref 183)]) (List.forall_mem_cons.mpr ⟨⟨_, by simp, ax_le_rfl rfl⟩, (fun _ h => absurd h List.not_mem_nil)⟩) ?_
                exact AR.lt (by omega) (by omega) (l_end (bc := bc) (bs := bs) A4 V9)
              · exact absurd s2 (by omega)
            · exact absurd (by omega) r2
        · exact absurd c2 (by omega)
      · exact absurd (by omega) y2
  · rw [(ex_hm W).2 d1] at hu
    simp only [Bool.false_eq_true, if_true, if_false] at hu
    show AR _ _ _ _ _ _ _ 552 [(13, .int u), (12, .int y), (11, .int x), (5, .ref b5), (4, .ref 183), (3, .ref 182), (2, .ref 181), (1, .ref 0), (0, .ref 1000000001)] [.int z4] g4 _ _
    refine AR.s (pc' := 554) (lv' := [(14, .int z4), (13, .int u), (12, .int y), (11, .int x), (5, .ref b5), (4, .ref 183), (3, .ref 182), (2, .ref 181), (1, .ref 0), (0, .ref 1000000001)]) (st' := []) (h' := g4) _ hn_285 hk_285_552 rfl ?_
    refine AR.s (pc' := 556) (lv' := [(14, .int z4), (13, .int u), (12, .int y), (11, .int x), (5, .ref b5), (4, .ref 183), (3, .ref 182), (2, .ref 181), (1, .ref 0), (0, .ref 1000000001)]) (st' := [.int z4]) (h' := g4) _ hn_285 hk_285_554 rfl ?_
    refine AW.zge hk_285_556 (tgt := 563) (by decide) (fun p1 => ?_) (fun p2 => ?_)
    · refine AW.iconstT hk_285_563 (by decide) (fun z429 ez429 => ?_)
      show AR _ _ _ _ _ _ _ 564 [(14, .int z4), (13, .int u), (12, .int y), (11, .int x), (5, .ref b5), (4, .ref 183), (3, .ref 182), (2, .ref 181), (1, .ref 0), (0, .ref 1000000001)] [.int z429] g4 _ _
      refine AR.s (pc' := 566) (lv' := [(14, .int z4), (13, .int u), (12, .int y), (11, .int x), (5, .ref b5), (4, .ref 183), (3, .ref 182), (2, .ref 181), (1, .ref 0), (0, .ref 1000000001)]) (st' := [.int u, .int z429]) (h' := g4) _ hn_285 hk_285_564 rfl ?_
      refine AW.jeq hk_285_566 (tgt := 571) (by decide) (fun y1 => ?_) (fun y2 => ?_)
      · refine AR.lessL (lv' := [(14, .int z4), (12, .int y), (11, .int x), (5, .ref b5), (4, .ref 183), (3, .ref 182), (2, .ref 181), (1, .ref 0), (0, .ref 1000000001)]) (List.forall_mem_cons.mpr ⟨⟨_, by simp, ax_le_rfl rfl⟩, (List.forall_mem_cons.mpr ⟨⟨_, by simp, ax_le_rfl rfl⟩, (List.forall_mem_cons.mpr ⟨⟨_, by simp, ax_le_rfl rfl⟩, (List.forall_mem_cons.mpr ⟨⟨_, by simp, ax_le_rfl rfl⟩, (List.forall_mem_cons.mpr ⟨⟨_, by simp, ax_le_rfl rfl⟩, (List.forall_mem_cons.mpr ⟨⟨_, by simp, ax_le_rfl rfl⟩, (List.forall_mem_cons.mpr ⟨⟨_, by simp, ax_le_rfl rfl⟩, (List.forall_mem_cons.mpr ⟨⟨_, by simp, ax_le_rfl rfl⟩, (List.forall_mem_cons.mpr ⟨⟨_, by simp, ax_le_rfl rfl⟩, (fun _ h => absurd h List.not_mem_nil)⟩)⟩)⟩)⟩)⟩)⟩)⟩)⟩)⟩) ?_
        exact AR.lt (by omega) (by omega) (law_571 (bc := bc) (bs := bs) hlst b1 e54 hf A4 V9 H4 hx hY hy hN hYN W d2 d3 d4 d5)
      · exact absurd (by omega) y2
    · exact absurd p2 (by omega)
theorem law_456 (hlst : l.stackTraces = false) (hL : L ≤ 3072) (b1 : b5 < 1000000000) (e5 : g[b5]? = some (102, ar 64 f)) (hf : ∀ k, k < 64 → f k = bi (F k)) (b0 : 184 ≤ b5) {fr fd fa : Nat → Int32} (A9 : AA g fr fd fa) (V9 : AV L xs 4 fr fd fa) (H : hy_H 0 g) (I : pI g) (W : ∀ w, w < 64 → ∀ k, k < 64 → pb (hw g 148 w) k = F k) : AR ax_ns l (ax_mm 285) 8 (ax_r L xs) lw_PE X 456 [(5, .ref b5), (4, .ref 183), (3, .ref 182), (2, .ref 181), (1, .ref 0), (0, .ref 1000000001)] [] g (bc + 1) (bs + 6) := by
  show AR _ _ _ _ _ _ _ 456 [(5, .ref b5), (4, .ref 183), (3, .ref 182), (2, .ref 181), (1, .ref 0), (0, .ref 1000000001)] [] g _ _
  refine AR.s (pc' := 457) (lv' := [(5, .ref b5), (4, .ref 183), (3, .ref 182), (2, .ref 181), (1, .ref 0), (0, .ref 1000000001)]) (st' := [.ref 1000000001]) (h' := g) _ hn_285 hk_285_456 rfl ?_
  refine AW.bipushT hk_285_457 (by decide) (fun z430 ez430 => ?_)
  show AR _ _ _ _ _ _ _ 459 [(5, .ref b5), (4, .ref 183), (3, .ref 182), (2, .ref 181), (1, .ref 0), (0, .ref 1000000001)] [.int z430, .ref 1000000001] g _ _
  refine AW.cs (as := [.ref 1000000001, .int z430]) (rest := []) hk_285_459 (by decide +kernel) rfl rfl (Nat.le_of_ble_eq_true rfl) (t_131 hlst hL (k := 15) (by omega) (by omega)) (by decide) (Nat.zero_le _) (Nat.zero_le _) (fun E h' q => by cases q.2) ?_
  rintro w9 g9 ⟨ee431, e⟩
  cases e
  obtain rfl := ee431.symm
  show AR _ _ _ _ _ _ _ 462 [(5, .ref b5), (4, .ref 183), (3, .ref 182), (2, .ref 181), (1, .ref 0), (0, .ref 1000000001)] [.int (sv L xs (15))] g _ _
  refine AW.bipushT hk_285_462 (by decide) (fun z432 ez432 => ?_)
  show AR _ _ _ _ _ _ _ 464 [(5, .ref b5), (4, .ref 183), (3, .ref 182), (2, .ref 181), (1, .ref 0), (0, .ref 1000000001)] [.int z432, .int (sv L xs (15))] g _ _
  have dY := lbw_bd (sv L xs 15) (n := 64) (by decide)
  refine AW.cs (as := [.int (sv L xs (15)), .int z432]) (rest := []) hk_285_464 (by decide +kernel) rfl rfl (Nat.le_of_ble_eq_true rfl) (AW.W (t_130 hlst (n := 64) (by omega) (by decide))) (by decide) (Nat.zero_le _) (Nat.zero_le _) (fun E h' q => by obtain ⟨-, x, e, -⟩ := q; cases e) ?_
  rintro w433 g434 ⟨eg434, z435, e, ez435⟩
  cases e
  obtain rfl := eg434.symm
  show AR _ _ _ _ _ _ _ 467 [(5, .ref b5), (4, .ref 183), (3, .ref 182), (2, .ref 181), (1, .ref 0), (0, .ref 1000000001)] [.int z435] g _ _
  refine AR.s (pc' := 469) (lv' := [(11, .int z435), (5, .ref b5), (4, .ref 183), (3, .ref 182), (2, .ref 181), (1, .ref 0), (0, .ref 1000000001)]) (st' := []) (h' := g) _ hn_285 hk_285_467 rfl ?_
  refine AR.s (pc' := 470) (lv' := [(11, .int z435), (5, .ref b5), (4, .ref 183), (3, .ref 182), (2, .ref 181), (1, .ref 0), (0, .ref 1000000001)]) (st' := [.ref 1000000001]) (h' := g) _ hn_285 hk_285_469 rfl ?_
  refine AW.bipushT hk_285_470 (by decide) (fun z436 ez436 => ?_)
  show AR _ _ _ _ _ _ _ 472 [(11, .int z435), (5, .ref b5), (4, .ref 183), (3, .ref 182), (2, .ref 181), (1, .ref 0), (0, .ref 1000000001)] [.int z436, .ref 1000000001] g _ _
  refine AW.cs (as := [.ref 1000000001, .int z436]) (rest := []) hk_285_472 (by decide +kernel) rfl rfl (Nat.le_of_ble_eq_true rfl) (t_131 hlst hL (k := 16) (by omega) (by omega)) (by decide) (Nat.zero_le _) (Nat.zero_le _) (fun E h' q => by cases q.2) ?_
  rintro w9 g9 ⟨ee437, e⟩
  cases e
  obtain rfl := ee437.symm
  show AR _ _ _ _ _ _ _ 475 [(11, .int z435), (5, .ref b5), (4, .ref 183), (3, .ref 182), (2, .ref 181), (1, .ref 0), (0, .ref 1000000001)] [.int (sv L xs (16))] g _ _
  refine AW.bipushT hk_285_475 (by decide) (fun z438 ez438 => ?_)
  show AR _ _ _ _ _ _ _ 477 [(11, .int z435), (5, .ref b5), (4, .ref 183), (3, .ref 182), (2, .ref 181), (1, .ref 0), (0, .ref 1000000001)] [.int z438, .int (sv L xs (16))] g _ _
  have dN := lbw_bd (sv L xs 16) (n := 64) (by decide)
  refine AW.cs (as := [.int (sv L xs (16)), .int z438]) (rest := []) hk_285_477 (by decide +kernel) rfl rfl (Nat.le_of_ble_eq_true rfl) (AW.W (t_130 hlst (n := 64) (by omega) (by decide))) (by decide) (Nat.zero_le _) (Nat.zero_le _) (fun E h' q => by obtain ⟨-, x, e, -⟩ := q; cases e) ?_
  rintro w439 g440 ⟨eg440, z441, e, ez441⟩
  cases e
  obtain rfl := eg440.symm
  show AR _ _ _ _ _ _ _ 480 [(11, .int z435), (5, .ref b5), (4, .ref 183), (3, .ref 182), (2, .ref 181), (1, .ref 0), (0, .ref 1000000001)] [.int z441] g _ _
  obtain ⟨Y, hx, hY⟩ : ∃ Y : Nat, z435.toInt = Y ∧ Y < 64 := ⟨z435.toInt.toNat, by omega, by omega⟩
  obtain ⟨N, hn, hN⟩ : ∃ N : Nat, z441.toInt = N ∧ N < 64 := ⟨z441.toInt.toNat, by omega, by omega⟩
  show AR _ _ _ _ _ _ _ 480 [(11, .int z435), (5, .ref b5), (4, .ref 183), (3, .ref 182), (2, .ref 181), (1, .ref 0), (0, .ref 1000000001)] [.int z441] g _ _
  refine AR.s (pc' := 482) (lv' := [(11, .int z435), (5, .ref b5), (4, .ref 183), (3, .ref 182), (2, .ref 181), (1, .ref 0), (0, .ref 1000000001)]) (st' := [.int z435, .int z441]) (h' := g) _ hn_285 hk_285_480 rfl ?_
  refine AW.iconstT hk_285_482 (by decide) (fun z442 ez442 => ?_)
  show AR _ _ _ _ _ _ _ 483 [(11, .int z435), (5, .ref b5), (4, .ref 183), (3, .ref 182), (2, .ref 181), (1, .ref 0), (0, .ref 1000000001)] [.int z442, .int z435, .int z441] g _ _
  refine AR.ixor (z := .int (z435 ^^^ z442)) (ax_look_ok hk_285_483).1 rfl ?_
  generalize gz443 : z435 ^^^ z442 = z443
  show AR _ _ _ _ _ _ _ 484 [(11, .int z435), (5, .ref b5), (4, .ref 183), (3, .ref 182), (2, .ref 181), (1, .ref 0), (0, .ref 1000000001)] [.int z443, .int z441] g _ _
  have hy := nt_of hn hN hx hY ez442
  rw [gz443] at hy
  refine AR.iand (z := .int (z441 &&& z443)) (ax_look_ok hk_285_484).1 rfl ?_
  generalize gz444 : z441 &&& z443 = z444
  show AR _ _ _ _ _ _ _ 485 [(11, .int z435), (5, .ref b5), (4, .ref 183), (3, .ref 182), (2, .ref 181), (1, .ref 0), (0, .ref 1000000001)] [.int z444] g _ _
  rw [gz444] at hy
  obtain ⟨-, hN2, hYN, -⟩ := nt_a N hN Y hY
  show AR _ _ _ _ _ _ _ 485 [(11, .int z435), (5, .ref b5), (4, .ref 183), (3, .ref 182), (2, .ref 181), (1, .ref 0), (0, .ref 1000000001)] [.int z444] g _ _
  refine AR.s (pc' := 487) (lv' := [(12, .int z444), (11, .int z435), (5, .ref b5), (4, .ref 183), (3, .ref 182), (2, .ref 181), (1, .ref 0), (0, .ref 1000000001)]) (st' := []) (h' := g) _ hn_285 hk_285_485 rfl ?_
  refine AW.iconstT hk_285_487 (by decide) (fun z445 ez445 => ?_)
  show AR _ _ _ _ _ _ _ 488 [(12, .int z444), (11, .int z435), (5, .ref b5), (4, .ref 183), (3, .ref 182), (2, .ref 181), (1, .ref 0), (0, .ref 1000000001)] [.int z445] g _ _
  refine AR.s (pc' := 490) (lv' := [(13, .int z445), (12, .int z444), (11, .int z435), (5, .ref b5), (4, .ref 183), (3, .ref 182), (2, .ref 181), (1, .ref 0), (0, .ref 1000000001)]) (st' := []) (h' := g) _ hn_285 hk_285_488 rfl ?_
  refine AW.iconstT hk_285_490 (by decide) (fun z446 ez446 => ?_)
  show AR _ _ _ _ _ _ _ 491 [(13, .int z445), (12, .int z444), (11, .int z435), (5, .ref b5), (4, .ref 183), (3, .ref 182), (2, .ref 181), (1, .ref 0), (0, .ref 1000000001)] [.int z446] g _ _
  refine AR.s (pc' := 493) (lv' := [(14, .int z446), (13, .int z445), (12, .int z444), (11, .int z435), (5, .ref b5), (4, .ref 183), (3, .ref 182), (2, .ref 181), (1, .ref 0), (0, .ref 1000000001)]) (st' := []) (h' := g) _ hn_285 hk_285_491 rfl ?_
  refine AR.lessL (lv' := [(14, .int z446), (13, .int z445), (12, .int z444), (11, .int z435), (5, .ref b5), (4, .ref 183), (3, .ref 182), (2, .ref 181), (1, .ref 0), (0, .ref 1000000001)]) (List.forall_mem_cons.mpr ⟨⟨_, by simp, ax_le_rfl rfl⟩, (List.forall_mem_cons.mpr ⟨⟨_, by simp, ax_le_rfl rfl⟩, (List.forall_mem_cons.mpr ⟨⟨_, by simp, ax_le_rfl rfl⟩, (List.forall_mem_cons.mpr ⟨⟨_, by simp, ax_le_rfl rfl⟩, (List.forall_mem_cons.mpr ⟨⟨_, by simp, ax_le_rfl rfl⟩, (List.forall_mem_cons.mpr ⟨⟨_, by simp, ax_le_rfl rfl⟩, (List.forall_mem_cons.mpr ⟨⟨_, by simp, ax_le_rfl rfl⟩, (List.forall_mem_cons.mpr ⟨⟨_, by simp, ax_le_rfl rfl⟩, (List.forall_mem_cons.mpr ⟨⟨_, by simp, ax_le_rfl rfl⟩, (List.forall_mem_cons.mpr ⟨⟨_, by simp, ax_le_rfl rfl⟩, (fun _ h => absurd h List.not_mem_nil)⟩)⟩)⟩)⟩)⟩)⟩)⟩)⟩)⟩)⟩) ?_
  exact l5 hlst hx hY hy hN2 b1 e5 hf (fun u hu => AR.lt (Nat.le_refl _) (Nat.le_refl _) (law_544 (bc := bc) (bs := bs) hlst b1 e5 hf b0 A9 V9 H I hx hY hy hN2 hYN W hu)) 64 0 _ _ rfl (by omega) (by show _ = (0 : Int); omega)
theorem law_335 (hlst : l.stackTraces = false) (hL : L ≤ 3072) {v : Int32} (S : S3 L xs g b5 f) (hf : ∀ k, k < 64 → f k = bi (FF L xs 4 k)) (hv : v.toInt = nm (FF L xs 4) 64) : AR ax_ns l (ax_mm 285) 8 (ax_r L xs) lw_PE X 335 [(6, .int v), (5, .ref b5), (4, .ref 183), (3, .ref 182), (2, .ref 181), (1, .ref 0), (0, .ref 1000000001)] [] g (bc + 201) (bs + 8006) := by
  obtain ⟨I, ⟨fr, fd, fa, A, V⟩, e5, b0, b1⟩ := id S
  obtain ⟨i1, i2, i3, i4, i5, i6, -⟩ := id I
  obtain ⟨v0, c0⟩ := p_c8 i1
  have nl := nm_le (FF L xs 4) 64
  show AR _ _ _ _ _ _ _ 335 [(6, .int v), (5, .ref b5), (4, .ref 183), (3, .ref 182), (2, .ref 181), (1, .ref 0), (0, .ref 1000000001)] [] g _ _
  refine AR.s (pc' := 336) (lv' := [(6, .int v), (5, .ref b5), (4, .ref 183), (3, .ref 182), (2, .ref 181), (1, .ref 0), (0, .ref 1000000001)]) (st' := [.ref 0]) (h' := g) _ hn_285 hk_285_335 rfl ?_
  refine AW.jr (r := 0) (as := []) (rest := []) hk_285_336 (by decide) (by decide +kernel) (by decide) c0 rfl rfl (Nat.le_of_ble_eq_true rfl) (AW.W (p_101 hlst i1 i2)) (by decide) (Nat.zero_le _) (Nat.zero_le _) ?_ (fun E h' q => by obtain ⟨-, _, e, -⟩ := q; cases e)
  rintro w447 g448 ⟨eg448, z449, e, ez449⟩
  cases e
  obtain rfl := eg448.symm
  show AR _ _ _ _ _ _ _ 339 [(6, .int v), (5, .ref b5), (4, .ref 183), (3, .ref 182), (2, .ref 181), (1, .ref 0), (0, .ref 1000000001)] [.int z449] g _ _
  rw [cw_nm (F := FF L xs 4) 64 (by decide) i6] at ez449
  refine AW.bipushT hk_285_339 (by decide) (fun z450 ez450 => ?_)
  show AR _ _ _ _ _ _ _ 341 [(6, .int v), (5, .ref b5), (4, .ref 183), (3, .ref 182), (2, .ref 181), (1, .ref 0), (0, .ref 1000000001)] [.int z450, .int z449] g _ _
  refine AR.s (pc' := 343) (lv' := [(6, .int v), (5, .ref b5), (4, .ref 183), (3, .ref 182), (2, .ref 181), (1, .ref 0), (0, .ref 1000000001)]) (st' := [.int v, .int z450, .int z449]) (h' := g) _ hn_285 hk_285_341 rfl ?_
  refine AW.mulcT hk_285_343 ez450 (by omega) (by omega) (fun z451 ez451 => ?_)
  show AR _ _ _ _ _ _ _ 344 [(6, .int v), (5, .ref b5), (4, .ref 183), (3, .ref 182), (2, .ref 181), (1, .ref 0), (0, .ref 1000000001)] [.int z451, .int z449] g _ _
  refine AW.jeq hk_285_344 (tgt := 349) (by decide) (fun p1 => ?_) (fun p2 => ?_)
  · refine AR.s (pc' := 350) (lv' := [(6, .int v), (5, .ref b5), (4, .ref 183), (3, .ref 182), (2, .ref 181), (1, .ref 0), (0, .ref 1000000001)]) (st' := [.ref 1000000001]) (h' := g) _ hn_285 hk_285_349 rfl ?_
    refine AW.bipushT hk_285_350 (by decide) (fun z452 ez452 => ?_)
    show AR _ _ _ _ _ _ _ 352 [(6, .int v), (5, .ref b5), (4, .ref 183), (3, .ref 182), (2, .ref 181), (1, .ref 0), (0, .ref 1000000001)] [.int z452, .ref 1000000001] g _ _
    refine AW.cs (as := [.ref 1000000001, .int z452]) (rest := []) hk_285_352 (by decide +kernel) rfl rfl (Nat.le_of_ble_eq_true rfl) (t_131 hlst hL (k := 13) (by omega) (by omega)) (by decide) (Nat.zero_le _) (Nat.zero_le _) (fun E h' q => by cases q.2) ?_
    rintro w9 g9 ⟨ee453, e⟩
    cases e
    obtain rfl := ee453.symm
    show AR _ _ _ _ _ _ _ 355 [(6, .int v), (5, .ref b5), (4, .ref 183), (3, .ref 182), (2, .ref 181), (1, .ref 0), (0, .ref 1000000001)] [.int (sv L xs (13))] g _ _
    refine AR.s (pc' := 357) (lv' := [(7, .int (sv L xs (13))), (6, .int v), (5, .ref b5), (4, .ref 183), (3, .ref 182), (2, .ref 181), (1, .ref 0), (0, .ref 1000000001)]) (st' := []) (h' := g) _ hn_285 hk_285_355 rfl ?_
    refine AR.s (pc' := 358) (lv' := [(7, .int (sv L xs (13))), (6, .int v), (5, .ref b5), (4, .ref 183), (3, .ref 182), (2, .ref 181), (1, .ref 0), (0, .ref 1000000001)]) (st' := [.ref 1000000001]) (h' := g) _ hn_285 hk_285_357 rfl ?_
    refine AW.bipushT hk_285_358 (by decide) (fun z454 ez454 => ?_)
    show AR _ _ _ _ _ _ _ 360 [(7, .int (sv L xs (13))), (6, .int v), (5, .ref b5), (4, .ref 183), (3, .ref 182), (2, .ref 181), (1, .ref 0), (0, .ref 1000000001)] [.int z454, .ref 1000000001] g _ _
    refine AW.cs (as := [.ref 1000000001, .int z454]) (rest := []) hk_285_360 (by decide +kernel) rfl rfl (Nat.le_of_ble_eq_true rfl) (t_131 hlst hL (k := 14) (by omega) (by omega)) (by decide) (Nat.zero_le _) (Nat.zero_le _) (fun E h' q => by cases q.2) ?_
    rintro w9 g9 ⟨ee455, e⟩
    cases e
    obtain rfl := ee455.symm
    show AR _ _ _ _ _ _ _ 363 [(7, .int (sv L xs (13))), (6, .int v), (5, .ref b5), (4, .ref 183), (3, .ref 182), (2, .ref 181), (1, .ref 0), (0, .ref 1000000001)] [.int (sv L xs (14))] g _ _
    refine AW.bipushT hk_285_363 (by decide) (fun z456 ez456 => ?_)
    show AR _ _ _ _ _ _ _ 365 [(7, .int (sv L xs (13))), (6, .int v), (5, .ref b5), (4, .ref 183), (3, .ref 182), (2, .ref 181), (1, .ref 0), (0, .ref 1000000001)] [.int z456, .int (sv L xs (14))] g _ _
    have d7 := lbw_bd (sv L xs 14) (n := 7) (by decide)
    refine AW.cs (as := [.int (sv L xs (14)), .int z456]) (rest := []) hk_285_365 (by decide +kernel) rfl rfl (Nat.le_of_ble_eq_true rfl) (AW.W (t_130 hlst (n := 7) (by omega) (by decide))) (by decide) (Nat.zero_le _) (Nat.zero_le _) (fun E h' q => by obtain ⟨-, x, e, -⟩ := q; cases e) ?_
    rintro w457 g458 ⟨eg458, z459, e, ez459⟩
    cases e
    obtain rfl := eg458.symm
    show AR _ _ _ _ _ _ _ 368 [(7, .int (sv L xs (13))), (6, .int v), (5, .ref b5), (4, .ref 183), (3, .ref 182), (2, .ref 181), (1, .ref 0), (0, .ref 1000000001)] [.int z459] g _ _
    refine AW.iconstT hk_285_368 (by decide) (fun z460 ez460 => ?_)
    show AR _ _ _ _ _ _ _ 369 [(7, .int (sv L xs (13))), (6, .int v), (5, .ref b5), (4, .ref 183), (3, .ref 182), (2, .ref 181), (1, .ref 0), (0, .ref 1000000001)] [.int z460, .int z459] g _ _
    refine AW.subT hk_285_369 (by omega) (by omega) (fun z461 ez461 => ?_)
    show AR _ _ _ _ _ _ _ 370 [(7, .int (sv L xs (13))), (6, .int v), (5, .ref b5), (4, .ref 183), (3, .ref 182), (2, .ref 181), (1, .ref 0), (0, .ref 1000000001)] [.int z461] g _ _
    refine AR.s (pc' := 372) (lv' := [(8, .int z461), (7, .int (sv L xs (13))), (6, .int v), (5, .ref b5), (4, .ref 183), (3, .ref 182), (2, .ref 181), (1, .ref 0), (0, .ref 1000000001)]) (st' := []) (h' := g) _ hn_285 hk_285_370 rfl ?_
    refine AW.iconstT hk_285_372 (by decide) (fun z462 ez462 => ?_)
    show AR _ _ _ _ _ _ _ 373 [(8, .int z461), (7, .int (sv L xs (13))), (6, .int v), (5, .ref b5), (4, .ref 183), (3, .ref 182), (2, .ref 181), (1, .ref 0), (0, .ref 1000000001)] [.int z462] g _ _
    refine AR.s (pc' := 375) (lv' := [(9, .int z462), (8, .int z461), (7, .int (sv L xs (13))), (6, .int v), (5, .ref b5), (4, .ref 183), (3, .ref 182), (2, .ref 181), (1, .ref 0), (0, .ref 1000000001)]) (st' := []) (h' := g) _ hn_285 hk_285_373 rfl ?_
    refine AW.iconstT hk_285_375 (by decide) (fun z463 ez463 => ?_)
    show AR _ _ _ _ _ _ _ 376 [(9, .int z462), (8, .int z461), (7, .int (sv L xs (13))), (6, .int v), (5, .ref b5), (4, .ref 183), (3, .ref 182), (2, .ref 181), (1, .ref 0), (0, .ref 1000000001)] [.int z463] g _ _
    refine AR.s (pc' := 378) (lv' := [(10, .int z463), (9, .int z462), (8, .int z461), (7, .int (sv L xs (13))), (6, .int v), (5, .ref b5), (4, .ref 183), (3, .ref 182), (2, .ref 181), (1, .ref 0), (0, .ref 1000000001)]) (st' := []) (h' := g) _ hn_285 hk_285_376 rfl ?_
    refine AR.lessL (lv' := [(10, .int z463), (9, .int z462), (8, .int z461), (7, .int (sv L xs (13))), (5, .ref b5), (4, .ref 183), (3, .ref 182), (2, .ref 181), (1, .ref 0), (0, .ref 1000000001)]) (List.forall_mem_cons.mpr ⟨⟨_, by simp, ax_le_rfl rfl⟩, (List.forall_mem_cons.mpr ⟨⟨_, by simp, ax_le_rfl rfl⟩, (List.forall_mem_cons.mpr ⟨⟨_, by simp, ax_le_rfl rfl⟩, (List.forall_mem_cons.mpr ⟨⟨_, by simp, ax_le_rfl rfl⟩, (List.forall_mem_cons.mpr ⟨⟨_, by simp, ax_le_rfl rfl⟩, (List.forall_mem_cons.mpr ⟨⟨_, by simp, ax_le_rfl rfl⟩, (List.forall_mem_cons.mpr ⟨⟨_, by simp, ax_le_rfl rfl⟩, (List.forall_mem_cons.mpr ⟨⟨_, by simp, ax_le_rfl rfl⟩, (List.forall_mem_cons.mpr ⟨⟨_, by simp, ax_le_rfl rfl⟩, (List.forall_mem_cons.mpr ⟨⟨_, by simp, ax_le_rfl rfl⟩, (fun _ h => absurd h List.not_mem_nil)⟩)⟩)⟩)⟩)⟩)⟩)⟩)⟩)⟩)⟩) ?_
    generalize sv L xs 13 = c
    show AR _ _ _ _ _ _ _ 378 [(10, .int z463), (9, .int z462), (8, .int z461), (7, .int c), (5, .ref b5), (4, .ref 183), (3, .ref 182), (2, .ref 181), (1, .ref 0), (0, .ref 1000000001)] [] g _ _
    refine l4 hlst (c := c) (d := z461) b1 e5 hf (fun u hu => ?_) 64 0 _ _ rfl (by omega) (by show _ = (1 : Int); omega)
    show AR _ _ _ _ _ _ _ 424 [(9, .int u), (8, .int z461), (7, .int c), (5, .ref b5), (4, .ref 183), (3, .ref 182), (2, .ref 181), (1, .ref 0), (0, .ref 1000000001)] [] g _ _
    refine AR.s (pc' := 426) (lv' := [(9, .int u), (8, .int z461), (7, .int c), (5, .ref b5), (4, .ref 183), (3, .ref 182), (2, .ref 181), (1, .ref 0), (0, .ref 1000000001)]) (st' := [.int c]) (h' := g) _ hn_285 hk_285_424 rfl ?_
    refine AW.iconstT hk_285_426 (by decide) (fun z464 ez464 => ?_)
    show AR _ _ _ _ _ _ _ 427 [(9, .int u), (8, .int z461), (7, .int c), (5, .ref b5), (4, .ref 183), (3, .ref 182), (2, .ref 181), (1, .ref 0), (0, .ref 1000000001)] [.int z464, .int c] g _ _
    refine AR.s (pc' := 429) (lv' := [(9, .int u), (8, .int z461), (7, .int c), (5, .ref b5), (4, .ref 183), (3, .ref 182), (2, .ref 181), (1, .ref 0), (0, .ref 1000000001)]) (st' := [.int z461, .int z464, .int c]) (h' := g) _ hn_285 hk_285_427 rfl ?_
    refine AW.cs (as := [.int c, .int z464, .int z461]) (rest := []) hk_285_429 (by decide +kernel) rfl rfl (Nat.le_of_ble_eq_true rfl) (AW.W (t_137 hlst (Or.inl ez464) (by omega))) (by decide) (by omega) (by omega) (fun E h' q => by obtain ⟨_, e, -⟩ := q; cases e) ?_
    rintro w1 g1 ⟨a1, e, F1, T1⟩
    cases e
    have L1 := F1.lf
    have H1 := L1.hy i1
    have t0 := tx_len c z464.toInt z461.toInt
    show AR _ _ _ _ _ _ _ 432 [(9, .int u), (8, .int z461), (7, .int c), (5, .ref b5), (4, .ref 183), (3, .ref 182), (2, .ref 181), (1, .ref 0), (0, .ref 1000000001)] [.ref a1] g1 _ _
    refine AR.s (pc' := 434) (lv' := [(10, .ref a1), (9, .int u), (8, .int z461), (7, .int c), (5, .ref b5), (4, .ref 183), (3, .ref 182), (2, .ref 181), (1, .ref 0), (0, .ref 1000000001)]) (st' := []) (h' := g1) _ hn_285 hk_285_432 rfl ?_
    refine AR.s (pc' := 435) (lv' := [(10, .ref a1), (9, .int u), (8, .int z461), (7, .int c), (5, .ref b5), (4, .ref 183), (3, .ref 182), (2, .ref 181), (1, .ref 0), (0, .ref 1000000001)]) (st' := [.ref 0]) (h' := g1) _ hn_285 hk_285_434 rfl ?_
    refine AR.s (pc' := 437) (lv' := [(10, .ref a1), (9, .int u), (8, .int z461), (7, .int c), (5, .ref b5), (4, .ref 183), (3, .ref 182), (2, .ref 181), (1, .ref 0), (0, .ref 1000000001)]) (st' := [.ref a1, .ref 0]) (h' := g1) _ hn_285 hk_285_435 rfl ?_
    refine AR.s (pc' := 439) (lv' := [(10, .ref a1), (9, .int u), (8, .int z461), (7, .int c), (5, .ref b5), (4, .ref 183), (3, .ref 182), (2, .ref 181), (1, .ref 0), (0, .ref 1000000001)]) (st' := [.ref a1, .ref a1, .ref 0]) (h' := g1) _ hn_285 hk_285_437 rfl ?_
    refine AW.jS (as := []) (rest := [.ref a1, .ref 0]) hk_285_439 hs_285_439 (by decide +kernel) (by decide +kernel) (by decide +kernel) (ax_wk_mem (ix := 3189) (by decide +kernel)) T1 rfl rfl (Nat.le_of_ble_eq_true rfl) (AW.W (s_275 hlst T1)) (by decide) (Nat.zero_le _) (Nat.zero_le _) (fun E h' q => by obtain ⟨-, x, e, -⟩ := q; cases e) ?_
    rintro w465 g466 ⟨eg466, z467, e, ez467⟩
    cases e
    obtain rfl := eg466.symm
    show AR _ _ _ _ _ _ _ 442 [(10, .ref a1), (9, .int u), (8, .int z461), (7, .int c), (5, .ref b5), (4, .ref 183), (3, .ref 182), (2, .ref 181), (1, .ref 0), (0, .ref 1000000001)] [.int z467, .ref a1, .ref 0] g1 _ _
    have z1 : hy_z g1 1 1 = 0 := (L1.z i1 (by decide) List.not_mem_nil 1).trans i5
    show AR _ _ _ _ _ _ _ 442 [(10, .ref a1), (9, .int u), (8, .int z461), (7, .int c), (5, .ref b5), (4, .ref 183), (3, .ref 182), (2, .ref 181), (1, .ref 0), (0, .ref 1000000001)] [.int z467, .ref a1, .ref 0] g1 _ _
    refine AW.cs (as := [.ref 0, .ref a1, .int z467]) (rest := []) hk_285_442 (by decide +kernel) rfl rfl (Nat.le_of_ble_eq_true rfl) (AW.W (t_134 hlst H1 T1 (by omega) ez467 z1)) (by decide) (Nat.zero_le _) (Nat.zero_le _) (fun E h' q => by cases q.1) ?_
    rintro w2 g2 ⟨e, H2, P2, n2, R2⟩
    cases e
    show AR _ _ _ _ _ _ _ 445 [(10, .ref a1), (9, .int u), (8, .int z461), (7, .int c), (5, .ref b5), (4, .ref 183), (3, .ref 182), (2, .ref 181), (1, .ref 0), (0, .ref 1000000001)] [] g2 _ _
    refine AR.s (pc' := 446) (lv' := [(10, .ref a1), (9, .int u), (8, .int z461), (7, .int c), (5, .ref b5), (4, .ref 183), (3, .ref 182), (2, .ref 181), (1, .ref 0), (0, .ref 1000000001)]) (st' := [.ref 0]) (h' := g2) _ hn_285 hk_285_445 rfl ?_
    have I2 := (L1.I i1 i2 List.not_mem_nil List.not_mem_nil List.not_mem_nil).go P2 (by decide) (by decide) (by decide)
    have C2 := (L1.C i1 i3 List.not_mem_nil).go P2 (by decide)
    have QC := qC_of R2 (by omega : -3 ≤ z461.toInt ∧ z461.toInt ≤ 3)
    rw [if_pos ez464] at QC
    have W2 : ∀ w, hw g2 148 w = hw g 148 w := fun w => (P2.w (by decide) w).trans (L1.w i1 (by decide) List.not_mem_nil w)
    have hA : ∀ k, k < 24 → -1000 ≤ q_A (fun _ => 0) (tms c 0 6) k ∧ q_A (fun _ => 0) (tms c 0 6) k ≤ 1000 := fun k _ => by have := qe_bd c k; unfold qe at this; omega
    obtain ⟨v1, c1⟩ := p_c8 H2
    show AR _ _ _ _ _ _ _ 446 [(10, .ref a1), (9, .int u), (8, .int z461), (7, .int c), (5, .ref b5), (4, .ref 183), (3, .ref 182), (2, .ref 181), (1, .ref 0), (0, .ref 1000000001)] [.ref 0] g2 _ _
    refine AW.jr (r := 0) (as := []) (rest := []) hk_285_446 (by decide) (by decide +kernel) (by decide) c1 rfl rfl (Nat.le_of_ble_eq_true rfl) (AW.W (q_73_7 hlst H2 I2 C2 QC hA (by omega))) (by decide) (Nat.zero_le _) (Nat.zero_le _) ?_ (fun E h' q => by obtain ⟨-, -, -, -, _, e, -⟩ := q; cases e)
    rintro w3 g3 ⟨H3, P3, n3, t3, z3, e3, C, hC, hz⟩
    cases e3
    have W3 : ∀ w, w < 64 → ∀ k, k < 64 → pb (hw g3 148 w) k = FF L xs 4 k := fun w hw0 k hk => by rw [P3.w (by decide), W2]; exact i6 w hw0 k hk
    have I3 : pI g3 := ⟨(P3.2 24 0 (by decide)).trans I2.1, (n3 17 (by decide)).trans I2.2.1, (P3.z (by decide) 1).trans I2.2.2⟩
    have A3 := ((A.lf L1 (fun q h => absurd h List.not_mem_nil)).lf P2.lf (by decide)).lf P3.lf (by decide)
    have l5 : b5 < g.length := (List.getElem?_eq_some_iff.mp e5).1
    have e51 : g1[b5]? = some (102, ar 64 f) := (L1.2 b5 l5 List.not_mem_nil).trans e5
    have e52 : g2[b5]? = some (102, ar 64 f) := P2.cell (by simp only [List.mem_cons, List.not_mem_nil, or_false]; omega) e51
    have e53 : g3[b5]? = some (102, ar 64 f) := P3.cell (by simp only [List.mem_cons, List.not_mem_nil, or_false]; omega) e52
    have zu : z3.toInt = u.toInt := by
      rw [hu]
      rcases hz with ⟨q1, q2⟩ | ⟨q1, w, k, hw0, hk, q2, q3⟩
      · rw [(im_iff 64).mpr (fun k hk e => (fu_iff7 rfl).mp ((post_F (s := 1) (b := 1 * z461.toInt) hC (w := 0) (by decide) hk).mp (q2 0 (by decide) k hk (by rw [W2, i6 0 (by decide) k hk]; exact e)))), if_pos rfl]; exact q1
      · cases e9 : im (FF L xs 4) (fun k => fu 0 z461.toInt (fs c k 6)) 64 with
        | false => rw [if_neg (by decide)]; exact q1
        | true => exact absurd ((post_F (s := 1) (b := 1 * z461.toInt) hC hw0 hk).mpr ((fu_iff7 rfl).mpr ((im_iff 64).mp e9 k hk (by rw [← i6 w hw0 k hk, ← W2]; exact q2)))) q3
    show AR _ _ _ _ _ _ _ 449 [(10, .ref a1), (9, .int u), (8, .int z461), (7, .int c), (5, .ref b5), (4, .ref 183), (3, .ref 182), (2, .ref 181), (1, .ref 0), (0, .ref 1000000001)] [.int z3] g3 _ _
    refine AR.s (pc' := 451) (lv' := [(10, .ref a1), (9, .int u), (8, .int z461), (7, .int c), (5, .ref b5), (4, .ref 183), (3, .ref 182), (2, .ref 181), (1, .ref 0), (0, .ref 1000000001)]) (st' := [.int u, .int z3]) (h' := g3) _ hn_285 hk_285_449 rfl ?_
    refine AW.jeq hk_285_451 (tgt := 456) (by decide) (fun r1 => ?_) (fun r2 => ?_)
    · refine AR.lessL (lv' := [(5, .ref b5), (4, .ref 183), (3, .ref 182), (2, .ref 181), (1, .ref 0), (0, .ref 1000000001)]) (List.forall_mem_cons.mpr ⟨⟨_, by simp, ax_le_rfl rfl⟩, (List.forall_mem_cons.mpr ⟨⟨_, by simp, ax_le_rfl rfl⟩, (List.forall_mem_cons.mpr ⟨⟨_, by simp, ax_le_rfl rfl⟩, (List.forall_mem_cons.mpr ⟨⟨_, by simp, ax_le_rfl rfl⟩, (List.forall_mem_cons.mpr ⟨⟨_, by simp, ax_le_rfl rfl⟩, (List.forall_mem_cons.mpr ⟨⟨_, by simp, ax_le_rfl rfl⟩, (fun _ h => absurd h List.not_mem_nil)⟩)⟩)⟩)⟩)⟩)⟩) ?_
      exact AR.lt (by omega) (by omega) (law_456 (bc := bc) (bs := bs) hlst hL b1 e53 hf b0 A3 V H3 I3 W3)
    · exact absurd zu r2
  · exact absurd (by omega) p2
theorem law_24 (hlst : l.stackTraces = false) (hL : L ≤ 3072) {i : Int32} (hi : i.toInt = 0) (S : S1 L xs g 0) : AR ax_ns l (ax_mm 285) 8 (ax_r L xs) lw_PE X 24 [(5, .int i), (4, .ref 183), (3, .ref 182), (2, .ref 181), (1, .ref 0), (0, .ref 1000000001)] [] g (1002) (40070) := by
  refine AR.lt (by decide) (by decide) (l1 (bc := 202) (bs := 8070) hlst hL (fun g1 S1 => ?_) 4 0 g i rfl hi S)
  show AR _ _ _ _ _ _ _ 96 [(4, .ref 183), (3, .ref 182), (2, .ref 181), (1, .ref 0), (0, .ref 1000000001)] [] g1 _ _
  refine AW.iconstT hk_285_96 (by decide) (fun z468 ez468 => ?_)
  show AR _ _ _ _ _ _ _ 97 [(4, .ref 183), (3, .ref 182), (2, .ref 181), (1, .ref 0), (0, .ref 1000000001)] [.int z468] g1 _ _
  refine AR.s (pc' := 99) (lv' := [(5, .int z468), (4, .ref 183), (3, .ref 182), (2, .ref 181), (1, .ref 0), (0, .ref 1000000001)]) (st' := []) (h' := g1) _ hn_285 hk_285_97 rfl ?_
  refine AR.lessL (lv' := [(5, .int z468), (4, .ref 183), (3, .ref 182), (2, .ref 181), (1, .ref 0), (0, .ref 1000000001)]) (List.forall_mem_cons.mpr ⟨⟨_, by simp, ax_le_rfl rfl⟩, (List.forall_mem_cons.mpr ⟨⟨_, by simp, ax_le_rfl rfl⟩, (List.forall_mem_cons.mpr ⟨⟨_, by simp, ax_le_rfl rfl⟩, (List.forall_mem_cons.mpr ⟨⟨_, by simp, ax_le_rfl rfl⟩, (List.forall_mem_cons.mpr ⟨⟨_, by simp, ax_le_rfl rfl⟩, (List.forall_mem_cons.mpr ⟨⟨_, by simp, ax_le_rfl rfl⟩, (fun _ h => absurd h List.not_mem_nil)⟩)⟩)⟩)⟩)⟩)⟩) ?_
  refine l2 hlst hL (fun g2 S2 => ?_) 5 0 g1 _ rfl (by omega) ⟨S1.1, S1.2⟩
  obtain ⟨I, fr, fd, fa, A, V⟩ := S2
  have l183 := (List.getElem?_eq_some_iff.mp A.2.2).1
  show AR _ _ _ _ _ _ _ 231 [(4, .ref 183), (3, .ref 182), (2, .ref 181), (1, .ref 0), (0, .ref 1000000001)] [] g2 _ _
  refine AW.bipushT hk_285_231 (by decide) (fun z469 ez469 => ?_)
  show AR _ _ _ _ _ _ _ 233 [(4, .ref 183), (3, .ref 182), (2, .ref 181), (1, .ref 0), (0, .ref 1000000001)] [.int z469] g2 _ _
  refine AW.nz hk_285_233 (N := 64) (bc := 201) (bs' := 8006) ez469 (by decide) ?_
  show AR _ _ _ _ _ _ _ 235 [(4, .ref 183), (3, .ref 182), (2, .ref 181), (1, .ref 0), (0, .ref 1000000001)] [.ref g2.length] (g2 ++ [(102, List.replicate 64 (Value.int 0))]) _ _
  refine AR.small (fun hz => ?_)
  rw [List.length_append] at hz
  refine AR.s (pc' := 237) (lv' := [(5, .ref g2.length), (4, .ref 183), (3, .ref 182), (2, .ref 181), (1, .ref 0), (0, .ref 1000000001)]) (st' := []) (h' := (g2 ++ [(102, List.replicate 64 (Value.int 0))])) _ hn_285 hk_285_235 rfl ?_
  refine AW.iconstT hk_285_237 (by decide) (fun z470 ez470 => ?_)
  show AR _ _ _ _ _ _ _ 238 [(5, .ref g2.length), (4, .ref 183), (3, .ref 182), (2, .ref 181), (1, .ref 0), (0, .ref 1000000001)] [.int z470] (g2 ++ [(102, List.replicate 64 (Value.int 0))]) _ _
  refine AR.s (pc' := 240) (lv' := [(6, .int z470), (5, .ref g2.length), (4, .ref 183), (3, .ref 182), (2, .ref 181), (1, .ref 0), (0, .ref 1000000001)]) (st' := []) (h' := (g2 ++ [(102, List.replicate 64 (Value.int 0))])) _ hn_285 hk_285_238 rfl ?_
  refine AW.iconstT hk_285_240 (by decide) (fun z471 ez471 => ?_)
  show AR _ _ _ _ _ _ _ 241 [(6, .int z470), (5, .ref g2.length), (4, .ref 183), (3, .ref 182), (2, .ref 181), (1, .ref 0), (0, .ref 1000000001)] [.int z471] (g2 ++ [(102, List.replicate 64 (Value.int 0))]) _ _
  refine AR.s (pc' := 243) (lv' := [(7, .int z471), (6, .int z470), (5, .ref g2.length), (4, .ref 183), (3, .ref 182), (2, .ref 181), (1, .ref 0), (0, .ref 1000000001)]) (st' := []) (h' := (g2 ++ [(102, List.replicate 64 (Value.int 0))])) _ hn_285 hk_285_241 rfl ?_
  refine AR.lessL (lv' := [(7, .int z471), (6, .int z470), (5, .ref g2.length), (4, .ref 183), (3, .ref 182), (2, .ref 181), (1, .ref 0), (0, .ref 1000000001)]) (List.forall_mem_cons.mpr ⟨⟨_, by simp, ax_le_rfl rfl⟩, (List.forall_mem_cons.mpr ⟨⟨_, by simp, ax_le_rfl rfl⟩, (List.forall_mem_cons.mpr ⟨⟨_, by simp, ax_le_rfl rfl⟩, (List.forall_mem_cons.mpr ⟨⟨_, by simp, ax_le_rfl rfl⟩, (List.forall_mem_cons.mpr ⟨⟨_, by simp, ax_le_rfl rfl⟩, (List.forall_mem_cons.mpr ⟨⟨_, by simp, ax_le_rfl rfl⟩, (List.forall_mem_cons.mpr ⟨⟨_, by simp, ax_le_rfl rfl⟩, (List.forall_mem_cons.mpr ⟨⟨_, by simp, ax_le_rfl rfl⟩, (fun _ h => absurd h List.not_mem_nil)⟩)⟩)⟩)⟩)⟩)⟩)⟩)⟩) ?_
  refine l3 (b5 := g2.length) hlst hL (fun g3 f v S3 hf hv => AR.lt (Nat.le_refl _) (Nat.le_refl _) (law_335 (bc := 0) (bs := 0) hlst hL S3 hf hv)) 64 0 _ _ _ (fun _ => 0) rfl (by omega) (by show _ = (0 : Int); omega) ⟨?_, ⟨fr, fd, fa, ?_, V⟩, ?_, by omega, by omega⟩ (fun k hk => absurd hk (Nat.not_lt_zero _))
  · exact I.mv (fB_push (Nat.le_refl _)).lf (fun q h => absurd h List.not_mem_nil) (hy_app I.1 _) (by decide)
  · exact A.lf (fB_push (Nat.le_refl _)).lf (fun q h => absurd h List.not_mem_nil)
  · rw [← ar_rep]; exact hy_getl g2 _
end LWI
