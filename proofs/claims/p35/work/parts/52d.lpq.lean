/-! THE LAW, 4: setCost -/
theorem hn_103 : (ax_mm 103).2.2.1 = 4 := by decide +kernel
theorem hr_103 : (ax_mm 103).2.2.2.1 = (some .int) := by decide +kernel
theorem hk_103_0 : ax_look 103 0 = some (.iload_n 1, (0, 0, 0), .null, []) := by decide +kernel
theorem hk_103_1 : ax_look 103 1 = some (.invokestatic 219, (113, 1, 0), .null, [5165]) := by decide +kernel
theorem hk_103_4 : ax_look 103 4 = some (.iload_n 2, (0, 0, 0), .null, []) := by decide +kernel
theorem hk_103_5 : ax_look 103 5 = some (.sipush (-1000), (0, 0, 0), .null, []) := by decide +kernel
theorem hk_103_8 : ax_look 103 8 = some (.if_icmp .lt 10, (0, 0, 0), .null, []) := by decide +kernel
theorem hk_103_11 : ax_look 103 11 = some (.iload_n 2, (0, 0, 0), .null, []) := by decide +kernel
theorem hk_103_12 : ax_look 103 12 = some (.sipush 1000, (0, 0, 0), .null, []) := by decide +kernel
theorem hk_103_15 : ax_look 103 15 = some (.if_icmp .le 14, (0, 0, 0), .null, []) := by decide +kernel
theorem hk_103_18 : ax_look 103 18 = some (.new 119, (801, 0, 0), .null, []) := by decide +kernel
theorem hk_103_21 : ax_look 103 21 = some (.dup, (0, 0, 0), .null, []) := by decide +kernel
theorem hk_103_22 : ax_look 103 22 = some (.ldc_w 324, (900, 0, 0), .null, []) := by decide +kernel
theorem hk_103_25 : ax_look 103 25 = some (.invokespecial 123, (900, 0, 0), .null, []) := by decide +kernel
theorem hk_103_28 : ax_look 103 28 = some (.athrow, (0, 0, 0), .null, []) := by decide +kernel
theorem hk_103_29 : ax_look 103 29 = some (.aload_n 0, (0, 0, 0), .null, []) := by decide +kernel
theorem hk_103_30 : ax_look 103 30 = some (.getfield 84, (8, 13, 0), .null, [2001]) := by decide +kernel
theorem hk_103_33 : ax_look 103 33 = some (.iload_n 1, (0, 0, 0), .null, []) := by decide +kernel
theorem hk_103_34 : ax_look 103 34 = some (.iaload, (0, 0, 0), .null, []) := by decide +kernel
theorem hk_103_35 : ax_look 103 35 = some (.istore_n 3, (0, 0, 0), .null, []) := by decide +kernel
theorem hk_103_36 : ax_look 103 36 = some (.aload_n 0, (0, 0, 0), .null, []) := by decide +kernel
theorem hk_103_37 : ax_look 103 37 = some (.getfield 84, (8, 13, 0), .null, [2001]) := by decide +kernel
theorem hk_103_40 : ax_look 103 40 = some (.iload_n 1, (0, 0, 0), .null, []) := by decide +kernel
theorem hk_103_41 : ax_look 103 41 = some (.iload_n 2, (0, 0, 0), .null, []) := by decide +kernel
theorem hk_103_42 : ax_look 103 42 = some (.iastore, (0, 0, 0), .null, []) := by decide +kernel
theorem hk_103_43 : ax_look 103 43 = some (.iload_n 3, (0, 0, 0), .null, []) := by decide +kernel
theorem hk_103_44 : ax_look 103 44 = some (.ireturn, (0, 0, 0), .null, []) := by decide +kernel
theorem hn_113 : (ax_mm 113).2.2.1 = 1 := by decide +kernel
theorem hr_113 : (ax_mm 113).2.2.2.1 = none := by decide +kernel
theorem hk_113_0 : ax_look 113 0 = some (.iload_n 0, (0, 0, 0), .null, []) := by decide +kernel
theorem hk_113_1 : ax_look 113 1 = some (.ifCond .lt 9, (0, 0, 0), .null, []) := by decide +kernel
theorem hk_113_4 : ax_look 113 4 = some (.iload_n 0, (0, 0, 0), .null, []) := by decide +kernel
theorem hk_113_5 : ax_look 113 5 = some (.bipush 12, (0, 0, 0), .null, []) := by decide +kernel
theorem hk_113_7 : ax_look 113 7 = some (.if_icmp .lt 14, (0, 0, 0), .null, []) := by decide +kernel
theorem hk_113_10 : ax_look 113 10 = some (.new 170, (802, 0, 0), .null, []) := by decide +kernel
theorem hk_113_13 : ax_look 113 13 = some (.dup, (0, 0, 0), .null, []) := by decide +kernel
theorem hk_113_14 : ax_look 113 14 = some (.ldc_w 360, (900, 0, 0), .null, []) := by decide +kernel
theorem hk_113_17 : ax_look 113 17 = some (.invokespecial 174, (900, 0, 0), .null, []) := by decide +kernel
theorem hk_113_20 : ax_look 113 20 = some (.athrow, (0, 0, 0), .null, []) := by decide +kernel
theorem hk_113_21 : ax_look 113 21 = some (.return_, (0, 0, 0), .null, []) := by decide +kernel
theorem hn_131 : (ax_mm 131).2.2.1 = 1 := by decide +kernel
theorem hr_131 : (ax_mm 131).2.2.2.1 = (some .int) := by decide +kernel
theorem hk_131_0 : ax_look 131 0 = some (.aload_n 0, (0, 0, 0), .null, []) := by decide +kernel
theorem hk_131_1 : ax_look 131 1 = some (.getfield 61, (9, 0, 0), .null, [6176]) := by decide +kernel
theorem hk_131_4 : ax_look 131 4 = some (.ireturn, (0, 0, 0), .null, []) := by decide +kernel
theorem hn_134 : (ax_mm 134).2.2.1 = 1 := by decide +kernel
theorem hr_134 : (ax_mm 134).2.2.2.1 = (some .boolean) := by decide +kernel
theorem hk_134_0 : ax_look 134 0 = some (.iload_n 0, (0, 0, 0), .null, []) := by decide +kernel
theorem hk_134_1 : ax_look 134 1 = some (.ifCond .lt 13, (0, 0, 0), .null, []) := by decide +kernel
theorem hk_134_4 : ax_look 134 4 = some (.iload_n 0, (0, 0, 0), .null, []) := by decide +kernel
theorem hk_134_5 : ax_look 134 5 = some (.bipush 12, (0, 0, 0), .null, []) := by decide +kernel
theorem hk_134_7 : ax_look 134 7 = some (.if_icmp .ge 7, (0, 0, 0), .null, []) := by decide +kernel
theorem hk_134_10 : ax_look 134 10 = some (.iconst 1, (0, 0, 0), .null, []) := by decide +kernel
theorem hk_134_11 : ax_look 134 11 = some (.goto 4, (0, 0, 0), .null, []) := by decide +kernel
theorem hk_134_14 : ax_look 134 14 = some (.iconst 0, (0, 0, 0), .null, []) := by decide +kernel
theorem hk_134_15 : ax_look 134 15 = some (.ireturn, (0, 0, 0), .null, []) := by decide +kernel
theorem hn_208 : (ax_mm 208).2.2.1 = 4 := by decide +kernel
theorem hr_208 : (ax_mm 208).2.2.2.1 = (some .int) := by decide +kernel
theorem hk_208_0 : ax_look 208 0 = some (.aload_n 0, (0, 0, 0), .null, []) := by decide +kernel
theorem hk_208_1 : ax_look 208 1 = some (.iconst 0, (0, 0, 0), .null, []) := by decide +kernel
theorem hk_208_2 : ax_look 208 2 = some (.putfield 61, (9, 0, 0), .null, [6176]) := by decide +kernel
theorem hk_208_5 : ax_look 208 5 = some (.iload_n 1, (0, 0, 0), .null, []) := by decide +kernel
theorem hk_208_6 : ax_look 208 6 = some (.invokestatic 224, (134, 1, 0), .null, [8008]) := by decide +kernel
theorem hk_208_9 : ax_look 208 9 = some (.ifCond .ne 9, (0, 0, 0), .null, []) := by decide +kernel
theorem hk_208_12 : ax_look 208 12 = some (.aload_n 0, (0, 0, 0), .null, []) := by decide +kernel
theorem hk_208_13 : ax_look 208 13 = some (.iconst 1, (0, 0, 0), .null, []) := by decide +kernel
theorem hk_208_14 : ax_look 208 14 = some (.invokevirtual 96, (132, 1, 9), .null, [7042, 29]) := by decide +kernel
theorem hk_208_17 : ax_look 208 17 = some (.ireturn, (0, 0, 0), .null, []) := by decide +kernel
theorem hk_208_18 : ax_look 208 18 = some (.iload_n 2, (0, 0, 0), .null, []) := by decide +kernel
theorem hk_208_19 : ax_look 208 19 = some (.sipush (-1000), (0, 0, 0), .null, []) := by decide +kernel
theorem hk_208_22 : ax_look 208 22 = some (.if_icmp .lt 10, (0, 0, 0), .null, []) := by decide +kernel
theorem hk_208_25 : ax_look 208 25 = some (.iload_n 2, (0, 0, 0), .null, []) := by decide +kernel
theorem hk_208_26 : ax_look 208 26 = some (.sipush 1000, (0, 0, 0), .null, []) := by decide +kernel
theorem hk_208_29 : ax_look 208 29 = some (.if_icmp .le 9, (0, 0, 0), .null, []) := by decide +kernel
theorem hk_208_32 : ax_look 208 32 = some (.aload_n 0, (0, 0, 0), .null, []) := by decide +kernel
theorem hk_208_33 : ax_look 208 33 = some (.iconst 2, (0, 0, 0), .null, []) := by decide +kernel
theorem hk_208_34 : ax_look 208 34 = some (.invokevirtual 96, (132, 1, 9), .null, [7042, 29]) := by decide +kernel
theorem hk_208_37 : ax_look 208 37 = some (.ireturn, (0, 0, 0), .null, []) := by decide +kernel
theorem hk_208_38 : ax_look 208 38 = some (.aload_n 0, (0, 0, 0), .null, []) := by decide +kernel
theorem hk_208_39 : ax_look 208 39 = some (.getfield 46, (9, 25, 0), .null, [6201]) := by decide +kernel
theorem hk_208_42 : ax_look 208 42 = some (.iload_n 1, (0, 0, 0), .null, []) := by decide +kernel
theorem hk_208_43 : ax_look 208 43 = some (.iaload, (0, 0, 0), .null, []) := by decide +kernel
theorem hk_208_44 : ax_look 208 44 = some (.istore_n 3, (0, 0, 0), .null, []) := by decide +kernel
theorem hk_208_45 : ax_look 208 45 = some (.aload_n 0, (0, 0, 0), .null, []) := by decide +kernel
theorem hk_208_46 : ax_look 208 46 = some (.getfield 46, (9, 25, 0), .null, [6201]) := by decide +kernel
theorem hk_208_49 : ax_look 208 49 = some (.iload_n 1, (0, 0, 0), .null, []) := by decide +kernel
theorem hk_208_50 : ax_look 208 50 = some (.iload_n 2, (0, 0, 0), .null, []) := by decide +kernel
theorem hk_208_51 : ax_look 208 51 = some (.iastore, (0, 0, 0), .null, []) := by decide +kernel
theorem hk_208_52 : ax_look 208 52 = some (.iload_n 3, (0, 0, 0), .null, []) := by decide +kernel
theorem hk_208_53 : ax_look 208 53 = some (.ireturn, (0, 0, 0), .null, []) := by decide +kernel
theorem hn_246 : (ax_mm 246).2.2.1 = 5 := by decide +kernel
theorem hr_246 : (ax_mm 246).2.2.2.1 = (some .int) := by decide +kernel
theorem hk_246_0 : ax_look 246 0 = some (.aload_n 3, (0, 0, 0), .null, []) := by decide +kernel
theorem hk_246_1 : ax_look 246 1 = some (.iconst 0, (0, 0, 0), .null, []) := by decide +kernel
theorem hk_246_2 : ax_look 246 2 = some (.aload_n 0, (0, 0, 0), .null, []) := by decide +kernel
theorem hk_246_3 : ax_look 246 3 = some (.iload_n 1, (0, 0, 0), .null, []) := by decide +kernel
theorem hk_246_4 : ax_look 246 4 = some (.iload_n 2, (0, 0, 0), .null, []) := by decide +kernel
theorem hk_246_5 : ax_look 246 5 = some (.invokevirtual 109, (103, 2, 8), .null, [6091, 6093]) := by decide +kernel
theorem hk_246_8 : ax_look 246 8 = some (.i2l, (0, 0, 0), .null, []) := by decide +kernel
theorem hk_246_9 : ax_look 246 9 = some (.lastore, (0, 0, 0), .null, []) := by decide +kernel
theorem hk_246_10 : ax_look 246 10 = some (.goto 11, (0, 0, 0), .null, []) := by decide +kernel
theorem hk_246_13 : ax_look 246 13 = some (.astore 4, (0, 0, 0), .null, []) := by decide +kernel
theorem hk_246_15 : ax_look 246 15 = some (.iconst 1, (0, 0, 0), .null, []) := by decide +kernel
theorem hk_246_16 : ax_look 246 16 = some (.ireturn, (0, 0, 0), .null, []) := by decide +kernel
theorem hk_246_17 : ax_look 246 17 = some (.astore 4, (0, 0, 0), .null, []) := by decide +kernel
theorem hk_246_19 : ax_look 246 19 = some (.iconst 2, (0, 0, 0), .null, []) := by decide +kernel
theorem hk_246_20 : ax_look 246 20 = some (.ireturn, (0, 0, 0), .null, []) := by decide +kernel
theorem hk_246_21 : ax_look 246 21 = some (.iconst 0, (0, 0, 0), .null, []) := by decide +kernel
theorem hk_246_22 : ax_look 246 22 = some (.ireturn, (0, 0, 0), .null, []) := by decide +kernel
theorem hy_t0_13 : ty_tt 0 13 = (2, 23, 0, 0, 0) := by decide +kernel
theorem hy_t23_0 : ty_tt 23 0 = (0, 0, 0, (-1000), 1000) := by decide +kernel
theorem hy_t197_0 : ty_tt 197 0 = (1, 0, 0, (-9223372036854775808), 9223372036854775807) := by decide +kernel
theorem hy_t181_25 : ty_tt 181 25 = (2, 192, 0, 0, 0) := by decide +kernel
theorem hy_t192_0 : ty_tt 192 0 = (0, 0, 0, (-1000), 1000) := by decide +kernel
section LPP
variable {l : Launch} {h : ax_H} {x y : Int32}
theorem AR.csx {d i pc ix a b dy mc ms bc bs : Nat} {P : ax_P} {X : ax_PX} {lv : List (Nat × Value)} {st as rest : List Value} {v : Value} {ws : List Nat} {Q : ax_Q} (hl : ax_look i pc = some (.invokestatic ix, (a, b, 0), v, ws)) (hm : ax_has a = true ∧ ax_st a = true) (hst : st = as.reverse ++ rest) (hb : as.length = b) (hcat : (rest.map fun v => v.category).sum ≤ 8) (hM : AM ax_ns l (ax_mm a) dy ty_R mc ms as h Q) (hdy : dy + 1 ≤ d) (hmc : mc ≤ bc) (hms : ms ≤ bs)
    (k : ∀ x h', Q (.inl x) h' → AR ax_ns l (ax_mm i) d ty_R P X (pc + 3) lv (x.toList ++ rest) h' (bc - mc) (bs - ms)) (kx : ∀ E h', Q (.inr E) h' → AX ax_ns l (ax_mm i) d ty_R P X pc lv E h' (bc - mc) (bs - ms)) : AR ax_ns l (ax_mm i) d ty_R P X pc lv st h bc bs := by
  have e : as.reverse.length = b := by rw [List.length_reverse]; exact hb
  refine AR.call hl (as := as) (rest := rest) ?_ hM hdy hmc hms k kx
  subst hst
  have d1 : (as.reverse ++ rest).drop b = rest := List.drop_left' e
  have d2 : ((as.reverse ++ rest).take b).reverse = as := by rw [List.take_left' e, List.reverse_reverse]
  have hc : ax_has a = true ∧ ax_st a = true ∧ b ≤ (as.reverse ++ rest).length ∧ (rest.map fun v => v.category).sum ≤ 8 := ⟨hm.1, hm.2, by rw [List.length_append]; omega, hcat⟩
  simp only [ax_arg, d1, d2]
  rw [if_pos hc]
theorem hy_I.push (hH : hy_H 0 h) (hi : hy_I h) (gs : ax_H) : hy_I (h ++ gs) := by
  obtain ⟨e, q, he, q0, q1, k, bs, ml, n, B, hL, hn⟩ := hb_S.of hH hi.2.2.2.2
  have g9 : ∀ (p : Nat) c, h[p]? = some c → (h ++ gs)[p]? = some c := fun p c ec => by rw [List.getElem?_append_left (List.getElem?_eq_some_iff.mp ec).1]; exact ec
  exact (hb_fr.pu h gs).fI hH (e := e) (q := q) ⟨he, q0, q1, k, bs, ml, n, ⟨g9 _ _ B.1, g9 _ _ B.2.1, B.2.2⟩, hL, hn⟩ hi
/-- a store to what hy_I doesn't hang on -/
theorem hy_I.st {g : ax_H} {q : Nat} {v : Value} {j W : Nat} (hi : hy_I h) (F : ty_F W h g) (h31 : W.testBit 31 = false) (E : ∀ q' j', ty_fd g q' j' = if q' = q ∧ j' = j then some v else ty_fd h q' j') (hk : ty_IK.testBit (ty_ky q j) = false) : hy_I g := by
  refine hy_Ik h g (fun q' j' h1 h2 h3 => ?_) (F.2.2.2 h31) hi
  rw [E]
  rw [if_neg]
  rintro ⟨rfl, rfl⟩
  rw [hk] at h3
  cases h3
def lp_v (x : Int32) : Prop := 0 ≤ x.toInt ∧ x.toInt < 12
def lp_c (y : Int32) : Prop := -1000 ≤ y.toInt ∧ y.toInt ≤ 1000
def hq_113 (h : ax_H) (x : Int32) : ax_Q := fun res g => (res = .inl none ∧ g = h ∧ lp_v x) ∨ (res = .inr "java/lang/IndexOutOfBoundsException" ∧ ¬ lp_v x ∧ g = h ++ [(99, [])])
theorem lp_113 (hlst : l.stackTraces = false)  : AM ax_ns l (ax_mm 113) 0 ty_R (1) (6) [.int x] h (hq_113 h x) := by
  refine AM.of (ax_mfacts (by decide +kernel : ax_has 113 = true)).2.2.2.2.2.2 hlst (by rw [hn_113]; exact Nat.le_of_ble_eq_true rfl) ?_
  show AR ax_ns l (ax_mm 113) 0 ty_R _ _ 0 [(0, .int x)] [] h (1) (6)
  refine AR.s (pc' := 1) (lv' := [(0, .int x)]) (st' := [.int x]) (h' := h) _ hn_113 hk_113_0 rfl ?_
  refine AR.zlt hk_113_1 (tgt := 10) (by decide) (fun p1 => ?_) (fun p2 => ?_)
  · exact AR.at (Or.inr (Or.inr (Or.inr (Or.inr (Or.inr ⟨_, ax_thr_ok (113, 10, 2) (by decide), by decide +kernel, by decide, by decide, by decide, Or.inr ⟨rfl, fun c => absurd c.1 (by omega), rfl⟩⟩)))))
  · refine AR.s (pc' := 5) (lv' := [(0, .int x)]) (st' := [.int x]) (h' := h) _ hn_113 hk_113_4 rfl ?_
    refine AR.bipushT hk_113_5 (by decide) (fun z139 ez139 => ?_)
    show AR _ _ _ _ _ _ _ 7 [(0, .int x)] [.int z139, .int x] h _ _
    refine AR.jlt hk_113_7 (tgt := 21) (by decide) (fun p3 => ?_) (fun p4 => ?_)
    · exact AR.vret hk_113_21 hr_113 (Or.inl ⟨rfl, rfl, by omega, by omega⟩)
    · exact AR.at (Or.inr (Or.inr (Or.inr (Or.inr (Or.inr ⟨_, ax_thr_ok (113, 10, 2) (by decide), by decide +kernel, by decide, by decide, by decide, Or.inr ⟨rfl, fun c => absurd c.2 (by omega), rfl⟩⟩)))))
def hq_sc (h : ax_H) (x y : Int32) : ax_Q := fun res g => hy_H 0 g ∧ ty_F 576460752303423488 h g ∧ hy_I g ∧ ((res = .inr "java/lang/IndexOutOfBoundsException" ∧ ¬ lp_v x ∧ ∀ j, hy_z g 23 j = hy_z h 23 j) ∨ (res = .inr "java/lang/IllegalArgumentException" ∧ lp_v x ∧ ¬ lp_c y ∧ ∀ j, hy_z g 23 j = hy_z h 23 j) ∨ (lp_v x ∧ lp_c y ∧ (∃ z : Int32, res = .inl (some (.int z)) ∧ z.toInt = hy_z h 23 x.toInt.toNat) ∧ ∀ j, hy_z g 23 j = if j = x.toInt.toNat then y.toInt else hy_z h 23 j))
theorem hc_j {g : ax_H} {q k : Nat} {y : Int32} (E : ∀ q' j', ty_fd g q' j' = if q' = q ∧ j' = k then some (.int y) else ty_fd h q' j') (j : Nat) : hy_z g q j = if j = k then y.toInt else hy_z h q j := by
  by_cases e : j = k
  · rw [if_pos e, hy_zi (i := y) (by rw [E, if_pos ⟨rfl, e⟩])]
  · rw [if_neg e]
    exact hy_ze (by rw [E, if_neg (fun c => e c.2)])
theorem lp_103 (hlst : l.stackTraces = false) (hH : hy_H 0 h) (hi : hy_I h) : AM ax_ns l (ax_mm 103) 1 ty_R (2) (12) [.ref 0, .int x, .int y] h (hq_sc h x y) := by
  refine AM.of (ax_mfacts (by decide +kernel : ax_has 103 = true)).2.2.2.2.2.2 hlst (by rw [hn_103]; exact Nat.le_of_ble_eq_true rfl) ?_
  show AR ax_ns l (ax_mm 103) 1 ty_R _ _ 0 [(0, .ref 0), (1, .int x), (2, .int y)] [] h (2) (12)
  have F : ty_F 576460752303423488 h h := ty_F_refl _ _
  refine AR.s (pc' := 1) (lv' := [(0, .ref 0), (1, .int x), (2, .int y)]) (st' := [.int x]) (h' := h) _ hn_103 hk_103_0 rfl ?_
  refine AR.csx (as := [.int x]) (rest := []) hk_103_1 (by decide +kernel) rfl rfl (Nat.le_of_ble_eq_true rfl) (lp_113 hlst) (by decide) (by decide) (by decide) ?_ ?_
  · rintro w h1 (⟨e, eh, hv⟩ | ⟨e, -⟩)
    · cases e
      obtain rfl := eh.symm
      have v0 := hv.1
      have v1 := hv.2
      show AR _ _ _ _ _ _ _ 4 [(0, .ref 0), (1, .int x), (2, .int y)] [] h _ _
      refine AR.s (pc' := 5) (lv' := [(0, .ref 0), (1, .int x), (2, .int y)]) (st' := [.int y]) (h' := h) _ hn_103 hk_103_4 rfl ?_
      refine AR.sipushT hk_103_5 (by decide) (fun z140 ez140 => ?_)
      show AR _ _ _ _ _ _ _ 8 [(0, .ref 0), (1, .int x), (2, .int y)] [.int z140, .int y] h _ _
      refine AR.jlt hk_103_8 (tgt := 18) (by decide) (fun p1 => ?_) (fun p2 => ?_)
      · exact AR.at (Or.inr (Or.inr (Or.inr (Or.inr (Or.inr ⟨_, ax_thr_ok (103, 18, 1) (by decide), by decide +kernel, by decide, by decide, by decide, ⟨hy_app hH _, ty_F.push hH.1, hi.push hH _, Or.inr (Or.inl ⟨rfl, hv, fun c => absurd c.1 (by omega), fun j => hy_zapp hH _ (by decide) j⟩)⟩⟩)))))
      · refine AR.s (pc' := 12) (lv' := [(0, .ref 0), (1, .int x), (2, .int y)]) (st' := [.int y]) (h' := h) _ hn_103 hk_103_11 rfl ?_
        refine AR.sipushT hk_103_12 (by decide) (fun z141 ez141 => ?_)
        show AR _ _ _ _ _ _ _ 15 [(0, .ref 0), (1, .int x), (2, .int y)] [.int z141, .int y] h _ _
        refine AR.jle hk_103_15 (tgt := 29) (by decide) (fun p3 => ?_) (fun p4 => ?_)
        · refine AR.s (pc' := 30) (lv' := [(0, .ref 0), (1, .int x), (2, .int y)]) (st' := [.ref 0]) (h' := h) _ hn_103 hk_103_29 rfl ?_
          refine AR.gR hk_103_30 (by decide) hH (q := 0) (n := 18) (by decide) (by decide +kernel) (by decide +kernel) (by decide) hy_t0_13 ?_
          show AR _ _ _ _ _ _ _ 33 [(0, .ref 0), (1, .int x), (2, .int y)] [.ref 23] h _ _
          refine AR.s (pc' := 34) (lv' := [(0, .ref 0), (1, .int x), (2, .int y)]) (st' := [.int x, .ref 23]) (h' := h) _ hn_103 hk_103_33 rfl ?_
          refine AR.iaI hk_103_34 hH (q := 23) (n := 12) (by decide) (by decide +kernel) (by decide +kernel) (by decide +kernel) hy_t23_0 (by omega) (by omega) (fun x142 dx142 lx142 ux142 => ?_)
          show AR _ _ _ _ _ _ _ 35 [(0, .ref 0), (1, .int x), (2, .int y)] [.int x142] h _ _
          refine AR.s (pc' := 36) (lv' := [(3, .int x142), (0, .ref 0), (1, .int x), (2, .int y)]) (st' := []) (h' := h) _ hn_103 hk_103_35 rfl ?_
          refine AR.s (pc' := 37) (lv' := [(3, .int x142), (0, .ref 0), (1, .int x), (2, .int y)]) (st' := [.ref 0]) (h' := h) _ hn_103 hk_103_36 rfl ?_
          refine AR.gR hk_103_37 (by decide) hH (q := 0) (n := 18) (by decide) (by decide +kernel) (by decide +kernel) (by decide) hy_t0_13 ?_
          show AR _ _ _ _ _ _ _ 40 [(3, .int x142), (0, .ref 0), (1, .int x), (2, .int y)] [.ref 23] h _ _
          refine AR.s (pc' := 41) (lv' := [(3, .int x142), (0, .ref 0), (1, .int x), (2, .int y)]) (st' := [.int x, .ref 23]) (h' := h) _ hn_103 hk_103_40 rfl ?_
          refine AR.s (pc' := 42) (lv' := [(3, .int x142), (0, .ref 0), (1, .int x), (2, .int y)]) (st' := [.int y, .int x, .ref 23]) (h' := h) _ hn_103 hk_103_41 rfl ?_
          refine AR.isT hk_103_42 hH F (q := 23) (n := 12) (by decide) (by decide +kernel) (by decide +kernel) (by decide +kernel) hy_t23_0 (by omega) (by omega) (by omega) (by omega) (by decide +kernel) ?_
          rintro g143 ⟨Hg143, Fg143, Gg143, Eg143⟩
          show AR _ _ _ _ _ _ _ 43 [(3, .int x142), (0, .ref 0), (1, .int x), (2, .int y)] [] g143 _ _
          refine AR.s (pc' := 44) (lv' := [(3, .int x142), (0, .ref 0), (1, .int x), (2, .int y)]) (st' := [.int x142]) (h' := g143) _ hn_103 hk_103_43 rfl ?_
          have xk : x.toNatClampNeg = x.toInt.toNat := rfl
          rw [xk] at dx142 Eg143
          exact AR.iret hk_103_44 hr_103 ⟨Hg143, Fg143, hi.st Gg143 (by decide) Eg143 (by unfold ty_ky; rw [show ty_ar 23 = true from by decide +kernel]; show ty_IK.testBit ((ty_tab 23).2.2.1 - 1 + 0) = false; decide +kernel), Or.inr (Or.inr ⟨hv, ⟨by omega, by omega⟩, ⟨_, rfl, (hy_zi dx142).symm⟩, fun j => hc_j Eg143 j⟩)⟩
        · exact AR.at (Or.inr (Or.inr (Or.inr (Or.inr (Or.inr ⟨_, ax_thr_ok (103, 18, 1) (by decide), by decide +kernel, by decide, by decide, by decide, ⟨hy_app hH _, ty_F.push hH.1, hi.push hH _, Or.inr (Or.inl ⟨rfl, hv, fun c => absurd c.2 (by omega), fun j => hy_zapp hH _ (by decide) j⟩)⟩⟩)))))
    · cases e
  · rintro E h1 (⟨e, -⟩ | ⟨e, nv, rfl⟩)
    · cases e
    · cases e
      exact AX.out ⟨by decide +kernel, hy_app hH _, ty_F.push hH.1, hi.push hH _, Or.inl ⟨rfl, nv, fun j => hy_zapp hH _ (by decide) j⟩⟩
def hq_w35 (h : ax_H) (x y : Int32) : ax_Q := fun res g => hy_H 0 g ∧ ty_F 1298074214633707483593376385728512 h g ∧ hy_I g ∧ ∃ z : Int32, res = .inl (some (.int z)) ∧ ((¬ lp_v x ∧ z.toInt = 1 ∧ ∀ j, hy_z g 23 j = hy_z h 23 j) ∨ (lp_v x ∧ ¬ lp_c y ∧ z.toInt = 2 ∧ ∀ j, hy_z g 23 j = hy_z h 23 j) ∨ (lp_v x ∧ lp_c y ∧ z.toInt = 0 ∧ hy_z g 197 0 = hy_z h 23 x.toInt.toNat ∧ ∀ j, hy_z g 23 j = if j = x.toInt.toNat then y.toInt else hy_z h 23 j))
theorem lp_cell (hH : hy_H 0 h) : ∃ vs, h[0]? = some (8, vs) := by
  obtain ⟨vs, e1, -⟩ := hy_cell hH (q := 0) (by decide)
  rw [show (ty_tab 0).1 = 8 from by decide +kernel] at e1
  exact ⟨vs, e1⟩
theorem lp_246 (hlst : l.stackTraces = false) (hH : hy_H 0 h) (hi : hy_I h) : AM ax_ns l (ax_mm 246) 2 ty_R (2) (12) [.ref 0, .int x, .int y, .ref 197] h (hq_w35 h x y) := by
  refine AM.of (ax_mfacts (by decide +kernel : ax_has 246 = true)).2.2.2.2.2.2 hlst (by rw [hn_246]; exact Nat.le_of_ble_eq_true rfl) ?_
  show AR ax_ns l (ax_mm 246) 2 ty_R _ _ 0 [(0, .ref 0), (1, .int x), (2, .int y), (3, .ref 197)] [] h (2) (12)
  obtain ⟨v0, e0⟩ := lp_cell hH
  refine AR.s (pc' := 1) (lv' := [(0, .ref 0), (1, .int x), (2, .int y), (3, .ref 197)]) (st' := [.ref 197]) (h' := h) _ hn_246 hk_246_0 rfl ?_
  refine AR.iconstT hk_246_1 (by decide) (fun z144 ez144 => ?_)
  show AR _ _ _ _ _ _ _ 2 [(0, .ref 0), (1, .int x), (2, .int y), (3, .ref 197)] [.int z144, .ref 197] h _ _
  refine AR.s (pc' := 3) (lv' := [(0, .ref 0), (1, .int x), (2, .int y), (3, .ref 197)]) (st' := [.ref 0, .int z144, .ref 197]) (h' := h) _ hn_246 hk_246_2 rfl ?_
  refine AR.s (pc' := 4) (lv' := [(0, .ref 0), (1, .int x), (2, .int y), (3, .ref 197)]) (st' := [.int x, .ref 0, .int z144, .ref 197]) (h' := h) _ hn_246 hk_246_3 rfl ?_
  refine AR.s (pc' := 5) (lv' := [(0, .ref 0), (1, .int x), (2, .int y), (3, .ref 197)]) (st' := [.int y, .int x, .ref 0, .int z144, .ref 197]) (h' := h) _ hn_246 hk_246_4 rfl ?_
  refine AR.jr (r := 0) (as := [.int x, .int y]) (rest := [.int z144, .ref 197]) hk_246_5 (by decide) (by decide +kernel) (by decide) e0 rfl rfl (Nat.le_of_ble_eq_true rfl) (lp_103 hlst hH hi) (by decide) (by decide) (by decide) ?_ ?_
  · rintro w h1 ⟨H1, F1, i1, (⟨e, -⟩ | ⟨e, -⟩ | ⟨hv, hc, ⟨z7, ex, ez⟩, A⟩)⟩
    · cases e
    · cases e
    · cases ex
      show AR _ _ _ _ _ _ _ 8 [(0, .ref 0), (1, .int x), (2, .int y), (3, .ref 197)] [.int z7, .int z144, .ref 197] h1 _ _
      refine AR.i2l (z := .long z7.toInt64) (ax_look_ok hk_246_8).1 rfl ?_
      show AR _ _ _ _ _ _ _ 9 [(0, .ref 0), (1, .int x), (2, .int y), (3, .ref 197)] [.long z7.toInt64, .int z144, .ref 197] h1 _ _
      refine AR.lsT hk_246_9 H1 (ty_F.sub (W := 1298074214633707483593376385728512) (by decide +kernel) F1) (q := 197) (n := 1) (by decide) (by decide +kernel) (by decide +kernel) (by decide +kernel) hy_t197_0 (by omega) (by omega) (Int64.le_toInt _) (by have := Int64.toInt_lt z7.toInt64; omega) (by decide +kernel) ?_
      rintro g ⟨Hg, Fg, Gg, Eg⟩
      show AR _ _ _ _ _ _ _ 10 [(0, .ref 0), (1, .int x), (2, .int y), (3, .ref 197)] [] g _ _
      refine AR.gotoT hk_246_10 (tgt := 21) (by decide) ?_
      refine AR.iconstT hk_246_21 (by decide) (fun z145 ez145 => ?_)
      show AR _ _ _ _ _ _ _ 22 [(0, .ref 0), (1, .int x), (2, .int y), (3, .ref 197)] [.int z145] g _ _
      have k0 : z144.toNatClampNeg = 0 := by show z144.toInt.toNat = 0; omega
      rw [k0] at Eg
      have a1 : hy_z g 197 0 = z7.toInt := by rw [hy_zl (i := z7.toInt64) (by rw [Eg, if_pos ⟨rfl, rfl⟩]), Int32.toInt_toInt64]
      have a2 : ∀ j, hy_z g 23 j = hy_z h1 23 j := fun j => hy_ze (by rw [Eg, if_neg (fun c => absurd c.1 (by decide))])
      exact AR.iret hk_246_22 hr_246 ⟨Hg, Fg, i1.st Gg (by decide +kernel) Eg (by decide +kernel), _, rfl, Or.inr (Or.inr ⟨hv, hc, by omega, by omega, fun j => by rw [a2, A]⟩)⟩
  · rintro E h1 ⟨H1, F1, i1, (⟨e, nv, A⟩ | ⟨e, hv, nc, A⟩ | ⟨-, -, ⟨_, e, -⟩, -⟩)⟩
    · cases e
      refine AX.caught (pre := []) (suf := [(0, 10, 17, 19)]) (s0 := 0) (e0 := 10) (hpc := 13) (ct := 32) (by decide +kernel) (by decide) (by decide) (by decide) (ax_wk_mem (ix := 3164) (by decide +kernel)) (by decide +kernel) (fun z hz => absurd hz List.not_mem_nil) ?_
      show AR _ _ _ _ _ _ _ 13 [(0, .ref 0), (1, .int x), (2, .int y), (3, .ref 197)] [.retAddr 0] h1 _ _
      refine AR.s (pc' := 15) (lv' := [(4, .retAddr 0), (0, .ref 0), (1, .int x), (2, .int y), (3, .ref 197)]) (st' := []) (h' := h1) _ hn_246 hk_246_13 rfl ?_
      refine AR.iconstT hk_246_15 (by decide) (fun z146 ez146 => ?_)
      show AR _ _ _ _ _ _ _ 16 [(4, .retAddr 0), (0, .ref 0), (1, .int x), (2, .int y), (3, .ref 197)] [.int z146] h1 _ _
      exact AR.iret hk_246_16 hr_246 ⟨H1, ty_F.sub (by decide +kernel) F1, i1, _, rfl, Or.inl ⟨nv, by omega, A⟩⟩
    · cases e
      refine AX.caught (pre := [(0, 10, 13, 32)]) (suf := []) (s0 := 0) (e0 := 10) (hpc := 17) (ct := 19) (by decide +kernel) (by decide) (by decide) (by decide) (ax_wk_mem (ix := 2203) (by decide +kernel)) (by decide +kernel) (fun z hz => by cases List.mem_singleton.mp hz; exact ⟨by decide, "java/lang/IndexOutOfBoundsException", ax_wk_mem (ix := 3164) (by decide +kernel), by decide +kernel⟩) ?_
      show AR _ _ _ _ _ _ _ 17 [(0, .ref 0), (1, .int x), (2, .int y), (3, .ref 197)] [.retAddr 0] h1 _ _
      refine AR.s (pc' := 19) (lv' := [(4, .retAddr 0), (0, .ref 0), (1, .int x), (2, .int y), (3, .ref 197)]) (st' := []) (h' := h1) _ hn_246 hk_246_17 rfl ?_
      refine AR.iconstT hk_246_19 (by decide) (fun z147 ez147 => ?_)
      show AR _ _ _ _ _ _ _ 20 [(4, .retAddr 0), (0, .ref 0), (1, .int x), (2, .int y), (3, .ref 197)] [.int z147] h1 _ _
      exact AR.iret hk_246_20 hr_246 ⟨H1, ty_F.sub (by decide +kernel) F1, i1, _, rfl, Or.inr (Or.inl ⟨hv, nc, by omega, A⟩)⟩
    · cases e
theorem lp_134 (hlst : l.stackTraces = false)  : AM ax_ns l (ax_mm 134) 0 ty_R (0) (0) [.int x] h (fun res g => g = h ∧ ∃ z : Int32, res = .inl (some (.int z)) ∧ ((z.toInt = 1 ∧ lp_v x) ∨ (z.toInt = 0 ∧ ¬ lp_v x))) := by
  refine AM.of (ax_mfacts (by decide +kernel : ax_has 134 = true)).2.2.2.2.2.2 hlst (by rw [hn_134]; exact Nat.le_of_ble_eq_true rfl) ?_
  show AR ax_ns l (ax_mm 134) 0 ty_R _ _ 0 [(0, .int x)] [] h (0) (0)
  refine AR.s (pc' := 1) (lv' := [(0, .int x)]) (st' := [.int x]) (h' := h) _ hn_134 hk_134_0 rfl ?_
  refine AR.zlt hk_134_1 (tgt := 14) (by decide) (fun p1 => ?_) (fun p2 => ?_)
  · refine AR.iconstT hk_134_14 (by decide) (fun z148 ez148 => ?_)
    show AR _ _ _ _ _ _ _ 15 [(0, .int x)] [.int z148] h _ _
    exact AR.zret hk_134_15 hr_134 (Or.inl (by omega)) ⟨rfl, _, rfl, Or.inr ⟨by omega, fun c => absurd c.1 (by omega)⟩⟩
  · refine AR.s (pc' := 5) (lv' := [(0, .int x)]) (st' := [.int x]) (h' := h) _ hn_134 hk_134_4 rfl ?_
    refine AR.bipushT hk_134_5 (by decide) (fun z149 ez149 => ?_)
    show AR _ _ _ _ _ _ _ 7 [(0, .int x)] [.int z149, .int x] h _ _
    refine AR.jge hk_134_7 (tgt := 14) (by decide) (fun p3 => ?_) (fun p4 => ?_)
    · refine AR.iconstT hk_134_14 (by decide) (fun z150 ez150 => ?_)
      show AR _ _ _ _ _ _ _ 15 [(0, .int x)] [.int z150] h _ _
      exact AR.zret hk_134_15 hr_134 (Or.inl (by omega)) ⟨rfl, _, rfl, Or.inr ⟨by omega, fun c => absurd c.2 (by omega)⟩⟩
    · refine AR.iconstT hk_134_10 (by decide) (fun z151 ez151 => ?_)
      show AR _ _ _ _ _ _ _ 11 [(0, .int x)] [.int z151] h _ _
      refine AR.gotoT hk_134_11 (tgt := 15) (by decide) ?_
      exact AR.zret hk_134_15 hr_134 (Or.inr (by omega)) ⟨rfl, _, rfl, Or.inl ⟨by omega, by omega, by omega⟩⟩
def hq_r35 (h : ax_H) (x y : Int32) : ax_Q := fun res g => hy_H 0 g ∧ ty_F 40564819207312564219931357347840 h g ∧ hy_I g ∧ ∃ z : Int32, res = .inl (some (.int z)) ∧ ((¬ lp_v x ∧ hy_z g 181 0 = 1 ∧ ∀ j, hy_z g 192 j = hy_z h 192 j) ∨ (lp_v x ∧ ¬ lp_c y ∧ hy_z g 181 0 = 2 ∧ ∀ j, hy_z g 192 j = hy_z h 192 j) ∨ (lp_v x ∧ lp_c y ∧ hy_z g 181 0 = 0 ∧ z.toInt = hy_z h 192 x.toInt.toNat ∧ ∀ j, hy_z g 192 j = if j = x.toInt.toNat then y.toInt else hy_z h 192 j))
theorem lp_no {g g' : ax_H} {W : Nat} {n : Int} {res : Option Value ⊕ String} (q : hq_no 0 g n res g') (hi : hy_I g) (F : ty_F 40564819207312564219931357347840 h g) : hy_I g' ∧ ty_F 40564819207312564219931357347840 h g' ∧ ∀ j, hy_z g' 192 j = hy_z g 192 j := by
  obtain ⟨H, F0, e, -⟩ := q
  refine ⟨?_, ty_F.trans F (ty_F.sub (by decide +kernel) F0), fun j => hy_zA F0 (by decide +kernel) (by decide) (by decide +kernel) (by decide +kernel) j⟩
  refine hy_Ik g g' (fun q' j' h1 h2 h3 => F0.2.1 q' j' h1 h2 ?_) (F0.2.2.2 (by decide)) hi
  cases e : hy_W0.testBit (ty_ky q' j') with
  | false => rfl
  | true =>
    have : ty_ky q' j' = 63 := by
      rw [Nat.testBit_two_pow] at e
      exact (of_decide_eq_true e).symm
    rw [this] at h3
    exact absurd h3 (by decide +kernel)
theorem lp_208 (hlst : l.stackTraces = false) (hH : hy_H 0 h) (hi : hy_I h) : AM ax_ns l (ax_mm 208) 1 ty_R (0) (0) [.ref 181, .int x, .int y] h (hq_r35 h x y) := by
  refine AM.of (ax_mfacts (by decide +kernel : ax_has 208 = true)).2.2.2.2.2.2 hlst (by rw [hn_208]; exact Nat.le_of_ble_eq_true rfl) ?_
  show AR ax_ns l (ax_mm 208) 1 ty_R _ _ 0 [(0, .ref 181), (1, .int x), (2, .int y)] [] h (0) (0)
  have F : ty_F 40564819207312564219931357347840 h h := ty_F_refl _ _
  refine AR.s (pc' := 1) (lv' := [(0, .ref 181), (1, .int x), (2, .int y)]) (st' := [.ref 181]) (h' := h) _ hn_208 hk_208_0 rfl ?_
  refine AR.iconstT hk_208_1 (by decide) (fun z152 ez152 => ?_)
  show AR _ _ _ _ _ _ _ 2 [(0, .ref 181), (1, .int x), (2, .int y)] [.int z152, .ref 181] h _ _
  refine AR.pT hk_208_2 (by decide) hH F (q := 181) (by decide) (by decide +kernel) (show ax_cls[9]? = some hy_c9 from rfl) (by decide +kernel) (by decide) rfl (by rw [hy_t181_0]; exact ⟨_, rfl, by omega, by omega, Or.inl rfl⟩) (by decide +kernel) (by decide +kernel) ?_
  rintro g153 ⟨Hg153, Fg153, Gg153, Eg153⟩
  show AR _ _ _ _ _ _ _ 5 [(0, .ref 181), (1, .int x), (2, .int y)] [] g153 _ _
  refine AR.s (pc' := 6) (lv' := [(0, .ref 181), (1, .int x), (2, .int y)]) (st' := [.int x]) (h' := g153) _ hn_208 hk_208_5 rfl ?_
  have i0 : hy_I g153 := hi.st Gg153 (by decide) Eg153 (by decide +kernel)
  have c0 : ∀ j, hy_z g153 192 j = hy_z h 192 j := fun j => hy_ze (by rw [Eg153, if_neg (fun c => absurd c.1 (by decide))])
  have t0 : hy_z g153 181 0 = 0 := by rw [hy_zi (i := z152) (by rw [Eg153, if_pos ⟨rfl, rfl⟩])]; omega
  refine AR.cs (as := [.int x]) (rest := []) hk_208_6 (by decide +kernel) rfl rfl (Nat.le_of_ble_eq_true rfl) (lp_134 hlst) (by decide) (Nat.le_refl _) (Nat.le_refl _) (fun E h' q => by obtain ⟨-, z, e, -⟩ := q; cases e) ?_
  rintro w h1 ⟨eh, z7, ex, A7⟩
  cases ex
  obtain rfl := eh.symm
  show AR _ _ _ _ _ _ _ 9 [(0, .ref 181), (1, .int x), (2, .int y)] [.int z7] g153 _ _
  refine AR.zne hk_208_9 (tgt := 18) (by decide) (fun p1 => ?_) (fun p2 => ?_)
  · have hv : lp_v x := by rcases A7 with ⟨-, e⟩ | ⟨e, -⟩; exact e; exact absurd e (by omega)
    have v0 := hv.1
    have v1 := hv.2
    refine AR.s (pc' := 19) (lv' := [(0, .ref 181), (1, .int x), (2, .int y)]) (st' := [.int y]) (h' := g153) _ hn_208 hk_208_18 rfl ?_
    refine AR.sipushT hk_208_19 (by decide) (fun z155 ez155 => ?_)
    show AR _ _ _ _ _ _ _ 22 [(0, .ref 181), (1, .int x), (2, .int y)] [.int z155, .int y] g153 _ _
    refine AR.jlt hk_208_22 (tgt := 32) (by decide) (fun p3 => ?_) (fun p4 => ?_)
    · refine AR.s (pc' := 33) (lv' := [(0, .ref 181), (1, .int x), (2, .int y)]) (st' := [.ref 181]) (h' := g153) _ hn_208 hk_208_32 rfl ?_
      refine AR.iconstT hk_208_33 (by decide) (fun z156 ez156 => ?_)
      show AR _ _ _ _ _ _ _ 34 [(0, .ref 181), (1, .int x), (2, .int y)] [.int z156, .ref 181] g153 _ _
      refine AR.c9 (as := [.int z156]) (rest := []) hk_208_34 Hg153 (by decide +kernel) rfl rfl (Nat.le_of_ble_eq_true rfl) (hf_no hlst Hg153 z156) (by decide) (Nat.le_refl _) (Nat.le_refl _) (fun E h' q => by obtain ⟨-, -, -, z, e, -⟩ := q; cases e) ?_
      rintro w g9 q9
      obtain ⟨i9, F9, c9⟩ := lp_no (W := 0) q9 i0 Fg153
      obtain ⟨H9, -, t9, z9, e9, -⟩ := q9
      cases e9
      show AR _ _ _ _ _ _ _ 37 [(0, .ref 181), (1, .int x), (2, .int y)] [.int z9] g9 _ _
      exact AR.iret hk_208_37 hr_208 ⟨H9, F9, i9, _, rfl, Or.inr (Or.inl ⟨hv, fun c => absurd c.1 (by omega), by omega, fun j => by rw [c9, c0]⟩)⟩
    · refine AR.s (pc' := 26) (lv' := [(0, .ref 181), (1, .int x), (2, .int y)]) (st' := [.int y]) (h' := g153) _ hn_208 hk_208_25 rfl ?_
      refine AR.sipushT hk_208_26 (by decide) (fun z157 ez157 => ?_)
      show AR _ _ _ _ _ _ _ 29 [(0, .ref 181), (1, .int x), (2, .int y)] [.int z157, .int y] g153 _ _
      refine AR.jle hk_208_29 (tgt := 38) (by decide) (fun p5 => ?_) (fun p6 => ?_)
      · refine AR.s (pc' := 39) (lv' := [(0, .ref 181), (1, .int x), (2, .int y)]) (st' := [.ref 181]) (h' := g153) _ hn_208 hk_208_38 rfl ?_
        refine AR.gR hk_208_39 (by decide) Hg153 (q := 181) (n := 32) (by decide) (by decide +kernel) (by decide +kernel) (by decide) hy_t181_25 ?_
        show AR _ _ _ _ _ _ _ 42 [(0, .ref 181), (1, .int x), (2, .int y)] [.ref 192] g153 _ _
        refine AR.s (pc' := 43) (lv' := [(0, .ref 181), (1, .int x), (2, .int y)]) (st' := [.int x, .ref 192]) (h' := g153) _ hn_208 hk_208_42 rfl ?_
        refine AR.iaI hk_208_43 Hg153 (q := 192) (n := 12) (by decide) (by decide +kernel) (by decide +kernel) (by decide +kernel) hy_t192_0 (by omega) (by omega) (fun x159 dx159 lx159 ux159 => ?_)
        show AR _ _ _ _ _ _ _ 44 [(0, .ref 181), (1, .int x), (2, .int y)] [.int x159] g153 _ _
        refine AR.s (pc' := 45) (lv' := [(3, .int x159), (0, .ref 181), (1, .int x), (2, .int y)]) (st' := []) (h' := g153) _ hn_208 hk_208_44 rfl ?_
        refine AR.s (pc' := 46) (lv' := [(3, .int x159), (0, .ref 181), (1, .int x), (2, .int y)]) (st' := [.ref 181]) (h' := g153) _ hn_208 hk_208_45 rfl ?_
        refine AR.gR hk_208_46 (by decide) Hg153 (q := 181) (n := 32) (by decide) (by decide +kernel) (by decide +kernel) (by decide) hy_t181_25 ?_
        show AR _ _ _ _ _ _ _ 49 [(3, .int x159), (0, .ref 181), (1, .int x), (2, .int y)] [.ref 192] g153 _ _
        refine AR.s (pc' := 50) (lv' := [(3, .int x159), (0, .ref 181), (1, .int x), (2, .int y)]) (st' := [.int x, .ref 192]) (h' := g153) _ hn_208 hk_208_49 rfl ?_
        refine AR.s (pc' := 51) (lv' := [(3, .int x159), (0, .ref 181), (1, .int x), (2, .int y)]) (st' := [.int y, .int x, .ref 192]) (h' := g153) _ hn_208 hk_208_50 rfl ?_
        refine AR.isT hk_208_51 Hg153 Fg153 (q := 192) (n := 12) (by decide) (by decide +kernel) (by decide +kernel) (by decide +kernel) hy_t192_0 (by omega) (by omega) (by omega) (by omega) (by decide +kernel) ?_
        rintro g160 ⟨Hg160, Fg160, Gg160, Eg160⟩
        show AR _ _ _ _ _ _ _ 52 [(3, .int x159), (0, .ref 181), (1, .int x), (2, .int y)] [] g160 _ _
        refine AR.s (pc' := 53) (lv' := [(3, .int x159), (0, .ref 181), (1, .int x), (2, .int y)]) (st' := [.int x159]) (h' := g160) _ hn_208 hk_208_52 rfl ?_
        have xk : x.toNatClampNeg = x.toInt.toNat := rfl
        rw [xk] at dx159 Eg160
        have tt0 : hy_z g160 181 0 = hy_z g153 181 0 := hy_ze (by rw [Eg160, if_neg (fun c => absurd c.1 (by decide))])
        exact AR.iret hk_208_53 hr_208 ⟨Hg160, Fg160, i0.st Gg160 (by decide) Eg160 (by unfold ty_ky; rw [show ty_ar 192 = true from by decide +kernel]; show ty_IK.testBit ((ty_tab 192).2.2.1 - 1 + 0) = false; decide +kernel), _, rfl, Or.inr (Or.inr ⟨hv, ⟨by omega, by omega⟩, by omega, by rw [← c0]; exact (hy_zi dx159).symm, fun j => by rw [hc_j Eg160 j, c0]⟩)⟩
      · refine AR.s (pc' := 33) (lv' := [(0, .ref 181), (1, .int x), (2, .int y)]) (st' := [.ref 181]) (h' := g153) _ hn_208 hk_208_32 rfl ?_
        refine AR.iconstT hk_208_33 (by decide) (fun z158 ez158 => ?_)
        show AR _ _ _ _ _ _ _ 34 [(0, .ref 181), (1, .int x), (2, .int y)] [.int z158, .ref 181] g153 _ _
        refine AR.c9 (as := [.int z158]) (rest := []) hk_208_34 Hg153 (by decide +kernel) rfl rfl (Nat.le_of_ble_eq_true rfl) (hf_no hlst Hg153 z158) (by decide) (Nat.le_refl _) (Nat.le_refl _) (fun E h' q => by obtain ⟨-, -, -, z, e, -⟩ := q; cases e) ?_
        rintro w g9 q9
        obtain ⟨i9, F9, c9⟩ := lp_no (W := 0) q9 i0 Fg153
        obtain ⟨H9, -, t9, z9, e9, -⟩ := q9
        cases e9
        show AR _ _ _ _ _ _ _ 37 [(0, .ref 181), (1, .int x), (2, .int y)] [.int z9] g9 _ _
        exact AR.iret hk_208_37 hr_208 ⟨H9, F9, i9, _, rfl, Or.inr (Or.inl ⟨hv, fun c => absurd c.2 (by omega), by omega, fun j => by rw [c9, c0]⟩)⟩
  · have nv : ¬ lp_v x := by rcases A7 with ⟨e, -⟩ | ⟨-, e⟩; exact absurd e (by omega); exact e
    refine AR.s (pc' := 13) (lv' := [(0, .ref 181), (1, .int x), (2, .int y)]) (st' := [.ref 181]) (h' := g153) _ hn_208 hk_208_12 rfl ?_
    refine AR.iconstT hk_208_13 (by decide) (fun z154 ez154 => ?_)
    show AR _ _ _ _ _ _ _ 14 [(0, .ref 181), (1, .int x), (2, .int y)] [.int z154, .ref 181] g153 _ _
    refine AR.c9 (as := [.int z154]) (rest := []) hk_208_14 Hg153 (by decide +kernel) rfl rfl (Nat.le_of_ble_eq_true rfl) (hf_no hlst Hg153 z154) (by decide) (Nat.le_refl _) (Nat.le_refl _) (fun E h' q => by obtain ⟨-, -, -, z, e, -⟩ := q; cases e) ?_
    rintro w g9 q9
    obtain ⟨i9, F9, c9⟩ := lp_no (W := 0) q9 i0 Fg153
    obtain ⟨H9, -, t9, z9, e9, -⟩ := q9
    cases e9
    show AR _ _ _ _ _ _ _ 17 [(0, .ref 181), (1, .int x), (2, .int y)] [.int z9] g9 _ _
    exact AR.iret hk_208_17 hr_208 ⟨H9, F9, i9, _, rfl, Or.inl ⟨nv, by omega, fun j => by rw [c9, c0]⟩⟩
end LPP
