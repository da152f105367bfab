/-! p44, 1: tables of sums, bits -/
theorem hy_t12_0 : ty_tt 12 0 = (2, 13, 0, 0, 0) := by decide +kernel
theorem hy_t13_0 : ty_tt 13 0 = (1, 0, 0, (-9223372036854775808), 9223372036854775807) := by decide +kernel
theorem hy_t12_1 : ty_tt 12 1 = (2, 14, 0, 0, 0) := by decide +kernel
theorem hy_t14_0 : ty_tt 14 0 = (1, 0, 0, (-9223372036854775808), 9223372036854775807) := by decide +kernel
theorem hy_t147_0 : ty_tt 147 0 = (2, 148, 0, 0, 0) := by decide +kernel
theorem hy_t148_0 : ty_tt 148 0 = (1, 0, 0, (-9223372036854775808), 9223372036854775807) := by decide +kernel
theorem hy_t8_1 : ty_tt 8 1 = (1, 0, 0, (-9223372036854775808), 9223372036854775807) := by decide +kernel
theorem hy_t8_0 : ty_tt 8 0 = (2, 9, 0, 0, 0) := by decide +kernel
theorem hy_t9_0 : ty_tt 9 0 = (1, 0, 0, (-9223372036854775808), 9223372036854775807) := by decide +kernel
theorem hy_t0_14 : ty_tt 0 14 = (2, 24, 0, 0, 0) := by decide +kernel
theorem hy_t0_17 : ty_tt 0 17 = (0, 0, 0, 0, 8) := by decide +kernel
theorem hy_t15_1 : ty_tt 15 1 = (0, 0, 0, 0, 24) := by decide +kernel
theorem hy_t0_9 : ty_tt 0 9 = (2, 15, 0, 0, 0) := by decide +kernel
theorem hy_t18_0 : ty_tt 18 0 = (0, 0, 0, (-1), 1) := by decide +kernel
theorem hy_t17_0 : ty_tt 17 0 = (2, 18, 0, 0, 0) := by decide +kernel
theorem hy_t17_1 : ty_tt 17 1 = (0, 0, 0, 0, 1) := by decide +kernel
theorem hy_t0_10 : ty_tt 0 10 = (2, 17, 0, 0, 0) := by decide +kernel
theorem hy_t0_4 : ty_tt 0 4 = (2, 7, 0, 0, 0) := by decide +kernel
theorem hy_t0_6 : ty_tt 0 6 = (2, 8, 0, 0, 0) := by decide +kernel
theorem hy_t0_8 : ty_tt 0 8 = (2, 12, 0, 0, 0) := by decide +kernel
theorem hy_t3_6 : ty_tt 3 6 = (2, 4, 0, 0, 0) := by decide +kernel
theorem hy_t4_0 : ty_tt 4 0 = (0, 0, 0, (-2147483648), 2147483647) := by decide +kernel
theorem hy_t3_8 : ty_tt 3 8 = (0, 0, 0, (-2147483648), 2147483647) := by decide +kernel
theorem hy_t0_7 : ty_tt 0 7 = (2, 10, 0, 0, 0) := by decide +kernel
theorem hy_t10_1 : ty_tt 10 1 = (0, 0, 0, (-2147483648), 2147483647) := by decide +kernel
theorem hy_t21_1 : ty_tt 21 1 = (0, 0, 0, 0, 24) := by decide +kernel
theorem hy_t21_0 : ty_tt 21 0 = (2, 22, 0, 0, 0) := by decide +kernel
theorem hy_t22_0 : ty_tt 22 0 = (0, 0, 0, 0, 23) := by decide +kernel
theorem hy_t0_12 : ty_tt 0 12 = (2, 21, 0, 0, 0) := by decide +kernel
theorem hy_t1_1 : ty_tt 1 1 = (0, 0, 0, 0, 200) := by decide +kernel
theorem hy_t1_0 : ty_tt 1 0 = (2, 2, 0, 0, 0) := by decide +kernel
theorem hy_t2_0 : ty_tt 2 0 = (0, 0, 0, 0, 255) := by decide +kernel
theorem hy_t3_2 : ty_tt 3 2 = (0, 0, 0, 0, 9) := by decide +kernel
theorem hy_t3_1 : ty_tt 3 1 = (0, 0, 0, 0, 201) := by decide +kernel
theorem hy_t3_0 : ty_tt 3 0 = (2, 1, 0, 0, 0) := by decide +kernel
theorem hy_t3_4 : ty_tt 3 4 = (0, 0, 0, (-2147483648), 2147483647) := by decide +kernel
theorem hy_t0_5 : ty_tt 0 5 = (0, 0, 0, 0, 60) := by decide +kernel
section PF
variable {l : Launch} {h : ax_H} {x y : Int32}
abbrev hy_c1 : ax_Cl := (RX1, TX1, 3, tyX1)
abbrev hy_c2 : ax_Cl := (RX2, TX2, 2, tyX2)
abbrev hy_c8 : ax_Cl := (RX8, TX8, 18, tyX8)
section LP64
variable {i d pc : Nat} {P : ax_P} {X : ax_PX} {lv : List (Nat × Value)} {st : List Value} {bc bs : Nat} {v : Value} {ws : List Nat} {w : Nat × Nat × Nat}
theorem t_bm {x : Int} (h1 : -9223372036854775808 ≤ x) (h2 : x ≤ 9223372036854775807) : x.bmod (2 ^ 64) = x := Int.bmod_eq_of_le (by omega) (by omega)
theorem AR.ldc2T {ix b c : Nat} {y : Int64} (hl : ax_look i pc = some (.ldc2_w ix, (0, b, c), .long y, ws)) (k : ∀ z : Int64, z.toInt = y.toInt → AR ax_ns l (ax_mm i) d ty_R P X (pc + 3) lv (.long z :: st) h bc bs) : AR ax_ns l (ax_mm i) d ty_R P X pc lv st h bc bs := AR.s _ rfl hl rfl (k _ rfl)
theorem AR.laddT {x y : Int64} (hl : ax_look i pc = some (.ladd, w, v, ws)) (h1 : -9223372036854775808 ≤ x.toInt + y.toInt) (h2 : x.toInt + y.toInt ≤ 9223372036854775807) (k : ∀ z : Int64, z.toInt = x.toInt + y.toInt → AR ax_ns l (ax_mm i) d ty_R P X (pc + 1) lv (.long z :: st) h bc bs) : AR ax_ns l (ax_mm i) d ty_R P X pc lv (.long y :: .long x :: st) h bc bs :=
  AR.ladd (z := .long (x + y)) (ax_look_ok hl).1 rfl (k _ (by rw [Int64.toInt_add]; exact t_bm h1 h2))
theorem AR.lsubT {x y : Int64} (hl : ax_look i pc = some (.lsub, w, v, ws)) (h1 : -9223372036854775808 ≤ x.toInt - y.toInt) (h2 : x.toInt - y.toInt ≤ 9223372036854775807) (k : ∀ z : Int64, z.toInt = x.toInt - y.toInt → AR ax_ns l (ax_mm i) d ty_R P X (pc + 1) lv (.long z :: st) h bc bs) : AR ax_ns l (ax_mm i) d ty_R P X pc lv (.long y :: .long x :: st) h bc bs :=
  AR.lsub (z := .long (x - y)) (ax_look_ok hl).1 rfl (k _ (by rw [Int64.toInt_sub]; exact t_bm h1 h2))
theorem AR.lm10T {x y : Int64} (hl : ax_look i pc = some (.lmul, w, v, ws)) (hx : x.toInt = 10) (h1 : -9223372036854775808 ≤ 10 * y.toInt) (h2 : 10 * y.toInt ≤ 9223372036854775807) (k : ∀ z : Int64, z.toInt = 10 * y.toInt → AR ax_ns l (ax_mm i) d ty_R P X (pc + 1) lv (.long z :: st) h bc bs) : AR ax_ns l (ax_mm i) d ty_R P X pc lv (.long y :: .long x :: st) h bc bs :=
  AR.lmul (z := .long (x * y)) (ax_look_ok hl).1 rfl (k _ (by rw [Int64.toInt_mul, hx]; exact t_bm h1 h2))
theorem AR.lnegT {x : Int64} (hl : ax_look i pc = some (.lneg, w, v, ws)) (h1 : -9223372036854775807 ≤ x.toInt) (k : ∀ z : Int64, z.toInt = -x.toInt → AR ax_ns l (ax_mm i) d ty_R P X (pc + 1) lv (.long z :: st) h bc bs) : AR ax_ns l (ax_mm i) d ty_R P X pc lv (.long x :: st) h bc bs :=
  AR.lneg (z := .long (-x)) (ax_look_ok hl).1 rfl (k _ (by have := Int64.toInt_lt x; rw [Int64.toInt_neg]; exact t_bm (by omega) (by omega)))
theorem AR.i2lT {x : Int32} (hl : ax_look i pc = some (.i2l, w, v, ws)) (k : ∀ z : Int64, z.toInt = x.toInt → AR ax_ns l (ax_mm i) d ty_R P X (pc + 1) lv (.long z :: st) h bc bs) : AR ax_ns l (ax_mm i) d ty_R P X pc lv (.int x :: st) h bc bs :=
  AR.i2l (z := .long x.toInt64) (ax_look_ok hl).1 rfl (k _ (Int32.toInt_toInt64 _))
end LP64
/-- a long of the heap -/
def hw (h : ax_H) (q j : Nat) : Int64 := match ty_fd h q j with
  | some (.long x) => x
  | _ => 0
theorem hw_of {h : ax_H} {q j : Nat} {x : Int64} (e : ty_fd h q j = some (.long x)) : hw h q j = x := by unfold hw; rw [e]
theorem hw_e {h g : ax_H} {q j : Nat} (e : ty_fd g q j = ty_fd h q j) : hw g q j = hw h q j := by unfold hw; rw [e]
theorem hw_z {h : ax_H} (hH : hy_H 0 h) {q j n : Nat} {a z : Int} (hq : q < 181) (hn : (ty_tab q).2.1 = n) (hj : j < n) (ht : ty_tt q j = (1, 0, 0, a, z)) : hy_z h q j = (hw h q j).toInt ∧ ty_fd h q j = some (.long (hw h q j)) := by
  obtain ⟨x, vs, e1, e2, e3, e4, e5⟩ := hy_at hH hq hn hj
  rw [ht] at e5
  obtain ⟨i, rfl, -⟩ := e5
  rw [hw_of e4]
  exact ⟨hy_zl e4, e4⟩
theorem hw_put {h g : ax_H} {q : Nat} {i : Int32} {v : Int64} (E : ∀ q' j', ty_fd g q' j' = if q' = q ∧ j' = i.toNatClampNeg then some (.long v) else ty_fd h q' j') (j : Nat) : hw g q j = if j = i.toInt.toNat then v else hw h q j := by
  have hx : i.toNatClampNeg = i.toInt.toNat := rfl
  by_cases e : j = i.toInt.toNat
  · rw [if_pos e]
    exact hw_of (by rw [E, if_pos ⟨rfl, by rw [hx]; exact e⟩])
  · rw [if_neg e]
    exact hw_e (by rw [E, if_neg (fun c => e (by rw [← hx]; exact c.2))])
theorem hw_no {h g : ax_H} {q p k : Nat} {x : Value} (E : ∀ q' j', ty_fd g q' j' = if q' = p ∧ j' = k then some x else ty_fd h q' j') (hq : q ≠ p) (j : Nat) : hw g q j = hw h q j := hw_e (by rw [E, if_neg (fun c => hq c.1)])
/-- all but these cells is as it was -/
def pf (c : List Nat) (h g : ax_H) : Prop := ty_X h g ∧ ∀ q j, ¬ q ∈ c → ty_fd g q j = ty_fd h q j
theorem pf_r (c : List Nat) (h : ax_H) : pf c h h := ⟨ty_X_refl h, fun _ _ _ => rfl⟩
theorem pf_st {c : List Nat} {h g g' : ax_H} {p k : Nat} {x : Value} (a : pf c h g) (hl : ty_X g g') (E : ∀ q' j', ty_fd g' q' j' = if q' = p ∧ j' = k then some x else ty_fd g q' j') (hp : p ∈ c) : pf c h g' := ⟨a.1.trans hl, fun q j hq => by
  rw [E, if_neg (fun e => hq (by rw [e.1]; exact hp))]
  exact a.2 q j hq⟩
theorem pf.tr {c c' : List Nat} {h g g' : ax_H} (a : pf c h g) (b : pf c' g g') (hc : c' ⊆ c) : pf c h g' := ⟨a.1.trans b.1, fun q j hq => (b.2 q j (fun e => hq (hc e))).trans (a.2 q j hq)⟩
theorem pf.z {c : List Nat} {h g : ax_H} (a : pf c h g) {q : Nat} (hq : ¬ q ∈ c) (j : Nat) : hy_z g q j = hy_z h q j := hy_ze (a.2 q j hq)
theorem pf.w {c : List Nat} {h g : ax_H} (a : pf c h g) {q : Nat} (hq : ¬ q ∈ c) (j : Nat) : hw g q j = hw h q j := hw_e (a.2 q j hq)
/-- a bit of a long -/
def pb (x : Int64) (k : Nat) : Bool := x.toBitVec.getLsbD k
theorem pb_ext {x y : Int64} (h : ∀ k, k < 64 → pb x k = pb y k) : x = y := Int64.toBitVec_inj.mp (BitVec.eq_of_getLsbD_eq (fun i hi => h i hi))
theorem pb_or (x y : Int64) (k : Nat) : pb (x ||| y) k = (pb x k || pb y k) := by unfold pb; rw [Int64.toBitVec_or, BitVec.getLsbD_or]
theorem pb_and (x y : Int64) (k : Nat) : pb (x &&& y) k = (pb x k && pb y k) := by unfold pb; rw [Int64.toBitVec_and, BitVec.getLsbD_and]
theorem pb_xor (x y : Int64) (k : Nat) : pb (x ^^^ y) k = (pb x k ^^ pb y k) := by unfold pb; rw [Int64.toBitVec_xor, BitVec.getLsbD_xor]
theorem pb_0 (k : Nat) : pb 0 k = false := BitVec.getLsbD_zero
theorem pb_m1 : ∀ k, k < 64 → pb (-1) k = true := by decide +kernel
theorem pb_nt {x : Int64} {k : Nat} (h : k < 64) : pb (x ^^^ (-1)) k = !(pb x k) := by rw [pb_xor, pb_m1 k h]; cases pb x k <;> rfl
theorem p_tw : ∀ n, n < 64 → ((1 : Int64) <<< ((Int32.ofNat n).toInt64 &&& 63)).toBitVec = BitVec.twoPow 64 n := by decide +kernel
theorem p_of {i : Int32} {n : Nat} (h : i.toInt = n) (hn : n < 64) : i = Int32.ofNat n := Int32.toInt_inj.mp (by rw [h]; exact (Int32.toInt_ofNat_of_lt (by omega)).symm)
theorem pb_sh {i : Int32} {n k : Nat} (h : i.toInt = n) (hn : n < 64) (hk : k < 64) : pb ((1 : Int64) <<< (i.toInt64 &&& 63)) k = decide (k = n) := by
  rw [p_of h hn]
  unfold pb
  rw [p_tw n hn, BitVec.getLsbD_twoPow]
  by_cases e : n = k
  · subst e; simp [hn]
  · have e2 : ¬ k = n := fun c => e c.symm
    simp [e, e2]
def pq_36 (h : ax_H) (nd : Int64) : ax_Q := fun res g => g = h ∧ ∃ r : Int64, res = .inl (some (.long r)) ∧ ∀ k, k < 64 → pb r k = decide (nd.toInt ≤ hy_z h 13 k)
theorem p36_L (hlst : l.stackTraces = false) {X : ax_PX} {nd : Int64} (hH : hy_H 0 h) : ∀ (n : Nat) (i : Int32) (v : Int64), i.toInt + n = 64 → 0 ≤ i.toInt → (∀ k, k < 64 → pb v k = (decide ((k : Int) < i.toInt) && decide (nd.toInt ≤ hy_z h 13 k))) → AR ax_ns l (ax_mm 36) 0 ty_R (ax_ret ax_ns (ax_mm 36) (pq_36 h nd)) X 19 [(8, .int i), (6, .long v), (4, .long nd), (0, .ref 12)] [] h 0 0 := by
  intro n
  induction n with
  | zero =>
    intro i v hn i0 hv
    show AR _ _ _ _ _ _ _ 19 [(8, .int i), (6, .long v), (4, .long nd), (0, .ref 12)] [] h _ _
    refine AR.s (pc' := 21) (lv' := [(8, .int i), (6, .long v), (4, .long nd), (0, .ref 12)]) (st' := [.int i]) (h' := h) _ hn_36 hk_36_19 rfl ?_
    refine AR.bipushT hk_36_21 (by decide) (fun z139 ez139 => ?_)
    show AR _ _ _ _ _ _ _ 23 [(8, .int i), (6, .long v), (4, .long nd), (0, .ref 12)] [.int z139, .int i] h _ _
    refine AR.jge hk_36_23 (tgt := 54) (by decide) (fun p1 => ?_) (fun p2 => ?_)
    · refine AR.s (pc' := 56) (lv' := [(8, .int i), (6, .long v), (4, .long nd), (0, .ref 12)]) (st' := [.long v]) (h' := h) _ hn_36 hk_36_54 rfl ?_
      exact AR.lret hk_36_56 hr_36 ⟨rfl, _, rfl, fun k hk => by rw [hv k hk, decide_eq_true (show (k : Int) < i.toInt by omega), Bool.true_and]⟩
    · exact absurd p2 (by omega)
  | succ n ih =>
    intro i v hn i0 hv
    show AR _ _ _ _ _ _ _ 19 [(8, .int i), (6, .long v), (4, .long nd), (0, .ref 12)] [] h _ _
    refine AR.s (pc' := 21) (lv' := [(8, .int i), (6, .long v), (4, .long nd), (0, .ref 12)]) (st' := [.int i]) (h' := h) _ hn_36 hk_36_19 rfl ?_
    refine AR.bipushT hk_36_21 (by decide) (fun z140 ez140 => ?_)
    show AR _ _ _ _ _ _ _ 23 [(8, .int i), (6, .long v), (4, .long nd), (0, .ref 12)] [.int z140, .int i] h _ _
    refine AR.jge hk_36_23 (tgt := 54) (by decide) (fun p1 => ?_) (fun p2 => ?_)
    · exact absurd p1 (by omega)
    · refine AR.s (pc' := 27) (lv' := [(8, .int i), (6, .long v), (4, .long nd), (0, .ref 12)]) (st' := [.ref 12]) (h' := h) _ hn_36 hk_36_26 rfl ?_
      refine AR.gR hk_36_27 (by decide) hH (q := 12) (n := 2) (by decide) (by decide +kernel) (by decide +kernel) (by decide) hy_t12_0 ?_
      show AR _ _ _ _ _ _ _ 30 [(8, .int i), (6, .long v), (4, .long nd), (0, .ref 12)] [.ref 13] h _ _
      refine AR.s (pc' := 32) (lv' := [(8, .int i), (6, .long v), (4, .long nd), (0, .ref 12)]) (st' := [.int i, .ref 13]) (h' := h) _ hn_36 hk_36_30 rfl ?_
      refine AR.laI hk_36_32 hH (q := 13) (n := 64) (by decide) (by decide +kernel) (by decide +kernel) (by decide +kernel) hy_t13_0 (by omega) (by omega) (fun x141 dx141 lx141 ux141 => ?_)
      show AR _ _ _ _ _ _ _ 33 [(8, .int i), (6, .long v), (4, .long nd), (0, .ref 12)] [.long x141] h _ _
      refine AR.s (pc' := 35) (lv' := [(8, .int i), (6, .long v), (4, .long nd), (0, .ref 12)]) (st' := [.long nd, .long x141]) (h' := h) _ hn_36 hk_36_33 rfl ?_
      refine AR.lcmpT hk_36_35 (fun c cc => ?_)
      obtain ⟨cc1, cc2, cc3⟩ := cc
      show AR _ _ _ _ _ _ _ 36 [(8, .int i), (6, .long v), (4, .long nd), (0, .ref 12)] [.int c] h _ _
      have xe := hy_zl dx141
      have xk : i.toNatClampNeg = i.toInt.toNat := rfl
      rw [xk] at xe
      show AR _ _ _ _ _ _ _ 36 [(8, .int i), (6, .long v), (4, .long nd), (0, .ref 12)] [.int c] h _ _
      refine AR.zlt hk_36_36 (tgt := 48) (by decide) (fun q1 => ?_) (fun q2 => ?_)
      · refine AR.iincT hk_36_48 (x := i) rfl (by rw [hn_36]; decide) (by decide) (by omega) (by omega) (fun z142 ez142 => ?_)
        show AR _ _ _ _ _ _ _ 51 [(8, .int z142), (6, .long v), (4, .long nd), (0, .ref 12)] [] h _ _
        refine AR.gotoT hk_36_51 (tgt := 19) (by decide) ?_
        refine AR.lessL (lv' := [(8, .int z142), (6, .long v), (4, .long nd), (0, .ref 12)]) (List.forall_mem_cons.mpr ⟨⟨_, by simp, ax_le_rfl rfl⟩, (List.forall_mem_cons.mpr ⟨⟨_, by simp, ax_le_rfl rfl⟩, (List.forall_mem_cons.mpr ⟨⟨_, by simp, ax_le_rfl rfl⟩, (List.forall_mem_cons.mpr ⟨⟨_, by simp, ax_le_rfl rfl⟩, (fun _ h => absurd h List.not_mem_nil)⟩)⟩)⟩)⟩) ?_
        refine ih z142 v (by omega) (by omega) (fun k hk => ?_)
        rw [hv k hk]
        by_cases e : (k : Int) = i.toInt
        · have ek : k = i.toInt.toNat := by omega
          rw [ek, xe, decide_eq_false (show ¬ (nd.toInt ≤ x141.toInt) by rcases Int.lt_trichotomy x141.toInt nd.toInt with w | w | w; omega; have := cc2 w; omega; have := cc3 w; omega), Bool.and_false, Bool.and_false]
        · rw [show decide ((k : Int) < z142.toInt) = decide ((k : Int) < i.toInt) from by rw [decide_eq_decide]; omega]
      · refine AR.s (pc' := 41) (lv' := [(8, .int i), (6, .long v), (4, .long nd), (0, .ref 12)]) (st' := [.long v]) (h' := h) _ hn_36 hk_36_39 rfl ?_
        refine AR.lconstT hk_36_41 (fun z143 ez143 => ?_)
        have kz143 : z143 = 1 := Int64.toInt_inj.mp (ez143.trans rfl)
        show AR _ _ _ _ _ _ _ 42 [(8, .int i), (6, .long v), (4, .long nd), (0, .ref 12)] [.long z143, .long v] h _ _
        refine AR.s (pc' := 44) (lv' := [(8, .int i), (6, .long v), (4, .long nd), (0, .ref 12)]) (st' := [.int i, .long z143, .long v]) (h' := h) _ hn_36 hk_36_42 rfl ?_
        refine AR.lshl (z := .long (z143 <<< (i.toInt64 &&& 63))) (ax_look_ok hk_36_44).1 rfl ?_
        generalize hz144 : z143 <<< (i.toInt64 &&& 63) = z144
        show AR _ _ _ _ _ _ _ 45 [(8, .int i), (6, .long v), (4, .long nd), (0, .ref 12)] [.long z144, .long v] h _ _
        refine AR.lor (z := .long (v ||| z144)) (ax_look_ok hk_36_45).1 rfl ?_
        generalize hz145 : v ||| z144 = z145
        show AR _ _ _ _ _ _ _ 46 [(8, .int i), (6, .long v), (4, .long nd), (0, .ref 12)] [.long z145] h _ _
        refine AR.s (pc' := 48) (lv' := [(6, .long z145), (8, .int i), (4, .long nd), (0, .ref 12)]) (st' := []) (h' := h) _ hn_36 hk_36_46 rfl ?_
        refine AR.iincT hk_36_48 (x := i) rfl (by rw [hn_36]; decide) (by decide) (by omega) (by omega) (fun z146 ez146 => ?_)
        show AR _ _ _ _ _ _ _ 51 [(8, .int z146), (6, .long z145), (4, .long nd), (0, .ref 12)] [] h _ _
        refine AR.gotoT hk_36_51 (tgt := 19) (by decide) ?_
        refine AR.lessL (lv' := [(8, .int z146), (6, .long z145), (4, .long nd), (0, .ref 12)]) (List.forall_mem_cons.mpr ⟨⟨_, by simp, ax_le_rfl rfl⟩, (List.forall_mem_cons.mpr ⟨⟨_, by simp, ax_le_rfl rfl⟩, (List.forall_mem_cons.mpr ⟨⟨_, by simp, ax_le_rfl rfl⟩, (List.forall_mem_cons.mpr ⟨⟨_, by simp, ax_le_rfl rfl⟩, (fun _ h => absurd h List.not_mem_nil)⟩)⟩)⟩)⟩) ?_
        refine ih z146 z145 (by omega) (by omega) (fun k hk => ?_)
        rw [← hz145, pb_or, hv k hk, ← hz144, kz143, pb_sh (n := i.toInt.toNat) (by omega) (by omega) hk]
        by_cases e : (k : Int) = i.toInt
        · have ek : k = i.toInt.toNat := by omega
          rw [decide_eq_true (show k = i.toInt.toNat from ek), Bool.or_true, decide_eq_true (show (k : Int) < z146.toInt by omega), ek, xe, decide_eq_true (show nd.toInt ≤ x141.toInt by rcases Int.lt_trichotomy x141.toInt nd.toInt with w | w | w; have := cc1 w; omega; omega; omega), Bool.and_true]
        · rw [decide_eq_false (show ¬ k = i.toInt.toNat by omega), Bool.or_false, show decide ((k : Int) < z146.toInt) = decide ((k : Int) < i.toInt) from by rw [decide_eq_decide]; omega]
theorem p_63 : ∀ n, n < 64 → (Int32.ofNat n &&& Int32.ofInt 63) = Int32.ofNat n := by decide +kernel
def pq_36b (h : ax_H) (u : Nat) (m : Int) : ax_Q := fun res g => g = h ∧ ∃ r : Int64, res = .inl (some (.long r)) ∧ ∀ k, k < 64 → pb r k = decide (m ≤ hy_z h 13 k + hy_z h 14 u)
theorem p_rm {i : Nat} {Q Q' : ax_Q} (hq : ∀ res h, Q res h → Q' res h) {pc : Nat} {lv : List (Nat × Value)} {st : List Value} {h : ax_H} {bc bs : Nat} (hp : ax_ret ax_ns (ax_mm i) Q pc lv st h bc bs) : ax_ret ax_ns (ax_mm i) Q' pc lv st h bc bs := by
  rcases hp with ⟨x, a1, a2, a3, a4, a5⟩ | ⟨x, ty, a1, a2, a3, a4, a5, a6⟩ | ⟨x, a1, a2, a3, a4, a5⟩ | ⟨x, rt, a1, a2, a3, a4, a5, a6⟩ | ⟨a1, a2, a3, a4⟩ | ⟨E, a1, a2, a3, a4, a5, a6⟩
  · exact Or.inl ⟨x, a1, a2, a3, a4, hq _ _ a5⟩
  · exact Or.inr (Or.inl ⟨x, ty, a1, a2, a3, a4, a5, hq _ _ a6⟩)
  · exact Or.inr (Or.inr (Or.inl ⟨x, a1, a2, a3, a4, hq _ _ a5⟩))
  · exact Or.inr (Or.inr (Or.inr (Or.inl ⟨x, rt, a1, a2, a3, a4, a5, hq _ _ a6⟩)))
  · exact Or.inr (Or.inr (Or.inr (Or.inr (Or.inl ⟨a1, a2, a3, hq _ _ a4⟩))))
  · exact Or.inr (Or.inr (Or.inr (Or.inr (Or.inr ⟨E, a1, a2, a3, a4, a5, hq _ _ a6⟩))))
theorem p_36 (hlst : l.stackTraces = false) {m : Int64} {u : Nat} (hH : hy_H 0 h) (hu : x.toInt = u) (hu2 : u < 64) (hm : -1000000000000 ≤ m.toInt ∧ m.toInt ≤ 1000000000000) (hs : -1000000000000 ≤ hy_z h 14 u ∧ hy_z h 14 u ≤ 1000000000000) : AM ax_ns l (ax_mm 36) 0 ty_R (0) (0) [.ref 12, .int x, .long m] h (pq_36b h u m.toInt) := by
  refine AM.of (ax_mfacts (by decide +kernel : ax_has 36 = true)).2.2.2.2.2.2 hlst (by rw [hn_36]; exact Nat.le_of_ble_eq_true rfl) ?_
  show AR ax_ns l (ax_mm 36) 0 ty_R _ _ 0 [(0, .ref 12), (1, .int x), (2, .long m)] [] h (0) (0)
  refine AR.s (pc' := 1) (lv' := [(0, .ref 12), (1, .int x), (2, .long m)]) (st' := [.long m]) (h' := h) _ hn_36 hk_36_0 rfl ?_
  refine AR.s (pc' := 2) (lv' := [(0, .ref 12), (1, .int x), (2, .long m)]) (st' := [.ref 12, .long m]) (h' := h) _ hn_36 hk_36_1 rfl ?_
  refine AR.gR hk_36_2 (by decide) hH (q := 12) (n := 2) (by decide) (by decide +kernel) (by decide +kernel) (by decide) hy_t12_1 ?_
  show AR _ _ _ _ _ _ _ 5 [(0, .ref 12), (1, .int x), (2, .long m)] [.ref 14, .long m] h _ _
  refine AR.s (pc' := 6) (lv' := [(0, .ref 12), (1, .int x), (2, .long m)]) (st' := [.int x, .ref 14, .long m]) (h' := h) _ hn_36 hk_36_5 rfl ?_
  refine AR.bipushT hk_36_6 (by decide) (fun z147 ez147 => ?_)
  show AR _ _ _ _ _ _ _ 8 [(0, .ref 12), (1, .int x), (2, .long m)] [.int z147, .int x, .ref 14, .long m] h _ _
  refine AR.iand (z := .int (x &&& z147)) (ax_look_ok hk_36_8).1 rfl ?_
  have xu : x &&& z147 = x := by rw [show z147 = Int32.ofInt 63 from Int32.toInt_inj.mp (by rw [ez147]; rfl), p_of hu hu2]; exact p_63 u hu2
  rw [xu]
  show AR _ _ _ _ _ _ _ 9 [(0, .ref 12), (1, .int x), (2, .long m)] [.int x, .ref 14, .long m] h _ _
  refine AR.laI hk_36_9 hH (q := 14) (n := 64) (by decide) (by decide +kernel) (by decide +kernel) (by decide +kernel) hy_t14_0 (by omega) (by omega) (fun x148 dx148 lx148 ux148 => ?_)
  show AR _ _ _ _ _ _ _ 10 [(0, .ref 12), (1, .int x), (2, .long m)] [.long x148, .long m] h _ _
  have xe := hy_zl dx148
  have xk : x.toNatClampNeg = u := by show x.toInt.toNat = u; omega
  rw [xk] at xe
  show AR _ _ _ _ _ _ _ 10 [(0, .ref 12), (1, .int x), (2, .long m)] [.long x148, .long m] h _ _
  refine AR.lsubT hk_36_10 (by omega) (by omega) (fun z149 ez149 => ?_)
  show AR _ _ _ _ _ _ _ 11 [(0, .ref 12), (1, .int x), (2, .long m)] [.long z149] h _ _
  refine AR.s (pc' := 13) (lv' := [(4, .long z149), (0, .ref 12), (1, .int x), (2, .long m)]) (st' := []) (h' := h) _ hn_36 hk_36_11 rfl ?_
  refine AR.lconstT hk_36_13 (fun z150 ez150 => ?_)
  have kz150 : z150 = 0 := Int64.toInt_inj.mp (ez150.trans rfl)
  show AR _ _ _ _ _ _ _ 14 [(4, .long z149), (0, .ref 12), (1, .int x), (2, .long m)] [.long z150] h _ _
  refine AR.s (pc' := 16) (lv' := [(6, .long z150), (4, .long z149), (0, .ref 12), (1, .int x), (2, .long m)]) (st' := []) (h' := h) _ hn_36 hk_36_14 rfl ?_
  refine AR.iconstT hk_36_16 (by decide) (fun z151 ez151 => ?_)
  show AR _ _ _ _ _ _ _ 17 [(6, .long z150), (4, .long z149), (0, .ref 12), (1, .int x), (2, .long m)] [.int z151] h _ _
  refine AR.s (pc' := 19) (lv' := [(8, .int z151), (6, .long z150), (4, .long z149), (0, .ref 12), (1, .int x), (2, .long m)]) (st' := []) (h' := h) _ hn_36 hk_36_17 rfl ?_
  refine AR.lessL (lv' := [(8, .int z151), (6, .long z150), (4, .long z149), (0, .ref 12)]) (List.forall_mem_cons.mpr ⟨⟨_, by simp, ax_le_rfl rfl⟩, (List.forall_mem_cons.mpr ⟨⟨_, by simp, ax_le_rfl rfl⟩, (List.forall_mem_cons.mpr ⟨⟨_, by simp, ax_le_rfl rfl⟩, (List.forall_mem_cons.mpr ⟨⟨_, by simp, ax_le_rfl rfl⟩, (fun _ h => absurd h List.not_mem_nil)⟩)⟩)⟩)⟩) ?_
  refine AR.then (P := ax_ret ax_ns (ax_mm 36) (pq_36 h z149)) (p36_L hlst hH 64 z151 z150 (by omega) (by omega) (fun k hk => ?_)) (fun pc lv st g bc bs hp => AR.at (p_rm ?_ hp))
  · rw [kz150, pb_0, decide_eq_false (by omega), Bool.false_and]
  · rintro res g ⟨e, r, e2, e3⟩
    exact ⟨e, r, e2, fun k hk => by rw [e3 k hk, decide_eq_decide]; omega⟩
def pR (h : ax_H) (m : Int) (w k : Nat) : Bool := decide (m ≤ hy_z h 13 k + hy_z h 14 w)
theorem p_c12 (hH : hy_H 0 h) : ∃ vs, h[12]? = some (4, vs) := by
  obtain ⟨vs, e1, -⟩ := hy_cell hH (q := 12) (by decide)
  rw [show (ty_tab 12).1 = 4 from by decide +kernel] at e1
  exact ⟨vs, e1⟩
def pq_42 (h : ax_H) (m : Int) : ax_Q := fun res g => res = .inl none ∧ hy_H 0 g ∧ pf [148] h g ∧ ∀ w, w < 64 → ∀ k, k < 64 → pb (hw g 148 w) k = (pb (hw h 148 w) k && pR h m w k)
theorem p42_L (hlst : l.stackTraces = false) {X : ax_PX} {m : Int64} (hm : -1000000000000 ≤ m.toInt ∧ m.toInt ≤ 1000000000000) (hs : ∀ u, u < 64 → -1000000000000 ≤ hy_z h 14 u ∧ hy_z h 14 u ≤ 1000000000000) : ∀ (n : Nat) (g : ax_H) (i : Int32), i.toInt + n = 64 → 0 ≤ i.toInt → hy_H 0 g → pf [148] h g → (∀ w, w < 64 → ∀ k, k < 64 → pb (hw g 148 w) k = (pb (hw h 148 w) k && (decide (i.toInt ≤ w) || pR h m.toInt w k))) → AR ax_ns l (ax_mm 42) 1 ty_R (ax_ret ax_ns (ax_mm 42) (pq_42 h m.toInt)) X 3 [(4, .int i), (2, .long m), (1, .ref 12), (0, .ref 147)] [] g 0 0 := by
  intro n
  induction n with
  | zero =>
    intro g i hn i0 Hg Pg hv
    have Fg : ty_F 0 g g := ty_F_refl _ _
    show AR _ _ _ _ _ _ _ 3 [(4, .int i), (2, .long m), (1, .ref 12), (0, .ref 147)] [] g _ _
    refine AR.s (pc' := 5) (lv' := [(4, .int i), (2, .long m), (1, .ref 12), (0, .ref 147)]) (st' := [.int i]) (h' := g) _ hn_42 hk_42_3 rfl ?_
    refine AR.bipushT hk_42_5 (by decide) (fun z152 ez152 => ?_)
    show AR _ _ _ _ _ _ _ 7 [(4, .int i), (2, .long m), (1, .ref 12), (0, .ref 147)] [.int z152, .int i] g _ _
    refine AR.jge hk_42_7 (tgt := 33) (by decide) (fun p1 => ?_) (fun p2 => ?_)
    · exact AR.vret hk_42_33 hr_42 ⟨rfl, Hg, Pg, fun w hw k hk => by rw [hv w hw k hk, decide_eq_false (show ¬ (i.toInt ≤ (w : Int)) by omega), Bool.false_or]⟩
    · exact absurd p2 (by omega)
  | succ n ih =>
    intro g i hn i0 Hg Pg hv
    have Fg : ty_F 0 g g := ty_F_refl _ _
    show AR _ _ _ _ _ _ _ 3 [(4, .int i), (2, .long m), (1, .ref 12), (0, .ref 147)] [] g _ _
    refine AR.s (pc' := 5) (lv' := [(4, .int i), (2, .long m), (1, .ref 12), (0, .ref 147)]) (st' := [.int i]) (h' := g) _ hn_42 hk_42_3 rfl ?_
    refine AR.bipushT hk_42_5 (by decide) (fun z153 ez153 => ?_)
    show AR _ _ _ _ _ _ _ 7 [(4, .int i), (2, .long m), (1, .ref 12), (0, .ref 147)] [.int z153, .int i] g _ _
    refine AR.jge hk_42_7 (tgt := 33) (by decide) (fun p1 => ?_) (fun p2 => ?_)
    · exact absurd p1 (by omega)
    · refine AR.s (pc' := 11) (lv' := [(4, .int i), (2, .long m), (1, .ref 12), (0, .ref 147)]) (st' := [.ref 147]) (h' := g) _ hn_42 hk_42_10 rfl ?_
      refine AR.gR hk_42_11 (by decide) Hg (q := 147) (n := 1) (by decide) (by decide +kernel) (by decide +kernel) (by decide) hy_t147_0 ?_
      show AR _ _ _ _ _ _ _ 14 [(4, .int i), (2, .long m), (1, .ref 12), (0, .ref 147)] [.ref 148] g _ _
      refine AR.s (pc' := 16) (lv' := [(4, .int i), (2, .long m), (1, .ref 12), (0, .ref 147)]) (st' := [.int i, .ref 148]) (h' := g) _ hn_42 hk_42_14 rfl ?_
      refine AR.dup2 (ax_look_ok hk_42_16).1 rfl rfl ?_
      show AR _ _ _ _ _ _ _ 17 [(4, .int i), (2, .long m), (1, .ref 12), (0, .ref 147)] [.int i, .ref 148, .int i, .ref 148] g _ _
      refine AR.laI hk_42_17 Hg (q := 148) (n := 64) (by decide) (by decide +kernel) (by decide +kernel) (by decide +kernel) hy_t148_0 (by omega) (by omega) (fun x154 dx154 lx154 ux154 => ?_)
      show AR _ _ _ _ _ _ _ 18 [(4, .int i), (2, .long m), (1, .ref 12), (0, .ref 147)] [.long x154, .int i, .ref 148] g _ _
      have xk : i.toNatClampNeg = i.toInt.toNat := rfl
      rw [xk] at dx154
      have xe := hw_of dx154
      show AR _ _ _ _ _ _ _ 18 [(4, .int i), (2, .long m), (1, .ref 12), (0, .ref 147)] [.long x154, .int i, .ref 148] g _ _
      refine AR.s (pc' := 19) (lv' := [(4, .int i), (2, .long m), (1, .ref 12), (0, .ref 147)]) (st' := [.ref 12, .long x154, .int i, .ref 148]) (h' := g) _ hn_42 hk_42_18 rfl ?_
      refine AR.s (pc' := 21) (lv' := [(4, .int i), (2, .long m), (1, .ref 12), (0, .ref 147)]) (st' := [.int i, .ref 12, .long x154, .int i, .ref 148]) (h' := g) _ hn_42 hk_42_19 rfl ?_
      refine AR.s (pc' := 22) (lv' := [(4, .int i), (2, .long m), (1, .ref 12), (0, .ref 147)]) (st' := [.long m, .int i, .ref 12, .long x154, .int i, .ref 148]) (h' := g) _ hn_42 hk_42_21 rfl ?_
      obtain ⟨v12, c12⟩ := p_c12 Hg
      refine AR.jr (r := 12) (as := [.int i, .long m]) (rest := [.long x154, .int i, .ref 148]) hk_42_22 (by decide) (by decide +kernel) (by decide) c12 rfl rfl (Nat.le_of_ble_eq_true rfl) (p_36 hlst (u := i.toInt.toNat) Hg (by omega) (by omega) hm (by rw [Pg.z (by decide)]; exact hs _ (by omega))) (by decide) (Nat.zero_le _) (Nat.zero_le _) ?_ (fun E h' q => by obtain ⟨-, _, e, -⟩ := q; cases e)
      rintro w g2 ⟨eg, r, er, hr⟩
      cases er
      obtain rfl := eg.symm
      show AR _ _ _ _ _ _ _ 25 [(4, .int i), (2, .long m), (1, .ref 12), (0, .ref 147)] [.long r, .long x154, .int i, .ref 148] g _ _
      refine AR.land (z := .long (x154 &&& r)) (ax_look_ok hk_42_25).1 rfl ?_
      generalize hz155 : x154 &&& r = z155
      show AR _ _ _ _ _ _ _ 26 [(4, .int i), (2, .long m), (1, .ref 12), (0, .ref 147)] [.long z155, .int i, .ref 148] g _ _
      have r156a := Int64.le_toInt z155
      have r156b := Int64.toInt_lt z155
      refine AR.lsT hk_42_26 Hg Fg (q := 148) (n := 64) (by decide) (by decide +kernel) (by decide +kernel) (by decide +kernel) hy_t148_0 (by omega) (by omega) (by omega) (by omega) (by decide +kernel) ?_
      rintro g157 ⟨Hg157, Fg157, Gg157, Eg157⟩
      show AR _ _ _ _ _ _ _ 27 [(4, .int i), (2, .long m), (1, .ref 12), (0, .ref 147)] [] g157 _ _
      have pg157 : pf [148] h g157 := pf_st Pg Gg157.1 Eg157 (by simp)
      refine AR.iincT hk_42_27 (x := i) rfl (by rw [hn_42]; decide) (by decide) (by omega) (by omega) (fun z158 ez158 => ?_)
      show AR _ _ _ _ _ _ _ 30 [(4, .int z158), (2, .long m), (1, .ref 12), (0, .ref 147)] [] g157 _ _
      refine AR.gotoT hk_42_30 (tgt := 3) (by decide) ?_
      refine AR.lessL (lv' := [(4, .int z158), (2, .long m), (1, .ref 12), (0, .ref 147)]) (List.forall_mem_cons.mpr ⟨⟨_, by simp, ax_le_rfl rfl⟩, (List.forall_mem_cons.mpr ⟨⟨_, by simp, ax_le_rfl rfl⟩, (List.forall_mem_cons.mpr ⟨⟨_, by simp, ax_le_rfl rfl⟩, (List.forall_mem_cons.mpr ⟨⟨_, by simp, ax_le_rfl rfl⟩, (fun _ h => absurd h List.not_mem_nil)⟩)⟩)⟩)⟩) ?_
      refine ih g157 z158 (by omega) (by omega) Hg157 pg157 (fun w hw0 k hk => ?_)
      rw [hw_put Eg157]
      by_cases e : w = i.toInt.toNat
      · subst e
        rw [if_pos rfl, ← hz155, pb_and, ← xe, hv _ hw0 k hk, hr k hk, decide_eq_true (show i.toInt ≤ (i.toInt.toNat : Int) by omega), Bool.true_or, Bool.and_true, decide_eq_false (show ¬ (z158.toInt ≤ (i.toInt.toNat : Int)) by omega), Bool.false_or, Pg.z (by decide), Pg.z (by decide)]
        rfl
      · rw [if_neg e, hv w hw0 k hk, show decide (i.toInt ≤ (w : Int)) = decide (z158.toInt ≤ (w : Int)) from by rw [decide_eq_decide]; omega]
theorem p_42 (hlst : l.stackTraces = false) {m : Int64} (hH : hy_H 0 h) (hm : -1000000000000 ≤ m.toInt ∧ m.toInt ≤ 1000000000000) (hs : ∀ u, u < 64 → -1000000000000 ≤ hy_z h 14 u ∧ hy_z h 14 u ≤ 1000000000000) : AM ax_ns l (ax_mm 42) 1 ty_R (0) (0) [.ref 147, .ref 12, .long m] h (pq_42 h m.toInt) := by
  refine AM.of (ax_mfacts (by decide +kernel : ax_has 42 = true)).2.2.2.2.2.2 hlst (by rw [hn_42]; exact Nat.le_of_ble_eq_true rfl) ?_
  show AR ax_ns l (ax_mm 42) 1 ty_R _ _ 0 [(0, .ref 147), (1, .ref 12), (2, .long m)] [] h (0) (0)
  refine AR.iconstT hk_42_0 (by decide) (fun z159 ez159 => ?_)
  show AR _ _ _ _ _ _ _ 1 [(0, .ref 147), (1, .ref 12), (2, .long m)] [.int z159] h _ _
  refine AR.s (pc' := 3) (lv' := [(4, .int z159), (0, .ref 147), (1, .ref 12), (2, .long m)]) (st' := []) (h' := h) _ hn_42 hk_42_1 rfl ?_
  refine AR.lessL (lv' := [(4, .int z159), (2, .long m), (1, .ref 12), (0, .ref 147)]) (List.forall_mem_cons.mpr ⟨⟨_, by simp, ax_le_rfl rfl⟩, (List.forall_mem_cons.mpr ⟨⟨_, by simp, ax_le_rfl rfl⟩, (List.forall_mem_cons.mpr ⟨⟨_, by simp, ax_le_rfl rfl⟩, (List.forall_mem_cons.mpr ⟨⟨_, by simp, ax_le_rfl rfl⟩, (fun _ h => absurd h List.not_mem_nil)⟩)⟩)⟩)⟩) ?_
  exact p42_L hlst hm hs 64 h z159 (by omega) (by omega) hH (pf_r _ _) (fun w hw0 k hk => by rw [decide_eq_true (show z159.toInt ≤ (w : Int) by omega), Bool.true_or, Bool.and_true])
theorem p_zero {x : Int64} : x.toInt = 0 ↔ ∀ k, k < 64 → pb x k = false := by
  constructor
  · intro e k hk
    rw [show x = 0 from Int64.toInt_inj.mp e]
    exact pb_0 k
  · intro e
    have : x = 0 := pb_ext (fun k hk => by rw [e k hk, pb_0])
    rw [this]
    rfl
def pq_43 (h : ax_H) (m : Int) : ax_Q := fun res g => g = h ∧ ∃ z : Int32, res = .inl (some (.int z)) ∧ ((z.toInt = 1 ∧ ∀ w, w < 64 → ∀ k, k < 64 → pb (hw h 148 w) k = true → pR h m w k = true) ∨ (z.toInt = 0 ∧ ∃ w k, w < 64 ∧ k < 64 ∧ pb (hw h 148 w) k = true ∧ pR h m w k = false))
theorem p43_L (hlst : l.stackTraces = false) {X : ax_PX} {m : Int64} (hH : hy_H 0 h) (hm : -1000000000000 ≤ m.toInt ∧ m.toInt ≤ 1000000000000) (hs : ∀ u, u < 64 → -1000000000000 ≤ hy_z h 14 u ∧ hy_z h 14 u ≤ 1000000000000) : ∀ (n : Nat) (i : Int32), i.toInt + n = 64 → 0 ≤ i.toInt → (∀ w : Nat, (w : Int) < i.toInt → ∀ k, k < 64 → pb (hw h 148 w) k = true → pR h m.toInt w k = true) → AR ax_ns l (ax_mm 43) 1 ty_R (ax_ret ax_ns (ax_mm 43) (pq_43 h m.toInt)) X 3 [(4, .int i), (2, .long m), (1, .ref 12), (0, .ref 147)] [] h 0 0 := by
  intro n
  induction n with
  | zero =>
    intro i hn i0 hv
    show AR _ _ _ _ _ _ _ 3 [(4, .int i), (2, .long m), (1, .ref 12), (0, .ref 147)] [] h _ _
    refine AR.s (pc' := 5) (lv' := [(4, .int i), (2, .long m), (1, .ref 12), (0, .ref 147)]) (st' := [.int i]) (h' := h) _ hn_43 hk_43_3 rfl ?_
    refine AR.bipushT hk_43_5 (by decide) (fun z160 ez160 => ?_)
    show AR _ _ _ _ _ _ _ 7 [(4, .int i), (2, .long m), (1, .ref 12), (0, .ref 147)] [.int z160, .int i] h _ _
    refine AR.jge hk_43_7 (tgt := 42) (by decide) (fun p1 => ?_) (fun p2 => ?_)
    · refine AR.iconstT hk_43_42 (by decide) (fun z161 ez161 => ?_)
      show AR _ _ _ _ _ _ _ 43 [(4, .int i), (2, .long m), (1, .ref 12), (0, .ref 147)] [.int z161] h _ _
      exact AR.zret hk_43_43 hr_43 (Or.inr (by omega)) ⟨rfl, _, rfl, Or.inl ⟨by omega, fun w hw0 k hk e => hv w (by omega) k hk e⟩⟩
    · exact absurd p2 (by omega)
  | succ n ih =>
    intro i hn i0 hv
    show AR _ _ _ _ _ _ _ 3 [(4, .int i), (2, .long m), (1, .ref 12), (0, .ref 147)] [] h _ _
    refine AR.s (pc' := 5) (lv' := [(4, .int i), (2, .long m), (1, .ref 12), (0, .ref 147)]) (st' := [.int i]) (h' := h) _ hn_43 hk_43_3 rfl ?_
    refine AR.bipushT hk_43_5 (by decide) (fun z162 ez162 => ?_)
    show AR _ _ _ _ _ _ _ 7 [(4, .int i), (2, .long m), (1, .ref 12), (0, .ref 147)] [.int z162, .int i] h _ _
    refine AR.jge hk_43_7 (tgt := 42) (by decide) (fun p1 => ?_) (fun p2 => ?_)
    · exact absurd p1 (by omega)
    · refine AR.s (pc' := 11) (lv' := [(4, .int i), (2, .long m), (1, .ref 12), (0, .ref 147)]) (st' := [.ref 147]) (h' := h) _ hn_43 hk_43_10 rfl ?_
      refine AR.gR hk_43_11 (by decide) hH (q := 147) (n := 1) (by decide) (by decide +kernel) (by decide +kernel) (by decide) hy_t147_0 ?_
      show AR _ _ _ _ _ _ _ 14 [(4, .int i), (2, .long m), (1, .ref 12), (0, .ref 147)] [.ref 148] h _ _
      refine AR.s (pc' := 16) (lv' := [(4, .int i), (2, .long m), (1, .ref 12), (0, .ref 147)]) (st' := [.int i, .ref 148]) (h' := h) _ hn_43 hk_43_14 rfl ?_
      refine AR.laI hk_43_16 hH (q := 148) (n := 64) (by decide) (by decide +kernel) (by decide +kernel) (by decide +kernel) hy_t148_0 (by omega) (by omega) (fun x163 dx163 lx163 ux163 => ?_)
      show AR _ _ _ _ _ _ _ 17 [(4, .int i), (2, .long m), (1, .ref 12), (0, .ref 147)] [.long x163] h _ _
      have xk : i.toNatClampNeg = i.toInt.toNat := rfl
      rw [xk] at dx163
      have xe := hw_of dx163
      show AR _ _ _ _ _ _ _ 17 [(4, .int i), (2, .long m), (1, .ref 12), (0, .ref 147)] [.long x163] h _ _
      refine AR.s (pc' := 18) (lv' := [(4, .int i), (2, .long m), (1, .ref 12), (0, .ref 147)]) (st' := [.ref 12, .long x163]) (h' := h) _ hn_43 hk_43_17 rfl ?_
      refine AR.s (pc' := 20) (lv' := [(4, .int i), (2, .long m), (1, .ref 12), (0, .ref 147)]) (st' := [.int i, .ref 12, .long x163]) (h' := h) _ hn_43 hk_43_18 rfl ?_
      refine AR.s (pc' := 21) (lv' := [(4, .int i), (2, .long m), (1, .ref 12), (0, .ref 147)]) (st' := [.long m, .int i, .ref 12, .long x163]) (h' := h) _ hn_43 hk_43_20 rfl ?_
      obtain ⟨v12, c12⟩ := p_c12 hH
      refine AR.jr (r := 12) (as := [.int i, .long m]) (rest := [.long x163]) hk_43_21 (by decide) (by decide +kernel) (by decide) c12 rfl rfl (Nat.le_of_ble_eq_true rfl) (p_36 hlst (u := i.toInt.toNat) hH (by omega) (by omega) hm (hs _ (by omega))) (by decide) (Nat.zero_le _) (Nat.zero_le _) ?_ (fun E h' q => by obtain ⟨-, _, e, -⟩ := q; cases e)
      rintro w g2 ⟨eg, r, er, hr⟩
      cases er
      obtain rfl := eg.symm
      show AR _ _ _ _ _ _ _ 24 [(4, .int i), (2, .long m), (1, .ref 12), (0, .ref 147)] [.long r, .long x163] h _ _
      refine AR.ldc2T hk_43_24 (fun z164 ez164 => ?_)
      have kz164 : z164 = (-1) := Int64.toInt_inj.mp (ez164.trans (by decide))
      show AR _ _ _ _ _ _ _ 27 [(4, .int i), (2, .long m), (1, .ref 12), (0, .ref 147)] [.long z164, .long r, .long x163] h _ _
      refine AR.lxor (z := .long (r ^^^ z164)) (ax_look_ok hk_43_27).1 rfl ?_
      generalize hz165 : r ^^^ z164 = z165
      show AR _ _ _ _ _ _ _ 28 [(4, .int i), (2, .long m), (1, .ref 12), (0, .ref 147)] [.long z165, .long x163] h _ _
      refine AR.land (z := .long (x163 &&& z165)) (ax_look_ok hk_43_28).1 rfl ?_
      generalize hz166 : x163 &&& z165 = z166
      show AR _ _ _ _ _ _ _ 29 [(4, .int i), (2, .long m), (1, .ref 12), (0, .ref 147)] [.long z166] h _ _
      refine AR.lconstT hk_43_29 (fun z167 ez167 => ?_)
      have kz167 : z167 = 0 := Int64.toInt_inj.mp (ez167.trans rfl)
      show AR _ _ _ _ _ _ _ 30 [(4, .int i), (2, .long m), (1, .ref 12), (0, .ref 147)] [.long z167, .long z166] h _ _
      have yb : ∀ k, k < 64 → pb z166 k = (pb (hw h 148 i.toInt.toNat) k && !(pR h m.toInt i.toInt.toNat k)) := fun k hk => by rw [← hz166, pb_and, ← hz165, kz164, pb_nt hk, hr k hk, xe]; rfl
      refine AR.lcmpT hk_43_30 (fun c cc => ?_)
      obtain ⟨cc1, cc2, cc3⟩ := cc
      have zz : z167.toInt = 0 := by rw [kz167]; rfl
      show AR _ _ _ _ _ _ _ 31 [(4, .int i), (2, .long m), (1, .ref 12), (0, .ref 147)] [.int c] h _ _
      refine AR.zeq hk_43_31 (tgt := 36) (by decide) (fun q1 => ?_) (fun q2 => ?_)
      · have y0 : z166.toInt = 0 := by rcases Int.lt_trichotomy z166.toInt 0 with w | w | w; have := cc1 (by omega); omega; exact w; have := cc3 (by omega); omega
        have yz := p_zero.mp y0
        refine AR.iincT hk_43_36 (x := i) rfl (by rw [hn_43]; decide) (by decide) (by omega) (by omega) (fun z168 ez168 => ?_)
        show AR _ _ _ _ _ _ _ 39 [(4, .int z168), (2, .long m), (1, .ref 12), (0, .ref 147)] [] h _ _
        refine AR.gotoT hk_43_39 (tgt := 3) (by decide) ?_
        refine AR.lessL (lv' := [(4, .int z168), (2, .long m), (1, .ref 12), (0, .ref 147)]) (List.forall_mem_cons.mpr ⟨⟨_, by simp, ax_le_rfl rfl⟩, (List.forall_mem_cons.mpr ⟨⟨_, by simp, ax_le_rfl rfl⟩, (List.forall_mem_cons.mpr ⟨⟨_, by simp, ax_le_rfl rfl⟩, (List.forall_mem_cons.mpr ⟨⟨_, by simp, ax_le_rfl rfl⟩, (fun _ h => absurd h List.not_mem_nil)⟩)⟩)⟩)⟩) ?_
        refine ih z168 (by omega) (by omega) (fun w hw0 k hk e => ?_)
        by_cases ew : (w : Int) = i.toInt
        · have ek : w = i.toInt.toNat := by omega
          have h1 := yz k hk
          rw [yb k hk, ← ek, e, Bool.true_and] at h1
          cases h2 : pR h m.toInt w k with
          | true => rfl
          | false => rw [h2] at h1; cases h1
        · exact hv w (by omega) k hk e
      · have y0 : ¬ (z166.toInt = 0) := fun e => absurd (cc2 (by omega)) (by omega)
        have yn : ∃ k, k < 64 ∧ pb z166 k = true := Classical.byContradiction (fun c => y0 (p_zero.mpr (fun k hk => by
          cases h2 : pb z166 k with
          | false => rfl
          | true => exact absurd ⟨k, hk, h2⟩ c)))
        obtain ⟨k, hk, ek⟩ := yn
        rw [yb k hk] at ek
        obtain ⟨e1, e2⟩ := Bool.and_eq_true_iff.mp ek
        refine AR.iconstT hk_43_34 (by decide) (fun z169 ez169 => ?_)
        show AR _ _ _ _ _ _ _ 35 [(4, .int i), (2, .long m), (1, .ref 12), (0, .ref 147)] [.int z169] h _ _
        exact AR.zret hk_43_35 hr_43 (Or.inl (by omega)) ⟨rfl, _, rfl, Or.inr ⟨by omega, _, k, by omega, hk, e1, by cases h2 : pR h m.toInt i.toInt.toNat k with | false => rfl | true => rw [h2] at e2; cases e2⟩⟩
theorem p_43 (hlst : l.stackTraces = false) {m : Int64} (hH : hy_H 0 h) (hm : -1000000000000 ≤ m.toInt ∧ m.toInt ≤ 1000000000000) (hs : ∀ u, u < 64 → -1000000000000 ≤ hy_z h 14 u ∧ hy_z h 14 u ≤ 1000000000000) : AM ax_ns l (ax_mm 43) 1 ty_R (0) (0) [.ref 147, .ref 12, .long m] h (pq_43 h m.toInt) := by
  refine AM.of (ax_mfacts (by decide +kernel : ax_has 43 = true)).2.2.2.2.2.2 hlst (by rw [hn_43]; exact Nat.le_of_ble_eq_true rfl) ?_
  show AR ax_ns l (ax_mm 43) 1 ty_R _ _ 0 [(0, .ref 147), (1, .ref 12), (2, .long m)] [] h (0) (0)
  refine AR.iconstT hk_43_0 (by decide) (fun z170 ez170 => ?_)
  show AR _ _ _ _ _ _ _ 1 [(0, .ref 147), (1, .ref 12), (2, .long m)] [.int z170] h _ _
  refine AR.s (pc' := 3) (lv' := [(4, .int z170), (0, .ref 147), (1, .ref 12), (2, .long m)]) (st' := []) (h' := h) _ hn_43 hk_43_1 rfl ?_
  refine AR.lessL (lv' := [(4, .int z170), (2, .long m), (1, .ref 12), (0, .ref 147)]) (List.forall_mem_cons.mpr ⟨⟨_, by simp, ax_le_rfl rfl⟩, (List.forall_mem_cons.mpr ⟨⟨_, by simp, ax_le_rfl rfl⟩, (List.forall_mem_cons.mpr ⟨⟨_, by simp, ax_le_rfl rfl⟩, (List.forall_mem_cons.mpr ⟨⟨_, by simp, ax_le_rfl rfl⟩, (fun _ h => absurd h List.not_mem_nil)⟩)⟩)⟩)⟩) ?_
  exact p43_L hlst hH hm hs 64 z170 (by omega) (by omega) (fun w hw0 => absurd hw0 (by omega))
theorem hz_put {h g : ax_H} {q : Nat} {i : Int32} {v : Int64} (E : ∀ q' j', ty_fd g q' j' = if q' = q ∧ j' = i.toNatClampNeg then some (.long v) else ty_fd h q' j') (j : Nat) : hy_z g q j = if j = i.toInt.toNat then v.toInt else hy_z h q j := by
  have hx : i.toNatClampNeg = i.toInt.toNat := rfl
  by_cases e : j = i.toInt.toNat
  · rw [if_pos e]
    exact hy_zl (by rw [E, if_pos ⟨rfl, by rw [hx]; exact e⟩])
  · rw [if_neg e]
    exact hy_ze (by rw [E, if_neg (fun c => e (by rw [← hx]; exact c.2))])
theorem p_sh6 : ∀ n, n < 12 → (1 : Int32) <<< ((Int32.ofNat n - Int32.ofNat n / 6 * 6) &&& 31) = Int32.ofNat (2 ^ (n % 6)) := by decide +kernel
theorem p_of12 {i : Int32} {n : Nat} (h : i.toInt = n) (hn : n < 12) : i = Int32.ofNat n := Int32.toInt_inj.mp (by rw [h]; exact (Int32.toInt_ofNat_of_lt (by omega)).symm)
theorem p_pw : ∀ n, n < 12 → 1 ≤ 2 ^ (n % 6) ∧ 2 ^ (n % 6) ≤ 32 := by decide +kernel
def pq_39 (h : ax_H) (q U : Nat) (a b : Int) : ax_Q := fun res g => res = .inl none ∧ hy_H 0 g ∧ pf [q] h g ∧ (∀ k, k < U → hy_z g q k = hy_z h q k + b ∧ hy_z g q (k + U) = hy_z h q k + a)
theorem p39_13 (hlst : l.stackTraces = false) {X : ax_PX} {a b : Int64} {u : Int32} {U : Nat} (hu : u.toInt = U) (hU : U ≤ 32) (ha : -100000000000 ≤ a.toInt ∧ a.toInt ≤ 100000000000) (hb : -100000000000 ≤ b.toInt ∧ b.toInt ≤ 100000000000) (hs : ∀ k, k < U → -1000000000000 ≤ hy_z h 13 k ∧ hy_z h 13 k ≤ 1000000000000) : ∀ (n : Nat) (g : ax_H) (i : Int32), i.toInt + n = U → 0 ≤ i.toInt → hy_H 0 g → pf [13] h g → (∀ k : Nat, (k : Int) < i.toInt → hy_z g 13 k = hy_z h 13 k + b.toInt ∧ hy_z g 13 (k + U) = hy_z h 13 k + a.toInt) → (∀ k : Nat, i.toInt ≤ k → k < U → hy_z g 13 k = hy_z h 13 k) → AR ax_ns l (ax_mm 39) 0 ty_R (ax_ret ax_ns (ax_mm 39) (pq_39 h 13 U a.toInt b.toInt)) X 30 [(8, .int i), (7, .int u), (6, .ref 13), (4, .long b), (2, .long a)] [] g 0 0 := by
  intro n
  induction n with
  | zero =>
    intro g i hn i0 Hg Pg hv ho
    have Fg : ty_F (2 ^ 45 + 2 ^ 46) g g := ty_F_refl _ _
    show AR _ _ _ _ _ _ _ 30 [(8, .int i), (7, .int u), (6, .ref 13), (4, .long b), (2, .long a)] [] g _ _
    refine AR.s (pc' := 32) (lv' := [(8, .int i), (7, .int u), (6, .ref 13), (4, .long b), (2, .long a)]) (st' := [.int i]) (h' := g) _ hn_39 hk_39_30 rfl ?_
    refine AR.s (pc' := 34) (lv' := [(8, .int i), (7, .int u), (6, .ref 13), (4, .long b), (2, .long a)]) (st' := [.int u, .int i]) (h' := g) _ hn_39 hk_39_32 rfl ?_
    refine AR.jge hk_39_34 (tgt := 68) (by decide) (fun p1 => ?_) (fun p2 => ?_)
    · exact AR.vret hk_39_68 hr_39 ⟨rfl, Hg, Pg, fun k hk => hv k (by omega)⟩
    · exact absurd p2 (by omega)
  | succ n ih =>
    intro g i hn i0 Hg Pg hv ho
    have Fg : ty_F (2 ^ 45 + 2 ^ 46) g g := ty_F_refl _ _
    show AR _ _ _ _ _ _ _ 30 [(8, .int i), (7, .int u), (6, .ref 13), (4, .long b), (2, .long a)] [] g _ _
    refine AR.s (pc' := 32) (lv' := [(8, .int i), (7, .int u), (6, .ref 13), (4, .long b), (2, .long a)]) (st' := [.int i]) (h' := g) _ hn_39 hk_39_30 rfl ?_
    refine AR.s (pc' := 34) (lv' := [(8, .int i), (7, .int u), (6, .ref 13), (4, .long b), (2, .long a)]) (st' := [.int u, .int i]) (h' := g) _ hn_39 hk_39_32 rfl ?_
    refine AR.jge hk_39_34 (tgt := 68) (by decide) (fun p1 => ?_) (fun p2 => ?_)
    · exact absurd p1 (by omega)
    · refine AR.s (pc' := 39) (lv' := [(8, .int i), (7, .int u), (6, .ref 13), (4, .long b), (2, .long a)]) (st' := [.ref 13]) (h' := g) _ hn_39 hk_39_37 rfl ?_
      refine AR.s (pc' := 41) (lv' := [(8, .int i), (7, .int u), (6, .ref 13), (4, .long b), (2, .long a)]) (st' := [.int i, .ref 13]) (h' := g) _ hn_39 hk_39_39 rfl ?_
      refine AR.s (pc' := 43) (lv' := [(8, .int i), (7, .int u), (6, .ref 13), (4, .long b), (2, .long a)]) (st' := [.int u, .int i, .ref 13]) (h' := g) _ hn_39 hk_39_41 rfl ?_
      refine AR.addT hk_39_43 (by omega) (by omega) (fun z171 ez171 => ?_)
      show AR _ _ _ _ _ _ _ 44 [(8, .int i), (7, .int u), (6, .ref 13), (4, .long b), (2, .long a)] [.int z171, .ref 13] g _ _
      refine AR.s (pc' := 46) (lv' := [(8, .int i), (7, .int u), (6, .ref 13), (4, .long b), (2, .long a)]) (st' := [.ref 13, .int z171, .ref 13]) (h' := g) _ hn_39 hk_39_44 rfl ?_
      refine AR.s (pc' := 48) (lv' := [(8, .int i), (7, .int u), (6, .ref 13), (4, .long b), (2, .long a)]) (st' := [.int i, .ref 13, .int z171, .ref 13]) (h' := g) _ hn_39 hk_39_46 rfl ?_
      refine AR.laI hk_39_48 Hg (q := 13) (n := 64) (by decide) (by decide +kernel) (by decide +kernel) (by decide +kernel) hy_t13_0 (by omega) (by omega) (fun x172 dx172 lx172 ux172 => ?_)
      show AR _ _ _ _ _ _ _ 49 [(8, .int i), (7, .int u), (6, .ref 13), (4, .long b), (2, .long a)] [.long x172, .int z171, .ref 13] g _ _
      have xk : i.toNatClampNeg = i.toInt.toNat := rfl
      rw [xk] at dx172
      have xe := hy_zl dx172
      have ho1 := ho i.toInt.toNat (by omega) (by omega)
      have hs1 := hs i.toInt.toNat (by omega)
      show AR _ _ _ _ _ _ _ 49 [(8, .int i), (7, .int u), (6, .ref 13), (4, .long b), (2, .long a)] [.long x172, .int z171, .ref 13] g _ _
      refine AR.s (pc' := 50) (lv' := [(8, .int i), (7, .int u), (6, .ref 13), (4, .long b), (2, .long a)]) (st' := [.long a, .long x172, .int z171, .ref 13]) (h' := g) _ hn_39 hk_39_49 rfl ?_
      refine AR.laddT hk_39_50 (by omega) (by omega) (fun z173 ez173 => ?_)
      show AR _ _ _ _ _ _ _ 51 [(8, .int i), (7, .int u), (6, .ref 13), (4, .long b), (2, .long a)] [.long z173, .int z171, .ref 13] g _ _
      have r174a := Int64.le_toInt z173
      have r174b := Int64.toInt_lt z173
      refine AR.lsT hk_39_51 Hg Fg (q := 13) (n := 64) (by decide) (by decide +kernel) (by decide +kernel) (by decide +kernel) hy_t13_0 (by omega) (by omega) (by omega) (by omega) (by decide +kernel) ?_
      rintro g175 ⟨Hg175, Fg175, Gg175, Eg175⟩
      show AR _ _ _ _ _ _ _ 52 [(8, .int i), (7, .int u), (6, .ref 13), (4, .long b), (2, .long a)] [] g175 _ _
      have pg175 : pf [13] h g175 := pf_st Pg Gg175.1 Eg175 (by simp)
      have y1 := hz_put Eg175
      have y1i := y1 i.toInt.toNat
      rw [if_neg (by omega)] at y1i
      show AR _ _ _ _ _ _ _ 52 [(8, .int i), (7, .int u), (6, .ref 13), (4, .long b), (2, .long a)] [] g175 _ _
      refine AR.s (pc' := 54) (lv' := [(8, .int i), (7, .int u), (6, .ref 13), (4, .long b), (2, .long a)]) (st' := [.ref 13]) (h' := g175) _ hn_39 hk_39_52 rfl ?_
      refine AR.s (pc' := 56) (lv' := [(8, .int i), (7, .int u), (6, .ref 13), (4, .long b), (2, .long a)]) (st' := [.int i, .ref 13]) (h' := g175) _ hn_39 hk_39_54 rfl ?_
      refine AR.dup2 (ax_look_ok hk_39_56).1 rfl rfl ?_
      show AR _ _ _ _ _ _ _ 57 [(8, .int i), (7, .int u), (6, .ref 13), (4, .long b), (2, .long a)] [.int i, .ref 13, .int i, .ref 13] g175 _ _
      refine AR.laI hk_39_57 Hg175 (q := 13) (n := 64) (by decide) (by decide +kernel) (by decide +kernel) (by decide +kernel) hy_t13_0 (by omega) (by omega) (fun x176 dx176 lx176 ux176 => ?_)
      show AR _ _ _ _ _ _ _ 58 [(8, .int i), (7, .int u), (6, .ref 13), (4, .long b), (2, .long a)] [.long x176, .int i, .ref 13] g175 _ _
      rw [xk] at dx176
      have xe2 := hy_zl dx176
      show AR _ _ _ _ _ _ _ 58 [(8, .int i), (7, .int u), (6, .ref 13), (4, .long b), (2, .long a)] [.long x176, .int i, .ref 13] g175 _ _
      refine AR.s (pc' := 60) (lv' := [(8, .int i), (7, .int u), (6, .ref 13), (4, .long b), (2, .long a)]) (st' := [.long b, .long x176, .int i, .ref 13]) (h' := g175) _ hn_39 hk_39_58 rfl ?_
      refine AR.laddT hk_39_60 (by omega) (by omega) (fun z177 ez177 => ?_)
      show AR _ _ _ _ _ _ _ 61 [(8, .int i), (7, .int u), (6, .ref 13), (4, .long b), (2, .long a)] [.long z177, .int i, .ref 13] g175 _ _
      have r178a := Int64.le_toInt z177
      have r178b := Int64.toInt_lt z177
      refine AR.lsT hk_39_61 Hg175 Fg175 (q := 13) (n := 64) (by decide) (by decide +kernel) (by decide +kernel) (by decide +kernel) hy_t13_0 (by omega) (by omega) (by omega) (by omega) (by decide +kernel) ?_
      rintro g179 ⟨Hg179, Fg179, Gg179, Eg179⟩
      show AR _ _ _ _ _ _ _ 62 [(8, .int i), (7, .int u), (6, .ref 13), (4, .long b), (2, .long a)] [] g179 _ _
      have pg179 : pf [13] h g179 := pf_st pg175 Gg179.1 Eg179 (by simp)
      have y2 := hz_put Eg179
      refine AR.iincT hk_39_62 (x := i) rfl (by rw [hn_39]; decide) (by decide) (by omega) (by omega) (fun z180 ez180 => ?_)
      show AR _ _ _ _ _ _ _ 65 [(8, .int z180), (7, .int u), (6, .ref 13), (4, .long b), (2, .long a)] [] g179 _ _
      refine AR.gotoT hk_39_65 (tgt := 30) (by decide) ?_
      refine AR.lessL (lv' := [(8, .int z180), (7, .int u), (6, .ref 13), (4, .long b), (2, .long a)]) (List.forall_mem_cons.mpr ⟨⟨_, by simp, ax_le_rfl rfl⟩, (List.forall_mem_cons.mpr ⟨⟨_, by simp, ax_le_rfl rfl⟩, (List.forall_mem_cons.mpr ⟨⟨_, by simp, ax_le_rfl rfl⟩, (List.forall_mem_cons.mpr ⟨⟨_, by simp, ax_le_rfl rfl⟩, (List.forall_mem_cons.mpr ⟨⟨_, by simp, ax_le_rfl rfl⟩, (fun _ h => absurd h List.not_mem_nil)⟩)⟩)⟩)⟩)⟩) ?_
      refine ih g179 z180 (by omega) (by omega) Hg179 pg179 (fun k hk => ?_) (fun k hk hk2 => ?_)
      · by_cases e : (k : Int) = i.toInt
        · have ek : k = i.toInt.toNat := by omega
          subst ek
          refine ⟨?_, ?_⟩
          · rw [y2, if_pos rfl]; omega
          · rw [y2, if_neg (by omega), y1, if_pos (by omega)]; omega
        · have hv1 := hv k (by omega)
          refine ⟨?_, ?_⟩
          · rw [y2, if_neg (by omega), y1, if_neg (by omega)]; exact hv1.1
          · rw [y2, if_neg (by omega), y1, if_neg (by omega)]; exact hv1.2
      · rw [y2, if_neg (by omega), y1, if_neg (by omega)]; exact ho k (by omega) hk2
theorem p39_14 (hlst : l.stackTraces = false) {X : ax_PX} {a b : Int64} {u : Int32} {U : Nat} (hu : u.toInt = U) (hU : U ≤ 32) (ha : -100000000000 ≤ a.toInt ∧ a.toInt ≤ 100000000000) (hb : -100000000000 ≤ b.toInt ∧ b.toInt ≤ 100000000000) (hs : ∀ k, k < U → -1000000000000 ≤ hy_z h 14 k ∧ hy_z h 14 k ≤ 1000000000000) : ∀ (n : Nat) (g : ax_H) (i : Int32), i.toInt + n = U → 0 ≤ i.toInt → hy_H 0 g → pf [14] h g → (∀ k : Nat, (k : Int) < i.toInt → hy_z g 14 k = hy_z h 14 k + b.toInt ∧ hy_z g 14 (k + U) = hy_z h 14 k + a.toInt) → (∀ k : Nat, i.toInt ≤ k → k < U → hy_z g 14 k = hy_z h 14 k) → AR ax_ns l (ax_mm 39) 0 ty_R (ax_ret ax_ns (ax_mm 39) (pq_39 h 14 U a.toInt b.toInt)) X 30 [(8, .int i), (7, .int u), (6, .ref 14), (4, .long b), (2, .long a)] [] g 0 0 := by
  intro n
  induction n with
  | zero =>
    intro g i hn i0 Hg Pg hv ho
    have Fg : ty_F (2 ^ 45 + 2 ^ 46) g g := ty_F_refl _ _
    show AR _ _ _ _ _ _ _ 30 [(8, .int i), (7, .int u), (6, .ref 14), (4, .long b), (2, .long a)] [] g _ _
    refine AR.s (pc' := 32) (lv' := [(8, .int i), (7, .int u), (6, .ref 14), (4, .long b), (2, .long a)]) (st' := [.int i]) (h' := g) _ hn_39 hk_39_30 rfl ?_
    refine AR.s (pc' := 34) (lv' := [(8, .int i), (7, .int u), (6, .ref 14), (4, .long b), (2, .long a)]) (st' := [.int u, .int i]) (h' := g) _ hn_39 hk_39_32 rfl ?_
    refine AR.jge hk_39_34 (tgt := 68) (by decide) (fun p1 => ?_) (fun p2 => ?_)
    · exact AR.vret hk_39_68 hr_39 ⟨rfl, Hg, Pg, fun k hk => hv k (by omega)⟩
    · exact absurd p2 (by omega)
  | succ n ih =>
    intro g i hn i0 Hg Pg hv ho
    have Fg : ty_F (2 ^ 45 + 2 ^ 46) g g := ty_F_refl _ _
    show AR _ _ _ _ _ _ _ 30 [(8, .int i), (7, .int u), (6, .ref 14), (4, .long b), (2, .long a)] [] g _ _
    refine AR.s (pc' := 32) (lv' := [(8, .int i), (7, .int u), (6, .ref 14), (4, .long b), (2, .long a)]) (st' := [.int i]) (h' := g) _ hn_39 hk_39_30 rfl ?_
    refine AR.s (pc' := 34) (lv' := [(8, .int i), (7, .int u), (6, .ref 14), (4, .long b), (2, .long a)]) (st' := [.int u, .int i]) (h' := g) _ hn_39 hk_39_32 rfl ?_
    refine AR.jge hk_39_34 (tgt := 68) (by decide) (fun p1 => ?_) (fun p2 => ?_)
    · exact absurd p1 (by omega)
    · refine AR.s (pc' := 39) (lv' := [(8, .int i), (7, .int u), (6, .ref 14), (4, .long b), (2, .long a)]) (st' := [.ref 14]) (h' := g) _ hn_39 hk_39_37 rfl ?_
      refine AR.s (pc' := 41) (lv' := [(8, .int i), (7, .int u), (6, .ref 14), (4, .long b), (2, .long a)]) (st' := [.int i, .ref 14]) (h' := g) _ hn_39 hk_39_39 rfl ?_
      refine AR.s (pc' := 43) (lv' := [(8, .int i), (7, .int u), (6, .ref 14), (4, .long b), (2, .long a)]) (st' := [.int u, .int i, .ref 14]) (h' := g) _ hn_39 hk_39_41 rfl ?_
      refine AR.addT hk_39_43 (by omega) (by omega) (fun z181 ez181 => ?_)
      show AR _ _ _ _ _ _ _ 44 [(8, .int i), (7, .int u), (6, .ref 14), (4, .long b), (2, .long a)] [.int z181, .ref 14] g _ _
      refine AR.s (pc' := 46) (lv' := [(8, .int i), (7, .int u), (6, .ref 14), (4, .long b), (2, .long a)]) (st' := [.ref 14, .int z181, .ref 14]) (h' := g) _ hn_39 hk_39_44 rfl ?_
      refine AR.s (pc' := 48) (lv' := [(8, .int i), (7, .int u), (6, .ref 14), (4, .long b), (2, .long a)]) (st' := [.int i, .ref 14, .int z181, .ref 14]) (h' := g) _ hn_39 hk_39_46 rfl ?_
      refine AR.laI hk_39_48 Hg (q := 14) (n := 64) (by decide) (by decide +kernel) (by decide +kernel) (by decide +kernel) hy_t14_0 (by omega) (by omega) (fun x182 dx182 lx182 ux182 => ?_)
      show AR _ _ _ _ _ _ _ 49 [(8, .int i), (7, .int u), (6, .ref 14), (4, .long b), (2, .long a)] [.long x182, .int z181, .ref 14] g _ _
      have xk : i.toNatClampNeg = i.toInt.toNat := rfl
      rw [xk] at dx182
      have xe := hy_zl dx182
      have ho1 := ho i.toInt.toNat (by omega) (by omega)
      have hs1 := hs i.toInt.toNat (by omega)
      show AR _ _ _ _ _ _ _ 49 [(8, .int i), (7, .int u), (6, .ref 14), (4, .long b), (2, .long a)] [.long x182, .int z181, .ref 14] g _ _
      refine AR.s (pc' := 50) (lv' := [(8, .int i), (7, .int u), (6, .ref 14), (4, .long b), (2, .long a)]) (st' := [.long a, .long x182, .int z181, .ref 14]) (h' := g) _ hn_39 hk_39_49 rfl ?_
      refine AR.laddT hk_39_50 (by omega) (by omega) (fun z183 ez183 => ?_)
      show AR _ _ _ _ _ _ _ 51 [(8, .int i), (7, .int u), (6, .ref 14), (4, .long b), (2, .long a)] [.long z183, .int z181, .ref 14] g _ _
      have r184a := Int64.le_toInt z183
      have r184b := Int64.toInt_lt z183
      refine AR.lsT hk_39_51 Hg Fg (q := 14) (n := 64) (by decide) (by decide +kernel) (by decide +kernel) (by decide +kernel) hy_t14_0 (by omega) (by omega) (by omega) (by omega) (by decide +kernel) ?_
      rintro g185 ⟨Hg185, Fg185, Gg185, Eg185⟩
      show AR _ _ _ _ _ _ _ 52 [(8, .int i), (7, .int u), (6, .ref 14), (4, .long b), (2, .long a)] [] g185 _ _
      have pg185 : pf [14] h g185 := pf_st Pg Gg185.1 Eg185 (by simp)
      have y1 := hz_put Eg185
      have y1i := y1 i.toInt.toNat
      rw [if_neg (by omega)] at y1i
      show AR _ _ _ _ _ _ _ 52 [(8, .int i), (7, .int u), (6, .ref 14), (4, .long b), (2, .long a)] [] g185 _ _
      refine AR.s (pc' := 54) (lv' := [(8, .int i), (7, .int u), (6, .ref 14), (4, .long b), (2, .long a)]) (st' := [.ref 14]) (h' := g185) _ hn_39 hk_39_52 rfl ?_
      refine AR.s (pc' := 56) (lv' := [(8, .int i), (7, .int u), (6, .ref 14), (4, .long b), (2, .long a)]) (st' := [.int i, .ref 14]) (h' := g185) _ hn_39 hk_39_54 rfl ?_
      refine AR.dup2 (ax_look_ok hk_39_56).1 rfl rfl ?_
      show AR _ _ _ _ _ _ _ 57 [(8, .int i), (7, .int u), (6, .ref 14), (4, .long b), (2, .long a)] [.int i, .ref 14, .int i, .ref 14] g185 _ _
      refine AR.laI hk_39_57 Hg185 (q := 14) (n := 64) (by decide) (by decide +kernel) (by decide +kernel) (by decide +kernel) hy_t14_0 (by omega) (by omega) (fun x186 dx186 lx186 ux186 => ?_)
      show AR _ _ _ _ _ _ _ 58 [(8, .int i), (7, .int u), (6, .ref 14), (4, .long b), (2, .long a)] [.long x186, .int i, .ref 14] g185 _ _
      rw [xk] at dx186
      have xe2 := hy_zl dx186
      show AR _ _ _ _ _ _ _ 58 [(8, .int i), (7, .int u), (6, .ref 14), (4, .long b), (2, .long a)] [.long x186, .int i, .ref 14] g185 _ _
      refine AR.s (pc' := 60) (lv' := [(8, .int i), (7, .int u), (6, .ref 14), (4, .long b), (2, .long a)]) (st' := [.long b, .long x186, .int i, .ref 14]) (h' := g185) _ hn_39 hk_39_58 rfl ?_
      refine AR.laddT hk_39_60 (by omega) (by omega) (fun z187 ez187 => ?_)
      show AR _ _ _ _ _ _ _ 61 [(8, .int i), (7, .int u), (6, .ref 14), (4, .long b), (2, .long a)] [.long z187, .int i, .ref 14] g185 _ _
      have r188a := Int64.le_toInt z187
      have r188b := Int64.toInt_lt z187
      refine AR.lsT hk_39_61 Hg185 Fg185 (q := 14) (n := 64) (by decide) (by decide +kernel) (by decide +kernel) (by decide +kernel) hy_t14_0 (by omega) (by omega) (by omega) (by omega) (by decide +kernel) ?_
      rintro g189 ⟨Hg189, Fg189, Gg189, Eg189⟩
      show AR _ _ _ _ _ _ _ 62 [(8, .int i), (7, .int u), (6, .ref 14), (4, .long b), (2, .long a)] [] g189 _ _
      have pg189 : pf [14] h g189 := pf_st pg185 Gg189.1 Eg189 (by simp)
      have y2 := hz_put Eg189
      refine AR.iincT hk_39_62 (x := i) rfl (by rw [hn_39]; decide) (by decide) (by omega) (by omega) (fun z190 ez190 => ?_)
      show AR _ _ _ _ _ _ _ 65 [(8, .int z190), (7, .int u), (6, .ref 14), (4, .long b), (2, .long a)] [] g189 _ _
      refine AR.gotoT hk_39_65 (tgt := 30) (by decide) ?_
      refine AR.lessL (lv' := [(8, .int z190), (7, .int u), (6, .ref 14), (4, .long b), (2, .long a)]) (List.forall_mem_cons.mpr ⟨⟨_, by simp, ax_le_rfl rfl⟩, (List.forall_mem_cons.mpr ⟨⟨_, by simp, ax_le_rfl rfl⟩, (List.forall_mem_cons.mpr ⟨⟨_, by simp, ax_le_rfl rfl⟩, (List.forall_mem_cons.mpr ⟨⟨_, by simp, ax_le_rfl rfl⟩, (List.forall_mem_cons.mpr ⟨⟨_, by simp, ax_le_rfl rfl⟩, (fun _ h => absurd h List.not_mem_nil)⟩)⟩)⟩)⟩)⟩) ?_
      refine ih g189 z190 (by omega) (by omega) Hg189 pg189 (fun k hk => ?_) (fun k hk hk2 => ?_)
      · by_cases e : (k : Int) = i.toInt
        · have ek : k = i.toInt.toNat := by omega
          subst ek
          refine ⟨?_, ?_⟩
          · rw [y2, if_pos rfl]; omega
          · rw [y2, if_neg (by omega), y1, if_pos (by omega)]; omega
        · have hv1 := hv k (by omega)
          refine ⟨?_, ?_⟩
          · rw [y2, if_neg (by omega), y1, if_neg (by omega)]; exact hv1.1
          · rw [y2, if_neg (by omega), y1, if_neg (by omega)]; exact hv1.2
      · rw [y2, if_neg (by omega), y1, if_neg (by omega)]; exact ho k (by omega) hk2
theorem p_39_13 (hlst : l.stackTraces = false) {a b : Int64} {n : Nat} (hH : hy_H 0 h) (hx : x.toInt = n) (n1 : 0 ≤ n) (n2 : n < 6) (ha : -100000000000 ≤ a.toInt ∧ a.toInt ≤ 100000000000) (hb : -100000000000 ≤ b.toInt ∧ b.toInt ≤ 100000000000) (hs : ∀ k, k < 2 ^ (n % 6) → -1000000000000 ≤ hy_z h 13 k ∧ hy_z h 13 k ≤ 1000000000000) : AM ax_ns l (ax_mm 39) 0 ty_R (0) (0) [.ref 12, .int x, .long a, .long b] h (pq_39 h 13 (2 ^ (n % 6)) a.toInt b.toInt) := by
  refine AM.of (ax_mfacts (by decide +kernel : ax_has 39 = true)).2.2.2.2.2.2 hlst (by rw [hn_39]; exact Nat.le_of_ble_eq_true rfl) ?_
  show AR ax_ns l (ax_mm 39) 0 ty_R _ _ 0 [(0, .ref 12), (1, .int x), (2, .long a), (4, .long b)] [] h (0) (0)
  refine AR.s (pc' := 1) (lv' := [(0, .ref 12), (1, .int x), (2, .long a), (4, .long b)]) (st' := [.int x]) (h' := h) _ hn_39 hk_39_0 rfl ?_
  refine AR.bipushT hk_39_1 (by decide) (fun z191 ez191 => ?_)
  show AR _ _ _ _ _ _ _ 3 [(0, .ref 12), (1, .int x), (2, .long a), (4, .long b)] [.int z191, .int x] h _ _
  refine AR.jge hk_39_3 (tgt := 13) (by decide) (fun p1 => ?_) (fun p2 => ?_)
  · exact absurd p1 (by omega)
  · refine AR.s (pc' := 7) (lv' := [(0, .ref 12), (1, .int x), (2, .long a), (4, .long b)]) (st' := [.ref 12]) (h' := h) _ hn_39 hk_39_6 rfl ?_
    refine AR.gR hk_39_7 (by decide) hH (q := 12) (n := 2) (by decide) (by decide +kernel) (by decide +kernel) (by decide) hy_t12_0 ?_
    show AR _ _ _ _ _ _ _ 10 [(0, .ref 12), (1, .int x), (2, .long a), (4, .long b)] [.ref 13] h _ _
    refine AR.gotoT hk_39_10 (tgt := 17) (by decide) ?_
    refine AR.s (pc' := 19) (lv' := [(6, .ref 13), (0, .ref 12), (1, .int x), (2, .long a), (4, .long b)]) (st' := []) (h' := h) _ hn_39 hk_39_17 rfl ?_
    refine AR.iconstT hk_39_19 (by decide) (fun z192 ez192 => ?_)
    show AR _ _ _ _ _ _ _ 20 [(6, .ref 13), (0, .ref 12), (1, .int x), (2, .long a), (4, .long b)] [.int z192] h _ _
    refine AR.s (pc' := 21) (lv' := [(6, .ref 13), (0, .ref 12), (1, .int x), (2, .long a), (4, .long b)]) (st' := [.int x, .int z192]) (h' := h) _ hn_39 hk_39_20 rfl ?_
    refine AR.bipushT hk_39_21 (by decide) (fun z193 ez193 => ?_)
    show AR _ _ _ _ _ _ _ 23 [(6, .ref 13), (0, .ref 12), (1, .int x), (2, .long a), (4, .long b)] [.int z193, .int x, .int z192] h _ _
    have z6 : z193 = 6 := Int32.toInt_inj.mp (by rw [ez193]; rfl)
    rw [z6]
    refine AR.irem (z := .int (x - x / 6 * 6)) (ax_look_ok hk_39_23).1 rfl ?_
    show AR _ _ _ _ _ _ _ 24 [(6, .ref 13), (0, .ref 12), (1, .int x), (2, .long a), (4, .long b)] [.int (x - x / 6 * 6), .int z192] h _ _
    have z1 : z192 = 1 := Int32.toInt_inj.mp (by rw [ez192]; rfl)
    rw [z1]
    refine AR.ishl (z := .int ((1 : Int32) <<< ((x - x / 6 * 6) &&& 31))) (ax_look_ok hk_39_24).1 rfl ?_
    rw [show (1 : Int32) <<< ((x - x / 6 * 6) &&& 31) = Int32.ofNat (2 ^ (n % 6)) from by rw [p_of12 hx (by omega)]; exact p_sh6 n (by omega)]
    have pw := p_pw n (by omega)
    have uu : (Int32.ofNat (2 ^ (n % 6))).toInt = ((2 ^ (n % 6) : Nat) : Int) := Int32.toInt_ofNat_of_lt (by omega)
    generalize Int32.ofNat (2 ^ (n % 6)) = u at uu
    generalize 2 ^ (n % 6) = U at uu pw hs
    show AR _ _ _ _ _ _ _ 25 [(6, .ref 13), (0, .ref 12), (1, .int x), (2, .long a), (4, .long b)] [.int u] h _ _
    refine AR.s (pc' := 27) (lv' := [(7, .int u), (6, .ref 13), (0, .ref 12), (1, .int x), (2, .long a), (4, .long b)]) (st' := []) (h' := h) _ hn_39 hk_39_25 rfl ?_
    refine AR.iconstT hk_39_27 (by decide) (fun z194 ez194 => ?_)
    show AR _ _ _ _ _ _ _ 28 [(7, .int u), (6, .ref 13), (0, .ref 12), (1, .int x), (2, .long a), (4, .long b)] [.int z194] h _ _
    refine AR.s (pc' := 30) (lv' := [(8, .int z194), (7, .int u), (6, .ref 13), (0, .ref 12), (1, .int x), (2, .long a), (4, .long b)]) (st' := []) (h' := h) _ hn_39 hk_39_28 rfl ?_
    refine AR.lessL (lv' := [(8, .int z194), (7, .int u), (6, .ref 13), (4, .long b), (2, .long a)]) (List.forall_mem_cons.mpr ⟨⟨_, by simp, ax_le_rfl rfl⟩, (List.forall_mem_cons.mpr ⟨⟨_, by simp, ax_le_rfl rfl⟩, (List.forall_mem_cons.mpr ⟨⟨_, by simp, ax_le_rfl rfl⟩, (List.forall_mem_cons.mpr ⟨⟨_, by simp, ax_le_rfl rfl⟩, (List.forall_mem_cons.mpr ⟨⟨_, by simp, ax_le_rfl rfl⟩, (fun _ h => absurd h List.not_mem_nil)⟩)⟩)⟩)⟩)⟩) ?_
    exact p39_13 hlst uu pw.2 ha hb hs U h z194 (by omega) (by omega) hH (pf_r _ _) (fun k hk => absurd hk (by omega)) (fun k _ _ => rfl)
theorem p_39_14 (hlst : l.stackTraces = false) {a b : Int64} {n : Nat} (hH : hy_H 0 h) (hx : x.toInt = n) (n1 : 6 ≤ n) (n2 : n < 12) (ha : -100000000000 ≤ a.toInt ∧ a.toInt ≤ 100000000000) (hb : -100000000000 ≤ b.toInt ∧ b.toInt ≤ 100000000000) (hs : ∀ k, k < 2 ^ (n % 6) → -1000000000000 ≤ hy_z h 14 k ∧ hy_z h 14 k ≤ 1000000000000) : AM ax_ns l (ax_mm 39) 0 ty_R (0) (0) [.ref 12, .int x, .long a, .long b] h (pq_39 h 14 (2 ^ (n % 6)) a.toInt b.toInt) := by
  refine AM.of (ax_mfacts (by decide +kernel : ax_has 39 = true)).2.2.2.2.2.2 hlst (by rw [hn_39]; exact Nat.le_of_ble_eq_true rfl) ?_
  show AR ax_ns l (ax_mm 39) 0 ty_R _ _ 0 [(0, .ref 12), (1, .int x), (2, .long a), (4, .long b)] [] h (0) (0)
  refine AR.s (pc' := 1) (lv' := [(0, .ref 12), (1, .int x), (2, .long a), (4, .long b)]) (st' := [.int x]) (h' := h) _ hn_39 hk_39_0 rfl ?_
  refine AR.bipushT hk_39_1 (by decide) (fun z195 ez195 => ?_)
  show AR _ _ _ _ _ _ _ 3 [(0, .ref 12), (1, .int x), (2, .long a), (4, .long b)] [.int z195, .int x] h _ _
  refine AR.jge hk_39_3 (tgt := 13) (by decide) (fun p1 => ?_) (fun p2 => ?_)
  · refine AR.s (pc' := 14) (lv' := [(0, .ref 12), (1, .int x), (2, .long a), (4, .long b)]) (st' := [.ref 12]) (h' := h) _ hn_39 hk_39_13 rfl ?_
    refine AR.gR hk_39_14 (by decide) hH (q := 12) (n := 2) (by decide) (by decide +kernel) (by decide +kernel) (by decide) hy_t12_1 ?_
    show AR _ _ _ _ _ _ _ 17 [(0, .ref 12), (1, .int x), (2, .long a), (4, .long b)] [.ref 14] h _ _
    refine AR.s (pc' := 19) (lv' := [(6, .ref 14), (0, .ref 12), (1, .int x), (2, .long a), (4, .long b)]) (st' := []) (h' := h) _ hn_39 hk_39_17 rfl ?_
    refine AR.iconstT hk_39_19 (by decide) (fun z196 ez196 => ?_)
    show AR _ _ _ _ _ _ _ 20 [(6, .ref 14), (0, .ref 12), (1, .int x), (2, .long a), (4, .long b)] [.int z196] h _ _
    refine AR.s (pc' := 21) (lv' := [(6, .ref 14), (0, .ref 12), (1, .int x), (2, .long a), (4, .long b)]) (st' := [.int x, .int z196]) (h' := h) _ hn_39 hk_39_20 rfl ?_
    refine AR.bipushT hk_39_21 (by decide) (fun z197 ez197 => ?_)
    show AR _ _ _ _ _ _ _ 23 [(6, .ref 14), (0, .ref 12), (1, .int x), (2, .long a), (4, .long b)] [.int z197, .int x, .int z196] h _ _
    have z6 : z197 = 6 := Int32.toInt_inj.mp (by rw [ez197]; rfl)
    rw [z6]
    refine AR.irem (z := .int (x - x / 6 * 6)) (ax_look_ok hk_39_23).1 rfl ?_
    show AR _ _ _ _ _ _ _ 24 [(6, .ref 14), (0, .ref 12), (1, .int x), (2, .long a), (4, .long b)] [.int (x - x / 6 * 6), .int z196] h _ _
    have z1 : z196 = 1 := Int32.toInt_inj.mp (by rw [ez196]; rfl)
    rw [z1]
    refine AR.ishl (z := .int ((1 : Int32) <<< ((x - x / 6 * 6) &&& 31))) (ax_look_ok hk_39_24).1 rfl ?_
    rw [show (1 : Int32) <<< ((x - x / 6 * 6) &&& 31) = Int32.ofNat (2 ^ (n % 6)) from by rw [p_of12 hx (by omega)]; exact p_sh6 n (by omega)]
    have pw := p_pw n (by omega)
    have uu : (Int32.ofNat (2 ^ (n % 6))).toInt = ((2 ^ (n % 6) : Nat) : Int) := Int32.toInt_ofNat_of_lt (by omega)
    generalize Int32.ofNat (2 ^ (n % 6)) = u at uu
    generalize 2 ^ (n % 6) = U at uu pw hs
    show AR _ _ _ _ _ _ _ 25 [(6, .ref 14), (0, .ref 12), (1, .int x), (2, .long a), (4, .long b)] [.int u] h _ _
    refine AR.s (pc' := 27) (lv' := [(7, .int u), (6, .ref 14), (0, .ref 12), (1, .int x), (2, .long a), (4, .long b)]) (st' := []) (h' := h) _ hn_39 hk_39_25 rfl ?_
    refine AR.iconstT hk_39_27 (by decide) (fun z198 ez198 => ?_)
    show AR _ _ _ _ _ _ _ 28 [(7, .int u), (6, .ref 14), (0, .ref 12), (1, .int x), (2, .long a), (4, .long b)] [.int z198] h _ _
    refine AR.s (pc' := 30) (lv' := [(8, .int z198), (7, .int u), (6, .ref 14), (0, .ref 12), (1, .int x), (2, .long a), (4, .long b)]) (st' := []) (h' := h) _ hn_39 hk_39_28 rfl ?_
    refine AR.lessL (lv' := [(8, .int z198), (7, .int u), (6, .ref 14), (4, .long b), (2, .long a)]) (List.forall_mem_cons.mpr ⟨⟨_, by simp, ax_le_rfl rfl⟩, (List.forall_mem_cons.mpr ⟨⟨_, by simp, ax_le_rfl rfl⟩, (List.forall_mem_cons.mpr ⟨⟨_, by simp, ax_le_rfl rfl⟩, (List.forall_mem_cons.mpr ⟨⟨_, by simp, ax_le_rfl rfl⟩, (List.forall_mem_cons.mpr ⟨⟨_, by simp, ax_le_rfl rfl⟩, (fun _ h => absurd h List.not_mem_nil)⟩)⟩)⟩)⟩)⟩) ?_
    exact p39_14 hlst uu pw.2 ha hb hs U h z198 (by omega) (by omega) hH (pf_r _ _) (fun k hk => absurd hk (by omega)) (fun k _ _ => rfl)
  · exact absurd p2 (by omega)
def pW : Nat := 340282366920938463463374607431768211455
def pc_ok (p : Nat) : Prop := 10 ≤ p ∧ p + 1 < 181 ∧ (ty_tab p).1 = 1 ∧ (ty_tab p).2.1 = 3 ∧ ty_tt p 0 = (2, p + 1, 0, 0, 0) ∧ ty_tt p 1 = (0, 0, 0, (-2147483648), 2147483647) ∧ ty_tt p 2 = (1, 0, 0, (-9223372036854775808), 9223372036854775807) ∧ (ty_tab (p + 1)).1 = 100 ∧ ty_ar (p + 1) = true ∧ (ty_tab (p + 1)).2.1 = 24 ∧ ty_tt (p + 1) 0 = (0, 0, 0, (-2147483648), 2147483647) ∧ ty_ar p = false ∧ ty_wr pW p 1 = true ∧ ty_wr pW p 2 = true ∧ ty_wr pW (p + 1) 0 = true
theorem AR.lm1T {i d pc : Nat} {P : ax_P} {X : ax_PX} {lv : List (Nat × Value)} {st : List Value} {bc bs : Nat} {v : Value} {ws : List Nat} {w : Nat × Nat × Nat} {x y : Int64} (hl : ax_look i pc = some (.lmul, w, v, ws)) (hy : y.toInt = 1) (k : ∀ z : Int64, z.toInt = x.toInt → AR ax_ns l (ax_mm i) d ty_R P X (pc + 1) lv (.long z :: st) h bc bs) : AR ax_ns l (ax_mm i) d ty_R P X pc lv (.long y :: .long x :: st) h bc bs :=
  AR.lmul (z := .long (x * y)) (ax_look_ok hl).1 rfl (k _ (by have h1 := Int64.le_toInt x; have h2 := Int64.toInt_lt x; rw [Int64.toInt_mul, hy, Int.mul_one]; exact t_bm (by omega) (by omega)))
def pq_22 (h : ax_H) (p : Nat) : ax_Q := fun res g => res = .inl none ∧ hy_H 0 g ∧ pf [8, 9] h g ∧ hy_z g 8 1 = hy_z h 8 1 + hy_z h p 1 ∧ ∀ k, k < 24 → hy_z g 9 k = hy_z h 9 k + hy_z h (p + 1) k
theorem p22_L (hlst : l.stackTraces = false) {X : ax_PX} {m : Int64} {p : Nat} (PC : pc_ok p) (m1 : m.toInt = 1) (h9 : ∀ k, k < 24 → -1000000000000 ≤ hy_z h 9 k ∧ hy_z h 9 k ≤ 1000000000000) (h8 : -1000000000000 ≤ hy_z h 8 1 ∧ hy_z h 8 1 ≤ 1000000000000) : ∀ (n : Nat) (g : ax_H) (i : Int32), i.toInt + n = 24 → 0 ≤ i.toInt → hy_H 0 g → pf [8, 9] h g → hy_z g 8 1 = hy_z h 8 1 → (∀ k : Nat, (k : Int) < i.toInt → hy_z g 9 k = hy_z h 9 k + hy_z h (p + 1) k) → (∀ k : Nat, i.toInt ≤ k → k < 24 → hy_z g 9 k = hy_z h 9 k) → AR ax_ns l (ax_mm 22) 0 ty_R (ax_ret ax_ns (ax_mm 22) (pq_22 h p)) X 3 [(4, .int i), (2, .long m), (1, .ref p), (0, .ref 8)] [] g 0 0 := by
  intro n
  induction n with
  | zero =>
    intro g i hn i0 Hg Pg hd hv ho
    have Fg : ty_F 412316860416 g g := ty_F_refl _ _
    show AR _ _ _ _ _ _ _ 3 [(4, .int i), (2, .long m), (1, .ref p), (0, .ref 8)] [] g _ _
    refine AR.s (pc' := 5) (lv' := [(4, .int i), (2, .long m), (1, .ref p), (0, .ref 8)]) (st' := [.int i]) (h' := g) _ hn_22 hk_22_3 rfl ?_
    refine AR.bipushT hk_22_5 (by decide) (fun z199 ez199 => ?_)
    show AR _ _ _ _ _ _ _ 7 [(4, .int i), (2, .long m), (1, .ref p), (0, .ref 8)] [.int z199, .int i] g _ _
    refine AR.jge hk_22_7 (tgt := 36) (by decide) (fun p1 => ?_) (fun p2 => ?_)
    · refine AR.s (pc' := 37) (lv' := [(4, .int i), (2, .long m), (1, .ref p), (0, .ref 8)]) (st' := [.ref 8]) (h' := g) _ hn_22 hk_22_36 rfl ?_
      refine AR.s (pc' := 38) (lv' := [(4, .int i), (2, .long m), (1, .ref p), (0, .ref 8)]) (st' := [.ref 8, .ref 8]) (h' := g) _ hn_22 hk_22_37 rfl ?_
      refine AR.gL hk_22_38 (by decide) Hg (q := 8) (n := 2) (by decide) (by decide +kernel) (by decide +kernel) (by decide) hy_t8_1 (fun x200 dx200 lx200 ux200 => ?_)
      show AR _ _ _ _ _ _ _ 41 [(4, .int i), (2, .long m), (1, .ref p), (0, .ref 8)] [.long x200, .ref 8] g _ _
      have sx200 := hy_zl dx200
      refine AR.s (pc' := 42) (lv' := [(4, .int i), (2, .long m), (1, .ref p), (0, .ref 8)]) (st' := [.ref p, .long x200, .ref 8]) (h' := g) _ hn_22 hk_22_41 rfl ?_
      refine AR.gI hk_22_42 (by decide) Hg (q := p) (n := 3) (by have := PC.2.1; omega) PC.2.2.1 PC.2.2.2.1 (by decide) PC.2.2.2.2.2.1 (fun x201 dx201 lx201 ux201 => ?_)
      have sx201 := hy_zi dx201
      show AR _ _ _ _ _ _ _ 45 [(4, .int i), (2, .long m), (1, .ref p), (0, .ref 8)] [.int x201, .long x200, .ref 8] g _ _
      refine AR.i2lT hk_22_45 (fun z202 ez202 => ?_)
      show AR _ _ _ _ _ _ _ 46 [(4, .int i), (2, .long m), (1, .ref p), (0, .ref 8)] [.long z202, .long x200, .ref 8] g _ _
      refine AR.s (pc' := 47) (lv' := [(4, .int i), (2, .long m), (1, .ref p), (0, .ref 8)]) (st' := [.long m, .long z202, .long x200, .ref 8]) (h' := g) _ hn_22 hk_22_46 rfl ?_
      refine AR.lm1T hk_22_47 m1 (fun z203 ez203 => ?_)
      show AR _ _ _ _ _ _ _ 48 [(4, .int i), (2, .long m), (1, .ref p), (0, .ref 8)] [.long z203, .long x200, .ref 8] g _ _
      refine AR.laddT hk_22_48 (by omega) (by omega) (fun z204 ez204 => ?_)
      show AR _ _ _ _ _ _ _ 49 [(4, .int i), (2, .long m), (1, .ref p), (0, .ref 8)] [.long z204, .ref 8] g _ _
      have r205a := Int64.le_toInt z204
      have r205b := Int64.toInt_lt z204
      refine AR.pT hk_22_49 (by decide) Hg Fg (q := 8) (by decide) (by decide +kernel) (show ax_cls[2]? = some hy_c2 from rfl) (by decide +kernel) (by decide) rfl (by rw [hy_t8_1]; exact ⟨_, rfl, by omega, by omega, Or.inl rfl⟩) (by decide +kernel) (by decide +kernel) ?_
      rintro g206 ⟨Hg206, Fg206, Gg206, Eg206⟩
      show AR _ _ _ _ _ _ _ 52 [(4, .int i), (2, .long m), (1, .ref p), (0, .ref 8)] [] g206 _ _
      have pg206 : pf [8, 9] h g206 := pf_st Pg Gg206.1 Eg206 (by simp)
      have pz : hy_z g p 1 = hy_z h p 1 := Pg.z (by simp; have := PC.1; omega) 1
      have u8 : hy_z g206 8 1 = z204.toInt := hy_zl (i := z204) (by rw [Eg206, if_pos ⟨rfl, rfl⟩])
      have u9 : ∀ k, hy_z g206 9 k = hy_z g 9 k := fun k => hy_ze (by rw [Eg206, if_neg (fun c => absurd c.1 (by decide))])
      exact AR.vret hk_22_52 hr_22 ⟨rfl, Hg206, pg206, by omega, fun k hk => by rw [u9]; exact hv k (by omega)⟩
    · exact absurd p2 (by omega)
  | succ n ih =>
    intro g i hn i0 Hg Pg hd hv ho
    have Fg : ty_F 412316860416 g g := ty_F_refl _ _
    show AR _ _ _ _ _ _ _ 3 [(4, .int i), (2, .long m), (1, .ref p), (0, .ref 8)] [] g _ _
    refine AR.s (pc' := 5) (lv' := [(4, .int i), (2, .long m), (1, .ref p), (0, .ref 8)]) (st' := [.int i]) (h' := g) _ hn_22 hk_22_3 rfl ?_
    refine AR.bipushT hk_22_5 (by decide) (fun z207 ez207 => ?_)
    show AR _ _ _ _ _ _ _ 7 [(4, .int i), (2, .long m), (1, .ref p), (0, .ref 8)] [.int z207, .int i] g _ _
    refine AR.jge hk_22_7 (tgt := 36) (by decide) (fun p1 => ?_) (fun p2 => ?_)
    · exact absurd p1 (by omega)
    · have xk : i.toNatClampNeg = i.toInt.toNat := rfl
      have ik : (i.toInt.toNat : Int) = i.toInt := by omega
      have ho1 := ho i.toInt.toNat (by omega) (by omega)
      have h91 := h9 i.toInt.toNat (by omega)
      show AR _ _ _ _ _ _ _ 10 [(4, .int i), (2, .long m), (1, .ref p), (0, .ref 8)] [] g _ _
      refine AR.s (pc' := 11) (lv' := [(4, .int i), (2, .long m), (1, .ref p), (0, .ref 8)]) (st' := [.ref 8]) (h' := g) _ hn_22 hk_22_10 rfl ?_
      refine AR.gR hk_22_11 (by decide) Hg (q := 8) (n := 2) (by decide) (by decide +kernel) (by decide +kernel) (by decide) hy_t8_0 ?_
      show AR _ _ _ _ _ _ _ 14 [(4, .int i), (2, .long m), (1, .ref p), (0, .ref 8)] [.ref 9] g _ _
      refine AR.s (pc' := 16) (lv' := [(4, .int i), (2, .long m), (1, .ref p), (0, .ref 8)]) (st' := [.int i, .ref 9]) (h' := g) _ hn_22 hk_22_14 rfl ?_
      refine AR.dup2 (ax_look_ok hk_22_16).1 rfl rfl ?_
      show AR _ _ _ _ _ _ _ 17 [(4, .int i), (2, .long m), (1, .ref p), (0, .ref 8)] [.int i, .ref 9, .int i, .ref 9] g _ _
      refine AR.laI hk_22_17 Hg (q := 9) (n := 24) (by decide) (by decide +kernel) (by decide +kernel) (by decide +kernel) hy_t9_0 (by omega) (by omega) (fun x208 dx208 lx208 ux208 => ?_)
      show AR _ _ _ _ _ _ _ 18 [(4, .int i), (2, .long m), (1, .ref p), (0, .ref 8)] [.long x208, .int i, .ref 9] g _ _
      rw [xk] at dx208
      have xex208 := hy_zl dx208
      show AR _ _ _ _ _ _ _ 18 [(4, .int i), (2, .long m), (1, .ref p), (0, .ref 8)] [.long x208, .int i, .ref 9] g _ _
      refine AR.s (pc' := 19) (lv' := [(4, .int i), (2, .long m), (1, .ref p), (0, .ref 8)]) (st' := [.ref p, .long x208, .int i, .ref 9]) (h' := g) _ hn_22 hk_22_18 rfl ?_
      refine AR.gR hk_22_19 (by decide) Hg (q := p) (n := 3) (by have := PC.2.1; omega) PC.2.2.1 PC.2.2.2.1 (by decide) PC.2.2.2.2.1 ?_
      show AR _ _ _ _ _ _ _ 22 [(4, .int i), (2, .long m), (1, .ref p), (0, .ref 8)] [.ref (p + 1), .long x208, .int i, .ref 9] g _ _
      refine AR.s (pc' := 24) (lv' := [(4, .int i), (2, .long m), (1, .ref p), (0, .ref 8)]) (st' := [.int i, .ref (p + 1), .long x208, .int i, .ref 9]) (h' := g) _ hn_22 hk_22_22 rfl ?_
      refine AR.iaI hk_22_24 Hg (q := p + 1) (n := 24) PC.2.1 PC.2.2.2.2.2.2.2.1 PC.2.2.2.2.2.2.2.2.1 PC.2.2.2.2.2.2.2.2.2.1 PC.2.2.2.2.2.2.2.2.2.2.1 (by omega) (by omega) (fun x209 dx209 lx209 ux209 => ?_)
      show AR _ _ _ _ _ _ _ 25 [(4, .int i), (2, .long m), (1, .ref p), (0, .ref 8)] [.int x209, .long x208, .int i, .ref 9] g _ _
      rw [xk] at dx209
      have ye := hy_zi dx209
      rw [Pg.z (by simp; have := PC.1; omega)] at ye
      show AR _ _ _ _ _ _ _ 25 [(4, .int i), (2, .long m), (1, .ref p), (0, .ref 8)] [.int x209, .long x208, .int i, .ref 9] g _ _
      refine AR.i2lT hk_22_25 (fun z210 ez210 => ?_)
      show AR _ _ _ _ _ _ _ 26 [(4, .int i), (2, .long m), (1, .ref p), (0, .ref 8)] [.long z210, .long x208, .int i, .ref 9] g _ _
      refine AR.s (pc' := 27) (lv' := [(4, .int i), (2, .long m), (1, .ref p), (0, .ref 8)]) (st' := [.long m, .long z210, .long x208, .int i, .ref 9]) (h' := g) _ hn_22 hk_22_26 rfl ?_
      refine AR.lm1T hk_22_27 m1 (fun z211 ez211 => ?_)
      show AR _ _ _ _ _ _ _ 28 [(4, .int i), (2, .long m), (1, .ref p), (0, .ref 8)] [.long z211, .long x208, .int i, .ref 9] g _ _
      refine AR.laddT hk_22_28 (by omega) (by omega) (fun z212 ez212 => ?_)
      show AR _ _ _ _ _ _ _ 29 [(4, .int i), (2, .long m), (1, .ref p), (0, .ref 8)] [.long z212, .int i, .ref 9] g _ _
      have r213a := Int64.le_toInt z212
      have r213b := Int64.toInt_lt z212
      refine AR.lsT hk_22_29 Hg Fg (q := 9) (n := 24) (by decide) (by decide +kernel) (by decide +kernel) (by decide +kernel) hy_t9_0 (by omega) (by omega) (by omega) (by omega) (by decide +kernel) ?_
      rintro g214 ⟨Hg214, Fg214, Gg214, Eg214⟩
      show AR _ _ _ _ _ _ _ 30 [(4, .int i), (2, .long m), (1, .ref p), (0, .ref 8)] [] g214 _ _
      have pg214 : pf [8, 9] h g214 := pf_st Pg Gg214.1 Eg214 (by simp)
      have yy := hz_put Eg214
      have u81 : hy_z g214 8 1 = hy_z g 8 1 := hy_ze (by rw [Eg214, if_neg (fun c => absurd c.1 (by decide))])
      have nv : z212.toInt = hy_z h 9 i.toInt.toNat + hy_z h (p + 1) i.toInt.toNat := by omega
      show AR _ _ _ _ _ _ _ 30 [(4, .int i), (2, .long m), (1, .ref p), (0, .ref 8)] [] g214 _ _
      refine AR.iincT hk_22_30 (x := i) rfl (by rw [hn_22]; decide) (by decide) (by omega) (by omega) (fun z215 ez215 => ?_)
      show AR _ _ _ _ _ _ _ 33 [(4, .int z215), (2, .long m), (1, .ref p), (0, .ref 8)] [] g214 _ _
      refine AR.gotoT hk_22_33 (tgt := 3) (by decide) ?_
      refine AR.lessL (lv' := [(4, .int z215), (2, .long m), (1, .ref p), (0, .ref 8)]) (List.forall_mem_cons.mpr ⟨⟨_, by simp, ax_le_rfl rfl⟩, (List.forall_mem_cons.mpr ⟨⟨_, by simp, ax_le_rfl rfl⟩, (List.forall_mem_cons.mpr ⟨⟨_, by simp, ax_le_rfl rfl⟩, (List.forall_mem_cons.mpr ⟨⟨_, by simp, ax_le_rfl rfl⟩, (fun _ h => absurd h List.not_mem_nil)⟩)⟩)⟩)⟩) ?_
      refine ih g214 z215 (by omega) (by omega) Hg214 pg214 (by omega) (fun k hk => ?_) (fun k hk hk2 => ?_)
      · rw [yy]
        by_cases e : (k : Int) = i.toInt
        · have ek : k = i.toInt.toNat := by omega
          subst ek
          rw [if_pos rfl]
          exact nv
        · rw [if_neg (by omega)]; exact hv k (by omega)
      · rw [yy, if_neg (by omega)]; exact ho k (by omega) hk2
theorem p_22 (hlst : l.stackTraces = false) {m : Int64} {p : Nat} (hH : hy_H 0 h) (PC : pc_ok p) (m1 : m.toInt = 1) (h9 : ∀ k, k < 24 → -1000000000000 ≤ hy_z h 9 k ∧ hy_z h 9 k ≤ 1000000000000) (h8 : -1000000000000 ≤ hy_z h 8 1 ∧ hy_z h 8 1 ≤ 1000000000000) : AM ax_ns l (ax_mm 22) 0 ty_R (0) (0) [.ref 8, .ref p, .long m] h (pq_22 h p) := by
  refine AM.of (ax_mfacts (by decide +kernel : ax_has 22 = true)).2.2.2.2.2.2 hlst (by rw [hn_22]; exact Nat.le_of_ble_eq_true rfl) ?_
  show AR ax_ns l (ax_mm 22) 0 ty_R _ _ 0 [(0, .ref 8), (1, .ref p), (2, .long m)] [] h (0) (0)
  refine AR.iconstT hk_22_0 (by decide) (fun z216 ez216 => ?_)
  show AR _ _ _ _ _ _ _ 1 [(0, .ref 8), (1, .ref p), (2, .long m)] [.int z216] h _ _
  refine AR.s (pc' := 3) (lv' := [(4, .int z216), (0, .ref 8), (1, .ref p), (2, .long m)]) (st' := []) (h' := h) _ hn_22 hk_22_1 rfl ?_
  refine AR.lessL (lv' := [(4, .int z216), (2, .long m), (1, .ref p), (0, .ref 8)]) (List.forall_mem_cons.mpr ⟨⟨_, by simp, ax_le_rfl rfl⟩, (List.forall_mem_cons.mpr ⟨⟨_, by simp, ax_le_rfl rfl⟩, (List.forall_mem_cons.mpr ⟨⟨_, by simp, ax_le_rfl rfl⟩, (List.forall_mem_cons.mpr ⟨⟨_, by simp, ax_le_rfl rfl⟩, (fun _ h => absurd h List.not_mem_nil)⟩)⟩)⟩)⟩) ?_
  exact p22_L hlst PC m1 h9 h8 24 h z216 (by omega) (by omega) hH (pf_r _ _) rfl (fun k hk => absurd hk (by omega)) (fun k _ _ => rfl)
theorem p_min {x y : Int64} : (if y < x then y else x : Int64).toInt = min x.toInt y.toInt := by
  have e := @Int64.lt_iff_toInt_lt y x
  split
  · rename_i c
    have := e.mp c
    omega
  · rename_i c
    have h2 : ¬ (y.toInt < x.toInt) := fun q => c (e.mpr q)
    omega
theorem p_max {x y : Int64} : (if y < x then x else y : Int64).toInt = max x.toInt y.toInt := by
  have e := @Int64.lt_iff_toInt_lt y x
  split
  · rename_i c
    have := e.mp c
    omega
  · rename_i c
    have h2 : ¬ (y.toInt < x.toInt) := fun q => c (e.mpr q)
    omega
def pq_24 (h : ax_H) : ax_Q := fun res g => res = .inl none ∧ hy_H 0 g ∧ pf [8, 9] h g ∧ hy_z g 8 1 = hy_z h 8 1 ∧ ∀ k, k < 24 → hy_z g 9 k = min (hy_z h 9 k) (hy_z h 8 1)
theorem p24_L (hlst : l.stackTraces = false) {X : ax_PX} (h9 : ∀ k, k < 24 → -1000000000000 ≤ hy_z h 9 k ∧ hy_z h 9 k ≤ 1000000000000) : ∀ (n : Nat) (g : ax_H) (i : Int32), i.toInt + n = 24 → 0 ≤ i.toInt → hy_H 0 g → pf [8, 9] h g → hy_z g 8 1 = hy_z h 8 1 → (∀ k : Nat, (k : Int) < i.toInt → hy_z g 9 k = min (hy_z h 9 k) (hy_z h 8 1)) → (∀ k : Nat, i.toInt ≤ k → k < 24 → hy_z g 9 k = hy_z h 9 k) → AR ax_ns l (ax_mm 24) 0 ty_R (ax_ret ax_ns (ax_mm 24) (pq_24 h)) X 2 [(1, .int i), (0, .ref 8)] [] g 0 0 := by
  intro n
  induction n with
  | zero =>
    intro g i hn i0 Hg Pg hd hv ho
    have Fg : ty_F 412316860416 g g := ty_F_refl _ _
    show AR _ _ _ _ _ _ _ 2 [(1, .int i), (0, .ref 8)] [] g _ _
    refine AR.s (pc' := 3) (lv' := [(1, .int i), (0, .ref 8)]) (st' := [.int i]) (h' := g) _ hn_24 hk_24_2 rfl ?_
    refine AR.bipushT hk_24_3 (by decide) (fun z217 ez217 => ?_)
    show AR _ _ _ _ _ _ _ 5 [(1, .int i), (0, .ref 8)] [.int z217, .int i] g _ _
    refine AR.jge hk_24_5 (tgt := 33) (by decide) (fun p1 => ?_) (fun p2 => ?_)
    · exact AR.vret hk_24_33 hr_24 ⟨rfl, Hg, Pg, hd, fun k hk => hv k (by omega)⟩
    · exact absurd p2 (by omega)
  | succ n ih =>
    intro g i hn i0 Hg Pg hd hv ho
    have Fg : ty_F 412316860416 g g := ty_F_refl _ _
    show AR _ _ _ _ _ _ _ 2 [(1, .int i), (0, .ref 8)] [] g _ _
    refine AR.s (pc' := 3) (lv' := [(1, .int i), (0, .ref 8)]) (st' := [.int i]) (h' := g) _ hn_24 hk_24_2 rfl ?_
    refine AR.bipushT hk_24_3 (by decide) (fun z218 ez218 => ?_)
    show AR _ _ _ _ _ _ _ 5 [(1, .int i), (0, .ref 8)] [.int z218, .int i] g _ _
    refine AR.jge hk_24_5 (tgt := 33) (by decide) (fun p1 => ?_) (fun p2 => ?_)
    · exact absurd p1 (by omega)
    · have xk : i.toNatClampNeg = i.toInt.toNat := rfl
      have ik : (i.toInt.toNat : Int) = i.toInt := by omega
      have ho1 := ho i.toInt.toNat (by omega) (by omega)
      have h91 := h9 i.toInt.toNat (by omega)
      show AR _ _ _ _ _ _ _ 8 [(1, .int i), (0, .ref 8)] [] g _ _
      refine AR.s (pc' := 9) (lv' := [(1, .int i), (0, .ref 8)]) (st' := [.ref 8]) (h' := g) _ hn_24 hk_24_8 rfl ?_
      refine AR.gR hk_24_9 (by decide) Hg (q := 8) (n := 2) (by decide) (by decide +kernel) (by decide +kernel) (by decide) hy_t8_0 ?_
      show AR _ _ _ _ _ _ _ 12 [(1, .int i), (0, .ref 8)] [.ref 9] g _ _
      refine AR.s (pc' := 13) (lv' := [(1, .int i), (0, .ref 8)]) (st' := [.int i, .ref 9]) (h' := g) _ hn_24 hk_24_12 rfl ?_
      refine AR.s (pc' := 14) (lv' := [(1, .int i), (0, .ref 8)]) (st' := [.ref 8, .int i, .ref 9]) (h' := g) _ hn_24 hk_24_13 rfl ?_
      refine AR.gR hk_24_14 (by decide) Hg (q := 8) (n := 2) (by decide) (by decide +kernel) (by decide +kernel) (by decide) hy_t8_0 ?_
      show AR _ _ _ _ _ _ _ 17 [(1, .int i), (0, .ref 8)] [.ref 9, .int i, .ref 9] g _ _
      refine AR.s (pc' := 18) (lv' := [(1, .int i), (0, .ref 8)]) (st' := [.int i, .ref 9, .int i, .ref 9]) (h' := g) _ hn_24 hk_24_17 rfl ?_
      refine AR.laI hk_24_18 Hg (q := 9) (n := 24) (by decide) (by decide +kernel) (by decide +kernel) (by decide +kernel) hy_t9_0 (by omega) (by omega) (fun x219 dx219 lx219 ux219 => ?_)
      show AR _ _ _ _ _ _ _ 19 [(1, .int i), (0, .ref 8)] [.long x219, .int i, .ref 9] g _ _
      rw [xk] at dx219
      have xex219 := hy_zl dx219
      show AR _ _ _ _ _ _ _ 19 [(1, .int i), (0, .ref 8)] [.long x219, .int i, .ref 9] g _ _
      refine AR.s (pc' := 20) (lv' := [(1, .int i), (0, .ref 8)]) (st' := [.ref 8, .long x219, .int i, .ref 9]) (h' := g) _ hn_24 hk_24_19 rfl ?_
      refine AR.gL hk_24_20 (by decide) Hg (q := 8) (n := 2) (by decide) (by decide +kernel) (by decide +kernel) (by decide) hy_t8_1 (fun x220 dx220 lx220 ux220 => ?_)
      show AR _ _ _ _ _ _ _ 23 [(1, .int i), (0, .ref 8)] [.long x220, .long x219, .int i, .ref 9] g _ _
      have sx220 := hy_zl dx220
      refine AR.mminL (z := .long (if x220 < x219 then x220 else x219)) (ax_look_ok hk_24_23).1 (ax_wk_mem (ix := 2192) (by decide +kernel)) rfl (Nat.le_of_ble_eq_true rfl) ?_
      have qz221 : (if x220 < x219 then x220 else x219 : Int64).toInt = min x219.toInt x220.toInt := p_min
      generalize (if x220 < x219 then x220 else x219 : Int64) = z221 at qz221
      show AR _ _ _ _ _ _ _ 26 [(1, .int i), (0, .ref 8)] [.long z221, .int i, .ref 9] g _ _
      have r222a := Int64.le_toInt z221
      have r222b := Int64.toInt_lt z221
      refine AR.lsT hk_24_26 Hg Fg (q := 9) (n := 24) (by decide) (by decide +kernel) (by decide +kernel) (by decide +kernel) hy_t9_0 (by omega) (by omega) (by omega) (by omega) (by decide +kernel) ?_
      rintro g223 ⟨Hg223, Fg223, Gg223, Eg223⟩
      show AR _ _ _ _ _ _ _ 27 [(1, .int i), (0, .ref 8)] [] g223 _ _
      have pg223 : pf [8, 9] h g223 := pf_st Pg Gg223.1 Eg223 (by simp)
      have yy := hz_put Eg223
      have u81 : hy_z g223 8 1 = hy_z g 8 1 := hy_ze (by rw [Eg223, if_neg (fun c => absurd c.1 (by decide))])
      have nv : z221.toInt = min (hy_z h 9 i.toInt.toNat) (hy_z h 8 1) := by omega
      show AR _ _ _ _ _ _ _ 27 [(1, .int i), (0, .ref 8)] [] g223 _ _
      refine AR.iincT hk_24_27 (x := i) rfl (by rw [hn_24]; decide) (by decide) (by omega) (by omega) (fun z224 ez224 => ?_)
      show AR _ _ _ _ _ _ _ 30 [(1, .int z224), (0, .ref 8)] [] g223 _ _
      refine AR.gotoT hk_24_30 (tgt := 2) (by decide) ?_
      refine AR.lessL (lv' := [(1, .int z224), (0, .ref 8)]) (List.forall_mem_cons.mpr ⟨⟨_, by simp, ax_le_rfl rfl⟩, (List.forall_mem_cons.mpr ⟨⟨_, by simp, ax_le_rfl rfl⟩, (fun _ h => absurd h List.not_mem_nil)⟩)⟩) ?_
      refine ih g223 z224 (by omega) (by omega) Hg223 pg223 (by omega) (fun k hk => ?_) (fun k hk hk2 => ?_)
      · rw [yy]
        by_cases e : (k : Int) = i.toInt
        · have ek : k = i.toInt.toNat := by omega
          subst ek
          rw [if_pos rfl]
          exact nv
        · rw [if_neg (by omega)]; exact hv k (by omega)
      · rw [yy, if_neg (by omega)]; exact ho k (by omega) hk2
theorem p_24 (hlst : l.stackTraces = false) (hH : hy_H 0 h) (h9 : ∀ k, k < 24 → -1000000000000 ≤ hy_z h 9 k ∧ hy_z h 9 k ≤ 1000000000000) : AM ax_ns l (ax_mm 24) 0 ty_R (0) (0) [.ref 8] h (pq_24 h) := by
  refine AM.of (ax_mfacts (by decide +kernel : ax_has 24 = true)).2.2.2.2.2.2 hlst (by rw [hn_24]; exact Nat.le_of_ble_eq_true rfl) ?_
  show AR ax_ns l (ax_mm 24) 0 ty_R _ _ 0 [(0, .ref 8)] [] h (0) (0)
  refine AR.iconstT hk_24_0 (by decide) (fun z225 ez225 => ?_)
  show AR _ _ _ _ _ _ _ 1 [(0, .ref 8)] [.int z225] h _ _
  refine AR.s (pc' := 2) (lv' := [(1, .int z225), (0, .ref 8)]) (st' := []) (h' := h) _ hn_24 hk_24_1 rfl ?_
  refine AR.lessL (lv' := [(1, .int z225), (0, .ref 8)]) (List.forall_mem_cons.mpr ⟨⟨_, by simp, ax_le_rfl rfl⟩, (List.forall_mem_cons.mpr ⟨⟨_, by simp, ax_le_rfl rfl⟩, (fun _ h => absurd h List.not_mem_nil)⟩)⟩) ?_
  exact p24_L hlst h9 24 h z225 (by omega) (by omega) hH (pf_r _ _) rfl (fun k hk => absurd hk (by omega)) (fun k _ _ => rfl)
theorem hi_put {h g : ax_H} {q : Nat} {i v : Int32} (E : ∀ q' j', ty_fd g q' j' = if q' = q ∧ j' = i.toNatClampNeg then some (.int v) else ty_fd h q' j') (j : Nat) : hy_z g q j = if j = i.toInt.toNat then v.toInt else hy_z h q j := by
  have hx : i.toNatClampNeg = i.toInt.toNat := rfl
  by_cases e : j = i.toInt.toNat
  · rw [if_pos e]
    exact hy_zi (by rw [E, if_pos ⟨rfl, by rw [hx]; exact e⟩])
  · rw [if_neg e]
    exact hy_ze (by rw [E, if_neg (fun c => e (by rw [← hx]; exact c.2))])
theorem p_l2i {x : Int64} (h1 : -2147483648 ≤ x.toInt) (h2 : x.toInt ≤ 2147483647) : x.toInt32.toInt = x.toInt := by
  rw [Int64.toInt_toInt32]
  exact hy_bm h1 h2
def pq_7 (h : ax_H) (p : Nat) : ax_Q := fun res g => res = .inl none ∧ hy_H 0 g ∧ pf [p, p + 1] h g ∧ hy_z g p 1 = hy_z h 8 1 ∧ ∀ k, k < 24 → hy_z g (p + 1) k = hy_z h 9 k
theorem p7_L (hlst : l.stackTraces = false) {X : ax_PX} {p : Nat} (PC : pc_ok p) (h9 : ∀ k, k < 24 → -2000000000 ≤ hy_z h 9 k ∧ hy_z h 9 k ≤ 2000000000) (h8 : -2000000000 ≤ hy_z h 8 1 ∧ hy_z h 8 1 ≤ 2000000000) : ∀ (n : Nat) (g : ax_H) (i : Int32), i.toInt + n = 24 → 0 ≤ i.toInt → hy_H 0 g → pf [p, p + 1] h g → (∀ k : Nat, (k : Int) < i.toInt → hy_z g (p + 1) k = hy_z h 9 k) → AR ax_ns l (ax_mm 7) 0 ty_R (ax_ret ax_ns (ax_mm 7) (pq_7 h p)) X 7 [(2, .int i), (1, .ref 8), (0, .ref p)] [] g 0 0 := by
  intro n
  induction n with
  | zero =>
    intro g i hn i0 Hg Pg hv
    have Fg : ty_F pW g g := ty_F_refl _ _
    have P10 := PC.1
    have n8 : hy_z g 8 1 = hy_z h 8 1 := Pg.z (by simp; omega) 1
    show AR _ _ _ _ _ _ _ 7 [(2, .int i), (1, .ref 8), (0, .ref p)] [] g _ _
    refine AR.s (pc' := 8) (lv' := [(2, .int i), (1, .ref 8), (0, .ref p)]) (st' := [.int i]) (h' := g) _ hn_7 hk_7_7 rfl ?_
    refine AR.bipushT hk_7_8 (by decide) (fun z226 ez226 => ?_)
    show AR _ _ _ _ _ _ _ 10 [(2, .int i), (1, .ref 8), (0, .ref p)] [.int z226, .int i] g _ _
    refine AR.jge hk_7_10 (tgt := 48) (by decide) (fun p1 => ?_) (fun p2 => ?_)
    · refine AR.s (pc' := 49) (lv' := [(2, .int i), (1, .ref 8), (0, .ref p)]) (st' := [.ref p]) (h' := g) _ hn_7 hk_7_48 rfl ?_
      refine AR.s (pc' := 50) (lv' := [(2, .int i), (1, .ref 8), (0, .ref p)]) (st' := [.ref 8, .ref p]) (h' := g) _ hn_7 hk_7_49 rfl ?_
      refine AR.gL hk_7_50 (by decide) Hg (q := 8) (n := 2) (by decide) (by decide +kernel) (by decide +kernel) (by decide) hy_t8_1 (fun x227 dx227 lx227 ux227 => ?_)
      show AR _ _ _ _ _ _ _ 53 [(2, .int i), (1, .ref 8), (0, .ref p)] [.long x227, .ref p] g _ _
      have sx227 := hy_zl dx227
      refine AR.l2i (z := .int x227.toInt32) (ax_look_ok hk_7_53).1 rfl ?_
      have ez228 : x227.toInt32.toInt = x227.toInt := p_l2i (by omega) (by omega)
      generalize x227.toInt32 = z228 at ez228
      show AR _ _ _ _ _ _ _ 54 [(2, .int i), (1, .ref 8), (0, .ref p)] [.int z228, .ref p] g _ _
      have r230a := Int32.le_toInt z228
      have r230b := Int32.toInt_lt z228
      refine AR.pT hk_7_54 (by decide) Hg Fg (q := p) (by have := PC.2.1; omega) PC.2.2.1 (show ax_cls[1]? = some hy_c1 from rfl) PC.2.2.2.1 (by decide) rfl (by rw [PC.2.2.2.2.2.1]; exact ⟨_, rfl, by omega, by omega, Or.inl rfl⟩) PC.2.2.2.2.2.2.2.2.2.2.2.1 PC.2.2.2.2.2.2.2.2.2.2.2.2.1 ?_
      rintro g229 ⟨Hg229, Fg229, Gg229, Eg229⟩
      show AR _ _ _ _ _ _ _ 57 [(2, .int i), (1, .ref 8), (0, .ref p)] [] g229 _ _
      have pg229 : pf [p, p + 1] h g229 := pf_st Pg Gg229.1 Eg229 (by simp)
      have u8 : hy_z g229 p 1 = z228.toInt := hy_zi (i := z228) (by rw [Eg229, if_pos ⟨rfl, rfl⟩])
      have u9 : ∀ k, hy_z g229 (p + 1) k = hy_z g (p + 1) k := fun k => hy_ze (by rw [Eg229, if_neg (fun c => absurd c.1 (by omega))])
      exact AR.vret hk_7_57 hr_7 ⟨rfl, Hg229, pg229, by omega, fun k hk => by rw [u9]; exact hv k (by omega)⟩
    · exact absurd p2 (by omega)
  | succ n ih =>
    intro g i hn i0 Hg Pg hv
    have Fg : ty_F pW g g := ty_F_refl _ _
    have P10 := PC.1
    have n8 : hy_z g 8 1 = hy_z h 8 1 := Pg.z (by simp; omega) 1
    show AR _ _ _ _ _ _ _ 7 [(2, .int i), (1, .ref 8), (0, .ref p)] [] g _ _
    refine AR.s (pc' := 8) (lv' := [(2, .int i), (1, .ref 8), (0, .ref p)]) (st' := [.int i]) (h' := g) _ hn_7 hk_7_7 rfl ?_
    refine AR.bipushT hk_7_8 (by decide) (fun z231 ez231 => ?_)
    show AR _ _ _ _ _ _ _ 10 [(2, .int i), (1, .ref 8), (0, .ref p)] [.int z231, .int i] g _ _
    refine AR.jge hk_7_10 (tgt := 48) (by decide) (fun p1 => ?_) (fun p2 => ?_)
    · exact absurd p1 (by omega)
    · have xk : i.toNatClampNeg = i.toInt.toNat := rfl
      have h91 := h9 i.toInt.toNat (by omega)
      have n9 : hy_z g 9 i.toInt.toNat = hy_z h 9 i.toInt.toNat := Pg.z (by simp; omega) _
      show AR _ _ _ _ _ _ _ 13 [(2, .int i), (1, .ref 8), (0, .ref p)] [] g _ _
      refine AR.s (pc' := 14) (lv' := [(2, .int i), (1, .ref 8), (0, .ref p)]) (st' := [.ref p]) (h' := g) _ hn_7 hk_7_13 rfl ?_
      refine AR.gR hk_7_14 (by decide) Hg (q := p) (n := 3) (by have := PC.2.1; omega) PC.2.2.1 PC.2.2.2.1 (by decide) PC.2.2.2.2.1 ?_
      show AR _ _ _ _ _ _ _ 17 [(2, .int i), (1, .ref 8), (0, .ref p)] [.ref (p + 1)] g _ _
      refine AR.s (pc' := 18) (lv' := [(2, .int i), (1, .ref 8), (0, .ref p)]) (st' := [.int i, .ref (p + 1)]) (h' := g) _ hn_7 hk_7_17 rfl ?_
      refine AR.s (pc' := 19) (lv' := [(2, .int i), (1, .ref 8), (0, .ref p)]) (st' := [.ref 8, .int i, .ref (p + 1)]) (h' := g) _ hn_7 hk_7_18 rfl ?_
      refine AR.gR hk_7_19 (by decide) Hg (q := 8) (n := 2) (by decide) (by decide +kernel) (by decide +kernel) (by decide) hy_t8_0 ?_
      show AR _ _ _ _ _ _ _ 22 [(2, .int i), (1, .ref 8), (0, .ref p)] [.ref 9, .int i, .ref (p + 1)] g _ _
      refine AR.s (pc' := 23) (lv' := [(2, .int i), (1, .ref 8), (0, .ref p)]) (st' := [.int i, .ref 9, .int i, .ref (p + 1)]) (h' := g) _ hn_7 hk_7_22 rfl ?_
      refine AR.laI hk_7_23 Hg (q := 9) (n := 24) (by decide) (by decide +kernel) (by decide +kernel) (by decide +kernel) hy_t9_0 (by omega) (by omega) (fun x232 dx232 lx232 ux232 => ?_)
      show AR _ _ _ _ _ _ _ 24 [(2, .int i), (1, .ref 8), (0, .ref p)] [.long x232, .int i, .ref (p + 1)] g _ _
      rw [xk] at dx232
      have xex232 := hy_zl dx232
      show AR _ _ _ _ _ _ _ 24 [(2, .int i), (1, .ref 8), (0, .ref p)] [.long x232, .int i, .ref (p + 1)] g _ _
      refine AR.l2i (z := .int x232.toInt32) (ax_look_ok hk_7_24).1 rfl ?_
      have ez233 : x232.toInt32.toInt = x232.toInt := p_l2i (by omega) (by omega)
      generalize x232.toInt32 = z233 at ez233
      show AR _ _ _ _ _ _ _ 25 [(2, .int i), (1, .ref 8), (0, .ref p)] [.int z233, .int i, .ref (p + 1)] g _ _
      have r235a := Int32.le_toInt z233
      have r235b := Int32.toInt_lt z233
      refine AR.isT hk_7_25 Hg Fg (q := p + 1) (n := 24) PC.2.1 PC.2.2.2.2.2.2.2.1 PC.2.2.2.2.2.2.2.2.1 PC.2.2.2.2.2.2.2.2.2.1 PC.2.2.2.2.2.2.2.2.2.2.1 (by omega) (by omega) (by omega) (by omega) PC.2.2.2.2.2.2.2.2.2.2.2.2.2.2 ?_
      rintro g234 ⟨Hg234, Fg234, Gg234, Eg234⟩
      show AR _ _ _ _ _ _ _ 26 [(2, .int i), (1, .ref 8), (0, .ref p)] [] g234 _ _
      have pg234 : pf [p, p + 1] h g234 := pf_st Pg Gg234.1 Eg234 (by simp)
      have y1 : ∀ k, hy_z g234 (p + 1) k = if k = i.toInt.toNat then z233.toInt else hy_z g (p + 1) k := fun k => hi_put Eg234 k
      show AR _ _ _ _ _ _ _ 26 [(2, .int i), (1, .ref 8), (0, .ref p)] [] g234 _ _
      refine AR.s (pc' := 27) (lv' := [(2, .int i), (1, .ref 8), (0, .ref p)]) (st' := [.ref p]) (h' := g234) _ hn_7 hk_7_26 rfl ?_
      refine AR.s (pc' := 28) (lv' := [(2, .int i), (1, .ref 8), (0, .ref p)]) (st' := [.ref p, .ref p]) (h' := g234) _ hn_7 hk_7_27 rfl ?_
      refine AR.gL hk_7_28 (by decide) Hg234 (q := p) (n := 3) (by have := PC.2.1; omega) PC.2.2.1 PC.2.2.2.1 (by decide) PC.2.2.2.2.2.2.1 (fun x236 dx236 lx236 ux236 => ?_)
      have sx236 := hy_zl dx236
      show AR _ _ _ _ _ _ _ 31 [(2, .int i), (1, .ref 8), (0, .ref p)] [.long x236, .ref p] g234 _ _
      refine AR.s (pc' := 32) (lv' := [(2, .int i), (1, .ref 8), (0, .ref p)]) (st' := [.ref p, .long x236, .ref p]) (h' := g234) _ hn_7 hk_7_31 rfl ?_
      refine AR.gR hk_7_32 (by decide) Hg234 (q := p) (n := 3) (by have := PC.2.1; omega) PC.2.2.1 PC.2.2.2.1 (by decide) PC.2.2.2.2.1 ?_
      show AR _ _ _ _ _ _ _ 35 [(2, .int i), (1, .ref 8), (0, .ref p)] [.ref (p + 1), .long x236, .ref p] g234 _ _
      refine AR.s (pc' := 36) (lv' := [(2, .int i), (1, .ref 8), (0, .ref p)]) (st' := [.int i, .ref (p + 1), .long x236, .ref p]) (h' := g234) _ hn_7 hk_7_35 rfl ?_
      refine AR.iaI hk_7_36 Hg234 (q := p + 1) (n := 24) PC.2.1 PC.2.2.2.2.2.2.2.1 PC.2.2.2.2.2.2.2.2.1 PC.2.2.2.2.2.2.2.2.2.1 PC.2.2.2.2.2.2.2.2.2.2.1 (by omega) (by omega) (fun x237 dx237 lx237 ux237 => ?_)
      show AR _ _ _ _ _ _ _ 37 [(2, .int i), (1, .ref 8), (0, .ref p)] [.int x237, .long x236, .ref p] g234 _ _
      refine AR.i2lT hk_7_37 (fun z238 ez238 => ?_)
      show AR _ _ _ _ _ _ _ 38 [(2, .int i), (1, .ref 8), (0, .ref p)] [.long z238, .long x236, .ref p] g234 _ _
      refine AR.ladd (z := .long (x236 + z238)) (ax_look_ok hk_7_38).1 rfl ?_
      generalize x236 + z238 = z239
      show AR _ _ _ _ _ _ _ 39 [(2, .int i), (1, .ref 8), (0, .ref p)] [.long z239, .ref p] g234 _ _
      have r241a := Int64.le_toInt z239
      have r241b := Int64.toInt_lt z239
      refine AR.pT hk_7_39 (by decide) Hg234 Fg234 (q := p) (by have := PC.2.1; omega) PC.2.2.1 (show ax_cls[1]? = some hy_c1 from rfl) PC.2.2.2.1 (by decide) rfl (by rw [PC.2.2.2.2.2.2.1]; exact ⟨_, rfl, by omega, by omega, Or.inl rfl⟩) PC.2.2.2.2.2.2.2.2.2.2.2.1 PC.2.2.2.2.2.2.2.2.2.2.2.2.2.1 ?_
      rintro g240 ⟨Hg240, Fg240, Gg240, Eg240⟩
      show AR _ _ _ _ _ _ _ 42 [(2, .int i), (1, .ref 8), (0, .ref p)] [] g240 _ _
      have pg240 : pf [p, p + 1] h g240 := pf_st pg234 Gg240.1 Eg240 (by simp)
      have y2 : ∀ k, hy_z g240 (p + 1) k = hy_z g234 (p + 1) k := fun k => hy_ze (by rw [Eg240, if_neg (fun c => absurd c.1 (by omega))])
      refine AR.iincT hk_7_42 (x := i) rfl (by rw [hn_7]; decide) (by decide) (by omega) (by omega) (fun z242 ez242 => ?_)
      show AR _ _ _ _ _ _ _ 45 [(2, .int z242), (1, .ref 8), (0, .ref p)] [] g240 _ _
      refine AR.gotoT hk_7_45 (tgt := 7) (by decide) ?_
      refine AR.lessL (lv' := [(2, .int z242), (1, .ref 8), (0, .ref p)]) (List.forall_mem_cons.mpr ⟨⟨_, by simp, ax_le_rfl rfl⟩, (List.forall_mem_cons.mpr ⟨⟨_, by simp, ax_le_rfl rfl⟩, (List.forall_mem_cons.mpr ⟨⟨_, by simp, ax_le_rfl rfl⟩, (fun _ h => absurd h List.not_mem_nil)⟩)⟩)⟩) ?_
      refine ih g240 z242 (by omega) (by omega) Hg240 pg240 (fun k hk => ?_)
      rw [y2, y1]
      by_cases e : (k : Int) = i.toInt
      · have ek : k = i.toInt.toNat := by omega
        subst ek
        rw [if_pos rfl]
        omega
      · rw [if_neg (by omega)]; exact hv k (by omega)
theorem p_7 (hlst : l.stackTraces = false) {p : Nat} (hH : hy_H 0 h) (PC : pc_ok p) (h9 : ∀ k, k < 24 → -2000000000 ≤ hy_z h 9 k ∧ hy_z h 9 k ≤ 2000000000) (h8 : -2000000000 ≤ hy_z h 8 1 ∧ hy_z h 8 1 ≤ 2000000000) : AM ax_ns l (ax_mm 7) 0 ty_R (0) (0) [.ref p, .ref 8] h (pq_7 h p) := by
  refine AM.of (ax_mfacts (by decide +kernel : ax_has 7 = true)).2.2.2.2.2.2 hlst (by rw [hn_7]; exact Nat.le_of_ble_eq_true rfl) ?_
  show AR ax_ns l (ax_mm 7) 0 ty_R _ _ 0 [(0, .ref p), (1, .ref 8)] [] h (0) (0)
  have F : ty_F pW h h := ty_F_refl _ _
  have P0 : pf [p, p + 1] h h := pf_r _ _
  refine AR.s (pc' := 1) (lv' := [(0, .ref p), (1, .ref 8)]) (st' := [.ref p]) (h' := h) _ hn_7 hk_7_0 rfl ?_
  refine AR.lconstT hk_7_1 (fun z243 ez243 => ?_)
  have kz243 : z243 = 0 := Int64.toInt_inj.mp (ez243.trans rfl)
  show AR _ _ _ _ _ _ _ 2 [(0, .ref p), (1, .ref 8)] [.long z243, .ref p] h _ _
  have r245a := Int64.le_toInt z243
  have r245b := Int64.toInt_lt z243
  refine AR.pT hk_7_2 (by decide) hH F (q := p) (by have := PC.2.1; omega) PC.2.2.1 (show ax_cls[1]? = some hy_c1 from rfl) PC.2.2.2.1 (by decide) rfl (by rw [PC.2.2.2.2.2.2.1]; exact ⟨_, rfl, by omega, by omega, Or.inl rfl⟩) PC.2.2.2.2.2.2.2.2.2.2.2.1 PC.2.2.2.2.2.2.2.2.2.2.2.2.2.1 ?_
  rintro g244 ⟨Hg244, Fg244, Gg244, Eg244⟩
  show AR _ _ _ _ _ _ _ 5 [(0, .ref p), (1, .ref 8)] [] g244 _ _
  have pg244 : pf [p, p + 1] h g244 := pf_st P0 Gg244.1 Eg244 (by simp)
  refine AR.iconstT hk_7_5 (by decide) (fun z246 ez246 => ?_)
  show AR _ _ _ _ _ _ _ 6 [(0, .ref p), (1, .ref 8)] [.int z246] g244 _ _
  refine AR.s (pc' := 7) (lv' := [(2, .int z246), (0, .ref p), (1, .ref 8)]) (st' := []) (h' := g244) _ hn_7 hk_7_6 rfl ?_
  refine AR.lessL (lv' := [(2, .int z246), (1, .ref 8), (0, .ref p)]) (List.forall_mem_cons.mpr ⟨⟨_, by simp, ax_le_rfl rfl⟩, (List.forall_mem_cons.mpr ⟨⟨_, by simp, ax_le_rfl rfl⟩, (List.forall_mem_cons.mpr ⟨⟨_, by simp, ax_le_rfl rfl⟩, (fun _ h => absurd h List.not_mem_nil)⟩)⟩)⟩) ?_
  refine AR.then (P := ax_ret ax_ns (ax_mm 7) (pq_7 g244 p)) (p7_L hlst PC (by intro k hk; rw [pg244.z (by simp; have := PC.1; omega)]; exact h9 k hk) (by rw [pg244.z (by simp; have := PC.1; omega)]; exact h8) 24 g244 z246 (by omega) (by omega) Hg244 (pf_r _ _) (fun k hk => absurd hk (by omega))) (fun pc lv st g bc bs hp => AR.at (p_rm ?_ hp))
  rintro res g ⟨e, H2, P2, e2, e3⟩
  exact ⟨e, H2, pf.tr pg244 P2 (fun _ q => q), by rw [e2, pg244.z (by simp; have := PC.1; omega)], fun k hk => by rw [e3 k hk, pg244.z (by simp; have := PC.1; omega)]⟩
/-- sums of the masks of n variables from o on -/
def tb (c : Nat → Int) (o : Nat) : Nat → Nat → Int
  | 0, _ => 0
  | n + 1, k => if k < 2 ^ n then tb c o n k + c (2 * (o + n) + 1) else tb c o n (k - 2 ^ n) + c (2 * (o + n))
theorem tb_bd {c : Nat → Int} {o : Nat} (hc : ∀ k, k < 24 → -2147483648 ≤ c k ∧ c k ≤ 2147483647) : ∀ (n k : Nat), o + n ≤ 12 → -2147483648 * (n : Int) ≤ tb c o n k ∧ tb c o n k ≤ 2147483647 * (n : Int)
  | 0, k, _ => ⟨Int.le_refl _, Int.le_refl _⟩
  | n + 1, k, h => by
    unfold tb
    split
    · have a := tb_bd (o := o) hc n k (by omega)
      have b := hc (2 * (o + n) + 1) (by omega)
      omega
    · have a := tb_bd (o := o) hc n (k - 2 ^ n) (by omega)
      have b := hc (2 * (o + n)) (by omega)
      omega
theorem tb_lo {c : Nat → Int} {o n k : Nat} (h : k < 2 ^ n) : tb c o (n + 1) k = tb c o n k + c (2 * (o + n) + 1) := if_pos h
theorem tb_hi {c : Nat → Int} {o n k : Nat} : tb c o (n + 1) (k + 2 ^ n) = tb c o n k + c (2 * (o + n)) := by
  show (if k + 2 ^ n < 2 ^ n then _ else _) = _
  rw [if_neg (by omega), Nat.add_sub_cancel]
def pq_37 (h : ax_H) (p : Nat) : ax_Q := fun res g => res = .inl none ∧ hy_H 0 g ∧ pf [13, 14] h g ∧ (∀ k, k < 64 → hy_z g 13 k = tb (hy_z h (p + 1)) 0 6 k) ∧ (∀ k, k < 64 → hy_z g 14 k = tb (hy_z h (p + 1)) 6 6 k)
/-- one more variable: what addVariable does, as tb grows -/
theorem tb_step {h g g' : ax_H} {q p n o : Nat} {a b : Int} (hv : ∀ k, k < 2 ^ n → hy_z g q k = tb (hy_z h (p + 1)) o n k) (ha : a = hy_z h (p + 1) (2 * (o + n))) (hb : b = hy_z h (p + 1) (2 * (o + n) + 1)) (hq : ∀ k, k < 2 ^ n → hy_z g' q k = hy_z g q k + b ∧ hy_z g' q (k + 2 ^ n) = hy_z g q k + a) : ∀ k, k < 2 ^ (n + 1) → hy_z g' q k = tb (hy_z h (p + 1)) o (n + 1) k := by
  intro k hk
  rw [Nat.pow_succ] at hk
  by_cases e : k < 2 ^ n
  · rw [tb_lo e, (hq k e).1, hv k e, hb]
  · have e2 : k = (k - 2 ^ n) + 2 ^ n := by omega
    have e3 : k - 2 ^ n < 2 ^ n := by omega
    rw [e2, tb_hi, (hq _ e3).2, hv _ e3, ha]
theorem hy_cz {h : ax_H} (hH : hy_H 0 h) {p : Nat} (PC : pc_ok p) : ∀ k, k < 24 → -2147483648 ≤ hy_z h (p + 1) k ∧ hy_z h (p + 1) k ≤ 2147483647 := fun k hk => by
  obtain ⟨i, e1, e2, e3⟩ := hy_int hH (q := p + 1) (n := 24) (j := k) (a := -2147483648) (z := 2147483647) PC.2.1 PC.2.2.2.2.2.2.2.2.2.1 hk (by rw [ty_tt_ar PC.2.2.2.2.2.2.2.2.1]; exact PC.2.2.2.2.2.2.2.2.2.2.1)
  rw [hy_zi e1]
  exact ⟨e2, e3⟩
theorem p_37 (hlst : l.stackTraces = false) {p : Nat} (hH : hy_H 0 h) (PC : pc_ok p) (p15 : 15 ≤ p ∨ p = 10) : AM ax_ns l (ax_mm 37) 1 ty_R (0) (0) [.ref 12, .ref p] h (pq_37 h p) := by
  refine AM.of (ax_mfacts (by decide +kernel : ax_has 37 = true)).2.2.2.2.2.2 hlst (by rw [hn_37]; exact Nat.le_of_ble_eq_true rfl) ?_
  show AR ax_ns l (ax_mm 37) 1 ty_R _ _ 0 [(0, .ref 12), (1, .ref p)] [] h (0) (0)
  have F : ty_F pW h h := ty_F_refl _ _
  have P0 : pf [13, 14] h h := pf_r _ _
  have hc := hy_cz hH PC
  show AR _ _ _ _ _ _ _ 0 [(0, .ref 12), (1, .ref p)] [] h _ _
  refine AR.s (pc' := 1) (lv' := [(0, .ref 12), (1, .ref p)]) (st' := [.ref 12]) (h' := h) _ hn_37 hk_37_0 rfl ?_
  refine AR.gR hk_37_1 (by decide) hH (q := 12) (n := 2) (by decide) (by decide +kernel) (by decide +kernel) (by decide) hy_t12_0 ?_
  show AR _ _ _ _ _ _ _ 4 [(0, .ref 12), (1, .ref p)] [.ref 13] h _ _
  refine AR.iconstT hk_37_4 (by decide) (fun z247 ez247 => ?_)
  show AR _ _ _ _ _ _ _ 5 [(0, .ref 12), (1, .ref p)] [.int z247, .ref 13] h _ _
  refine AR.lconstT hk_37_5 (fun z248 ez248 => ?_)
  have kz248 : z248 = 0 := Int64.toInt_inj.mp (ez248.trans rfl)
  show AR _ _ _ _ _ _ _ 6 [(0, .ref 12), (1, .ref p)] [.long z248, .int z247, .ref 13] h _ _
  have r249a := Int64.le_toInt z248
  have r249b := Int64.toInt_lt z248
  refine AR.lsT hk_37_6 hH F (q := 13) (n := 64) (by decide) (by decide +kernel) (by decide +kernel) (by decide +kernel) hy_t13_0 (by omega) (by omega) (by omega) (by omega) (by decide +kernel) ?_
  rintro g250 ⟨Hg250, Fg250, Gg250, Eg250⟩
  show AR _ _ _ _ _ _ _ 7 [(0, .ref 12), (1, .ref p)] [] g250 _ _
  have pg250 : pf [13, 14] h g250 := pf_st P0 Gg250.1 Eg250 (by simp)
  have la := hz_put Eg250
  refine AR.s (pc' := 8) (lv' := [(0, .ref 12), (1, .ref p)]) (st' := [.ref 12]) (h' := g250) _ hn_37 hk_37_7 rfl ?_
  refine AR.gR hk_37_8 (by decide) Hg250 (q := 12) (n := 2) (by decide) (by decide +kernel) (by decide +kernel) (by decide) hy_t12_1 ?_
  show AR _ _ _ _ _ _ _ 11 [(0, .ref 12), (1, .ref p)] [.ref 14] g250 _ _
  refine AR.iconstT hk_37_11 (by decide) (fun z251 ez251 => ?_)
  show AR _ _ _ _ _ _ _ 12 [(0, .ref 12), (1, .ref p)] [.int z251, .ref 14] g250 _ _
  refine AR.lconstT hk_37_12 (fun z252 ez252 => ?_)
  have kz252 : z252 = 0 := Int64.toInt_inj.mp (ez252.trans rfl)
  show AR _ _ _ _ _ _ _ 13 [(0, .ref 12), (1, .ref p)] [.long z252, .int z251, .ref 14] g250 _ _
  have r253a := Int64.le_toInt z252
  have r253b := Int64.toInt_lt z252
  refine AR.lsT hk_37_13 Hg250 Fg250 (q := 14) (n := 64) (by decide) (by decide +kernel) (by decide +kernel) (by decide +kernel) hy_t14_0 (by omega) (by omega) (by omega) (by omega) (by decide +kernel) ?_
  rintro g254 ⟨Hg254, Fg254, Gg254, Eg254⟩
  show AR _ _ _ _ _ _ _ 14 [(0, .ref 12), (1, .ref p)] [] g254 _ _
  have pg254 : pf [13, 14] h g254 := pf_st pg250 Gg254.1 Eg254 (by simp)
  have lb := hz_put Eg254
  have lo0 : ∀ k, k < 2 ^ 0 → hy_z g254 13 k = tb (hy_z h (p + 1)) 0 0 k := fun k hk => by
    have e1 : hy_z g254 13 k = hy_z g250 13 k := hy_ze (by rw [Eg254, if_neg (fun c => absurd c.1 (by decide))])
    rw [e1, la, if_pos (by omega)]
    show _ = (0 : Int)
    omega
  have up0 : ∀ k, k < 2 ^ 0 → hy_z g254 14 k = tb (hy_z h (p + 1)) 6 0 k := fun k hk => by
    rw [lb, if_pos (by omega)]
    show _ = (0 : Int)
    omega
  show AR _ _ _ _ _ _ _ 14 [(0, .ref 12), (1, .ref p)] [] g254 _ _
  refine AR.iconstT hk_37_14 (by decide) (fun z255 ez255 => ?_)
  show AR _ _ _ _ _ _ _ 15 [(0, .ref 12), (1, .ref p)] [.int z255] g254 _ _
  refine AR.s (pc' := 16) (lv' := [(2, .int z255), (0, .ref 12), (1, .ref p)]) (st' := []) (h' := g254) _ hn_37 hk_37_15 rfl ?_
  refine AR.lessL (lv' := [(2, .int z255), (1, .ref p), (0, .ref 12)]) (List.forall_mem_cons.mpr ⟨⟨_, by simp, ax_le_rfl rfl⟩, (List.forall_mem_cons.mpr ⟨⟨_, by simp, ax_le_rfl rfl⟩, (List.forall_mem_cons.mpr ⟨⟨_, by simp, ax_le_rfl rfl⟩, (fun _ h => absurd h List.not_mem_nil)⟩)⟩)⟩) ?_
  refine AR.s (pc' := 17) (lv' := [(2, .int z255), (1, .ref p), (0, .ref 12)]) (st' := [.int z255]) (h' := g254) _ hn_37 hk_37_16 rfl ?_
  refine AR.bipushT hk_37_17 (by decide) (fun z256 ez256 => ?_)
  show AR _ _ _ _ _ _ _ 19 [(2, .int z255), (1, .ref p), (0, .ref 12)] [.int z256, .int z255] g254 _ _
  refine AR.jge hk_37_19 (tgt := 59) (by decide) (fun a0 => ?_) (fun b0 => ?_)
  · exact absurd a0 (by omega)
  · refine AR.s (pc' := 23) (lv' := [(2, .int z255), (1, .ref p), (0, .ref 12)]) (st' := [.ref p]) (h' := g254) _ hn_37 hk_37_22 rfl ?_
    refine AR.gR hk_37_23 (by decide) Hg254 (q := p) (n := 3) (by have := PC.2.1; omega) PC.2.2.1 PC.2.2.2.1 (by decide) PC.2.2.2.2.1 ?_
    show AR _ _ _ _ _ _ _ 26 [(2, .int z255), (1, .ref p), (0, .ref 12)] [.ref (p + 1)] g254 _ _
    refine AR.iconstT hk_37_26 (by decide) (fun z257 ez257 => ?_)
    show AR _ _ _ _ _ _ _ 27 [(2, .int z255), (1, .ref p), (0, .ref 12)] [.int z257, .ref (p + 1)] g254 _ _
    refine AR.s (pc' := 28) (lv' := [(2, .int z255), (1, .ref p), (0, .ref 12)]) (st' := [.int z255, .int z257, .ref (p + 1)]) (h' := g254) _ hn_37 hk_37_27 rfl ?_
    refine AR.mulcT hk_37_28 ez257 (by omega) (by omega) (fun z258 ez258 => ?_)
    show AR _ _ _ _ _ _ _ 29 [(2, .int z255), (1, .ref p), (0, .ref 12)] [.int z258, .ref (p + 1)] g254 _ _
    refine AR.iaI hk_37_29 Hg254 (q := p + 1) (n := 24) PC.2.1 PC.2.2.2.2.2.2.2.1 PC.2.2.2.2.2.2.2.2.1 PC.2.2.2.2.2.2.2.2.2.1 PC.2.2.2.2.2.2.2.2.2.2.1 (by omega) (by omega) (fun x259 dx259 lx259 ux259 => ?_)
    show AR _ _ _ _ _ _ _ 30 [(2, .int z255), (1, .ref p), (0, .ref 12)] [.int x259] g254 _ _
    have j0 : z258.toNatClampNeg = 0 := by show z258.toInt.toNat = 0; omega
    rw [j0] at dx259
    have c0a := hy_zi dx259
    rw [pg254.z (by simp; omega)] at c0a
    show AR _ _ _ _ _ _ _ 30 [(2, .int z255), (1, .ref p), (0, .ref 12)] [.int x259] g254 _ _
    refine AR.i2lT hk_37_30 (fun z260 ez260 => ?_)
    show AR _ _ _ _ _ _ _ 31 [(2, .int z255), (1, .ref p), (0, .ref 12)] [.long z260] g254 _ _
    refine AR.s (pc' := 32) (lv' := [(3, .long z260), (2, .int z255), (1, .ref p), (0, .ref 12)]) (st' := []) (h' := g254) _ hn_37 hk_37_31 rfl ?_
    refine AR.s (pc' := 33) (lv' := [(3, .long z260), (2, .int z255), (1, .ref p), (0, .ref 12)]) (st' := [.ref p]) (h' := g254) _ hn_37 hk_37_32 rfl ?_
    refine AR.gR hk_37_33 (by decide) Hg254 (q := p) (n := 3) (by have := PC.2.1; omega) PC.2.2.1 PC.2.2.2.1 (by decide) PC.2.2.2.2.1 ?_
    show AR _ _ _ _ _ _ _ 36 [(3, .long z260), (2, .int z255), (1, .ref p), (0, .ref 12)] [.ref (p + 1)] g254 _ _
    refine AR.iconstT hk_37_36 (by decide) (fun z261 ez261 => ?_)
    show AR _ _ _ _ _ _ _ 37 [(3, .long z260), (2, .int z255), (1, .ref p), (0, .ref 12)] [.int z261, .ref (p + 1)] g254 _ _
    refine AR.s (pc' := 38) (lv' := [(3, .long z260), (2, .int z255), (1, .ref p), (0, .ref 12)]) (st' := [.int z255, .int z261, .ref (p + 1)]) (h' := g254) _ hn_37 hk_37_37 rfl ?_
    refine AR.mulcT hk_37_38 ez261 (by omega) (by omega) (fun z262 ez262 => ?_)
    show AR _ _ _ _ _ _ _ 39 [(3, .long z260), (2, .int z255), (1, .ref p), (0, .ref 12)] [.int z262, .ref (p + 1)] g254 _ _
    refine AR.iconstT hk_37_39 (by decide) (fun z263 ez263 => ?_)
    show AR _ _ _ _ _ _ _ 40 [(3, .long z260), (2, .int z255), (1, .ref p), (0, .ref 12)] [.int z263, .int z262, .ref (p + 1)] g254 _ _
    refine AR.addT hk_37_40 (by omega) (by omega) (fun z264 ez264 => ?_)
    show AR _ _ _ _ _ _ _ 41 [(3, .long z260), (2, .int z255), (1, .ref p), (0, .ref 12)] [.int z264, .ref (p + 1)] g254 _ _
    refine AR.iaI hk_37_41 Hg254 (q := p + 1) (n := 24) PC.2.1 PC.2.2.2.2.2.2.2.1 PC.2.2.2.2.2.2.2.2.1 PC.2.2.2.2.2.2.2.2.2.1 PC.2.2.2.2.2.2.2.2.2.2.1 (by omega) (by omega) (fun x265 dx265 lx265 ux265 => ?_)
    show AR _ _ _ _ _ _ _ 42 [(3, .long z260), (2, .int z255), (1, .ref p), (0, .ref 12)] [.int x265] g254 _ _
    have k0 : z264.toNatClampNeg = 1 := by show z264.toInt.toNat = 1; omega
    rw [k0] at dx265
    have c0b := hy_zi dx265
    rw [pg254.z (by simp; omega)] at c0b
    show AR _ _ _ _ _ _ _ 42 [(3, .long z260), (2, .int z255), (1, .ref p), (0, .ref 12)] [.int x265] g254 _ _
    refine AR.i2lT hk_37_42 (fun z266 ez266 => ?_)
    show AR _ _ _ _ _ _ _ 43 [(3, .long z260), (2, .int z255), (1, .ref p), (0, .ref 12)] [.long z266] g254 _ _
    refine AR.s (pc' := 45) (lv' := [(5, .long z266), (3, .long z260), (2, .int z255), (1, .ref p), (0, .ref 12)]) (st' := []) (h' := g254) _ hn_37 hk_37_43 rfl ?_
    refine AR.s (pc' := 46) (lv' := [(5, .long z266), (3, .long z260), (2, .int z255), (1, .ref p), (0, .ref 12)]) (st' := [.ref 12]) (h' := g254) _ hn_37 hk_37_45 rfl ?_
    refine AR.s (pc' := 47) (lv' := [(5, .long z266), (3, .long z260), (2, .int z255), (1, .ref p), (0, .ref 12)]) (st' := [.int z255, .ref 12]) (h' := g254) _ hn_37 hk_37_46 rfl ?_
    refine AR.s (pc' := 48) (lv' := [(5, .long z266), (3, .long z260), (2, .int z255), (1, .ref p), (0, .ref 12)]) (st' := [.long z260, .int z255, .ref 12]) (h' := g254) _ hn_37 hk_37_47 rfl ?_
    refine AR.s (pc' := 50) (lv' := [(5, .long z266), (3, .long z260), (2, .int z255), (1, .ref p), (0, .ref 12)]) (st' := [.long z266, .long z260, .int z255, .ref 12]) (h' := g254) _ hn_37 hk_37_48 rfl ?_
    have hc1 := hc 0 (by decide)
    have hc2 := hc 1 (by decide)
    obtain ⟨w0, t0⟩ := p_c12 Hg254
    refine AR.jr (r := 12) (as := [.int z255, .long z260, .long z266]) (rest := []) hk_37_50 (by decide) (by decide +kernel) (by decide) t0 rfl rfl (Nat.le_of_ble_eq_true rfl) (p_39_13 hlst (n := 0) Hg254 (by omega) (by decide) (by decide) (by omega) (by omega) (fun k hk => by rw [lo0 k hk]; have := tb_bd (o := 0) hc 0 k (by decide); omega)) (by decide) (Nat.zero_le _) (Nat.zero_le _) ?_ (fun E h' q => by cases q.1)
    rintro w gv0 ⟨e, Hgv0, Qgv0, Rgv0⟩
    cases e
    have Pgv0 : pf [13, 14] h gv0 := pf.tr pg254 Qgv0 (by simp)
    have lo1 : ∀ k, k < 2 ^ 1 → hy_z gv0 13 k = tb (hy_z h (p + 1)) 0 1 k := tb_step (n := 0) (o := 0) lo0 (show z260.toInt = hy_z h (p + 1) 0 by omega) (show z266.toInt = hy_z h (p + 1) 1 by omega) Rgv0
    have up00 : ∀ k, k < 2 ^ 0 → hy_z gv0 14 k = tb (hy_z h (p + 1)) 6 0 k := fun k hk => by rw [Qgv0.z (by decide)]; exact up0 k hk
    show AR _ _ _ _ _ _ _ 53 [(5, .long z266), (3, .long z260), (2, .int z255), (1, .ref p), (0, .ref 12)] [] gv0 _ _
    refine AR.iincT hk_37_53 (x := z255) rfl (by rw [hn_37]; decide) (by decide) (by omega) (by omega) (fun z267 ez267 => ?_)
    show AR _ _ _ _ _ _ _ 56 [(2, .int z267), (5, .long z266), (3, .long z260), (1, .ref p), (0, .ref 12)] [] gv0 _ _
    refine AR.gotoT hk_37_56 (tgt := 16) (by decide) ?_
    refine AR.lessL (lv' := [(2, .int z267), (1, .ref p), (0, .ref 12)]) (List.forall_mem_cons.mpr ⟨⟨_, by simp, ax_le_rfl rfl⟩, (List.forall_mem_cons.mpr ⟨⟨_, by simp, ax_le_rfl rfl⟩, (List.forall_mem_cons.mpr ⟨⟨_, by simp, ax_le_rfl rfl⟩, (fun _ h => absurd h List.not_mem_nil)⟩)⟩)⟩) ?_
    refine AR.s (pc' := 17) (lv' := [(2, .int z267), (1, .ref p), (0, .ref 12)]) (st' := [.int z267]) (h' := gv0) _ hn_37 hk_37_16 rfl ?_
    refine AR.bipushT hk_37_17 (by decide) (fun z268 ez268 => ?_)
    show AR _ _ _ _ _ _ _ 19 [(2, .int z267), (1, .ref p), (0, .ref 12)] [.int z268, .int z267] gv0 _ _
    refine AR.jge hk_37_19 (tgt := 59) (by decide) (fun a1 => ?_) (fun b1 => ?_)
    · exact absurd a1 (by omega)
    · refine AR.s (pc' := 23) (lv' := [(2, .int z267), (1, .ref p), (0, .ref 12)]) (st' := [.ref p]) (h' := gv0) _ hn_37 hk_37_22 rfl ?_
      refine AR.gR hk_37_23 (by decide) Hgv0 (q := p) (n := 3) (by have := PC.2.1; omega) PC.2.2.1 PC.2.2.2.1 (by decide) PC.2.2.2.2.1 ?_
      show AR _ _ _ _ _ _ _ 26 [(2, .int z267), (1, .ref p), (0, .ref 12)] [.ref (p + 1)] gv0 _ _
      refine AR.iconstT hk_37_26 (by decide) (fun z269 ez269 => ?_)
      show AR _ _ _ _ _ _ _ 27 [(2, .int z267), (1, .ref p), (0, .ref 12)] [.int z269, .ref (p + 1)] gv0 _ _
      refine AR.s (pc' := 28) (lv' := [(2, .int z267), (1, .ref p), (0, .ref 12)]) (st' := [.int z267, .int z269, .ref (p + 1)]) (h' := gv0) _ hn_37 hk_37_27 rfl ?_
      refine AR.mulcT hk_37_28 ez269 (by omega) (by omega) (fun z270 ez270 => ?_)
      show AR _ _ _ _ _ _ _ 29 [(2, .int z267), (1, .ref p), (0, .ref 12)] [.int z270, .ref (p + 1)] gv0 _ _
      refine AR.iaI hk_37_29 Hgv0 (q := p + 1) (n := 24) PC.2.1 PC.2.2.2.2.2.2.2.1 PC.2.2.2.2.2.2.2.2.1 PC.2.2.2.2.2.2.2.2.2.1 PC.2.2.2.2.2.2.2.2.2.2.1 (by omega) (by omega) (fun x271 dx271 lx271 ux271 => ?_)
      show AR _ _ _ _ _ _ _ 30 [(2, .int z267), (1, .ref p), (0, .ref 12)] [.int x271] gv0 _ _
      have j1 : z270.toNatClampNeg = 2 := by show z270.toInt.toNat = 2; omega
      rw [j1] at dx271
      have c1a := hy_zi dx271
      rw [Pgv0.z (by simp; omega)] at c1a
      show AR _ _ _ _ _ _ _ 30 [(2, .int z267), (1, .ref p), (0, .ref 12)] [.int x271] gv0 _ _
      refine AR.i2lT hk_37_30 (fun z272 ez272 => ?_)
      show AR _ _ _ _ _ _ _ 31 [(2, .int z267), (1, .ref p), (0, .ref 12)] [.long z272] gv0 _ _
      refine AR.s (pc' := 32) (lv' := [(3, .long z272), (2, .int z267), (1, .ref p), (0, .ref 12)]) (st' := []) (h' := gv0) _ hn_37 hk_37_31 rfl ?_
      refine AR.s (pc' := 33) (lv' := [(3, .long z272), (2, .int z267), (1, .ref p), (0, .ref 12)]) (st' := [.ref p]) (h' := gv0) _ hn_37 hk_37_32 rfl ?_
      refine AR.gR hk_37_33 (by decide) Hgv0 (q := p) (n := 3) (by have := PC.2.1; omega) PC.2.2.1 PC.2.2.2.1 (by decide) PC.2.2.2.2.1 ?_
      show AR _ _ _ _ _ _ _ 36 [(3, .long z272), (2, .int z267), (1, .ref p), (0, .ref 12)] [.ref (p + 1)] gv0 _ _
      refine AR.iconstT hk_37_36 (by decide) (fun z273 ez273 => ?_)
      show AR _ _ _ _ _ _ _ 37 [(3, .long z272), (2, .int z267), (1, .ref p), (0, .ref 12)] [.int z273, .ref (p + 1)] gv0 _ _
      refine AR.s (pc' := 38) (lv' := [(3, .long z272), (2, .int z267), (1, .ref p), (0, .ref 12)]) (st' := [.int z267, .int z273, .ref (p + 1)]) (h' := gv0) _ hn_37 hk_37_37 rfl ?_
      refine AR.mulcT hk_37_38 ez273 (by omega) (by omega) (fun z274 ez274 => ?_)
      show AR _ _ _ _ _ _ _ 39 [(3, .long z272), (2, .int z267), (1, .ref p), (0, .ref 12)] [.int z274, .ref (p + 1)] gv0 _ _
      refine AR.iconstT hk_37_39 (by decide) (fun z275 ez275 => ?_)
      show AR _ _ _ _ _ _ _ 40 [(3, .long z272), (2, .int z267), (1, .ref p), (0, .ref 12)] [.int z275, .int z274, .ref (p + 1)] gv0 _ _
      refine AR.addT hk_37_40 (by omega) (by omega) (fun z276 ez276 => ?_)
      show AR _ _ _ _ _ _ _ 41 [(3, .long z272), (2, .int z267), (1, .ref p), (0, .ref 12)] [.int z276, .ref (p + 1)] gv0 _ _
      refine AR.iaI hk_37_41 Hgv0 (q := p + 1) (n := 24) PC.2.1 PC.2.2.2.2.2.2.2.1 PC.2.2.2.2.2.2.2.2.1 PC.2.2.2.2.2.2.2.2.2.1 PC.2.2.2.2.2.2.2.2.2.2.1 (by omega) (by omega) (fun x277 dx277 lx277 ux277 => ?_)
      show AR _ _ _ _ _ _ _ 42 [(3, .long z272), (2, .int z267), (1, .ref p), (0, .ref 12)] [.int x277] gv0 _ _
      have k1 : z276.toNatClampNeg = 3 := by show z276.toInt.toNat = 3; omega
      rw [k1] at dx277
      have c1b := hy_zi dx277
      rw [Pgv0.z (by simp; omega)] at c1b
      show AR _ _ _ _ _ _ _ 42 [(3, .long z272), (2, .int z267), (1, .ref p), (0, .ref 12)] [.int x277] gv0 _ _
      refine AR.i2lT hk_37_42 (fun z278 ez278 => ?_)
      show AR _ _ _ _ _ _ _ 43 [(3, .long z272), (2, .int z267), (1, .ref p), (0, .ref 12)] [.long z278] gv0 _ _
      refine AR.s (pc' := 45) (lv' := [(5, .long z278), (3, .long z272), (2, .int z267), (1, .ref p), (0, .ref 12)]) (st' := []) (h' := gv0) _ hn_37 hk_37_43 rfl ?_
      refine AR.s (pc' := 46) (lv' := [(5, .long z278), (3, .long z272), (2, .int z267), (1, .ref p), (0, .ref 12)]) (st' := [.ref 12]) (h' := gv0) _ hn_37 hk_37_45 rfl ?_
      refine AR.s (pc' := 47) (lv' := [(5, .long z278), (3, .long z272), (2, .int z267), (1, .ref p), (0, .ref 12)]) (st' := [.int z267, .ref 12]) (h' := gv0) _ hn_37 hk_37_46 rfl ?_
      refine AR.s (pc' := 48) (lv' := [(5, .long z278), (3, .long z272), (2, .int z267), (1, .ref p), (0, .ref 12)]) (st' := [.long z272, .int z267, .ref 12]) (h' := gv0) _ hn_37 hk_37_47 rfl ?_
      refine AR.s (pc' := 50) (lv' := [(5, .long z278), (3, .long z272), (2, .int z267), (1, .ref p), (0, .ref 12)]) (st' := [.long z278, .long z272, .int z267, .ref 12]) (h' := gv0) _ hn_37 hk_37_48 rfl ?_
      have hc1 := hc 2 (by decide)
      have hc2 := hc 3 (by decide)
      obtain ⟨w1, t1⟩ := p_c12 Hgv0
      refine AR.jr (r := 12) (as := [.int z267, .long z272, .long z278]) (rest := []) hk_37_50 (by decide) (by decide +kernel) (by decide) t1 rfl rfl (Nat.le_of_ble_eq_true rfl) (p_39_13 hlst (n := 1) Hgv0 (by omega) (by decide) (by decide) (by omega) (by omega) (fun k hk => by rw [lo1 k hk]; have := tb_bd (o := 0) hc 1 k (by decide); omega)) (by decide) (Nat.zero_le _) (Nat.zero_le _) ?_ (fun E h' q => by cases q.1)
      rintro w gv1 ⟨e, Hgv1, Qgv1, Rgv1⟩
      cases e
      have Pgv1 : pf [13, 14] h gv1 := pf.tr Pgv0 Qgv1 (by simp)
      have lo2 : ∀ k, k < 2 ^ 2 → hy_z gv1 13 k = tb (hy_z h (p + 1)) 0 2 k := tb_step (n := 1) (o := 0) lo1 (show z272.toInt = hy_z h (p + 1) 2 by omega) (show z278.toInt = hy_z h (p + 1) 3 by omega) Rgv1
      have up01 : ∀ k, k < 2 ^ 0 → hy_z gv1 14 k = tb (hy_z h (p + 1)) 6 0 k := fun k hk => by rw [Qgv1.z (by decide)]; exact up00 k hk
      show AR _ _ _ _ _ _ _ 53 [(5, .long z278), (3, .long z272), (2, .int z267), (1, .ref p), (0, .ref 12)] [] gv1 _ _
      refine AR.iincT hk_37_53 (x := z267) rfl (by rw [hn_37]; decide) (by decide) (by omega) (by omega) (fun z279 ez279 => ?_)
      show AR _ _ _ _ _ _ _ 56 [(2, .int z279), (5, .long z278), (3, .long z272), (1, .ref p), (0, .ref 12)] [] gv1 _ _
      refine AR.gotoT hk_37_56 (tgt := 16) (by decide) ?_
      refine AR.lessL (lv' := [(2, .int z279), (1, .ref p), (0, .ref 12)]) (List.forall_mem_cons.mpr ⟨⟨_, by simp, ax_le_rfl rfl⟩, (List.forall_mem_cons.mpr ⟨⟨_, by simp, ax_le_rfl rfl⟩, (List.forall_mem_cons.mpr ⟨⟨_, by simp, ax_le_rfl rfl⟩, (fun _ h => absurd h List.not_mem_nil)⟩)⟩)⟩) ?_
      refine AR.s (pc' := 17) (lv' := [(2, .int z279), (1, .ref p), (0, .ref 12)]) (st' := [.int z279]) (h' := gv1) _ hn_37 hk_37_16 rfl ?_
      refine AR.bipushT hk_37_17 (by decide) (fun z280 ez280 => ?_)
      show AR _ _ _ _ _ _ _ 19 [(2, .int z279), (1, .ref p), (0, .ref 12)] [.int z280, .int z279] gv1 _ _
      refine AR.jge hk_37_19 (tgt := 59) (by decide) (fun a2 => ?_) (fun b2 => ?_)
      · exact absurd a2 (by omega)
      · refine AR.s (pc' := 23) (lv' := [(2, .int z279), (1, .ref p), (0, .ref 12)]) (st' := [.ref p]) (h' := gv1) _ hn_37 hk_37_22 rfl ?_
        refine AR.gR hk_37_23 (by decide) Hgv1 (q := p) (n := 3) (by have := PC.2.1; omega) PC.2.2.1 PC.2.2.2.1 (by decide) PC.2.2.2.2.1 ?_
        show AR _ _ _ _ _ _ _ 26 [(2, .int z279), (1, .ref p), (0, .ref 12)] [.ref (p + 1)] gv1 _ _
        refine AR.iconstT hk_37_26 (by decide) (fun z281 ez281 => ?_)
        show AR _ _ _ _ _ _ _ 27 [(2, .int z279), (1, .ref p), (0, .ref 12)] [.int z281, .ref (p + 1)] gv1 _ _
        refine AR.s (pc' := 28) (lv' := [(2, .int z279), (1, .ref p), (0, .ref 12)]) (st' := [.int z279, .int z281, .ref (p + 1)]) (h' := gv1) _ hn_37 hk_37_27 rfl ?_
        refine AR.mulcT hk_37_28 ez281 (by omega) (by omega) (fun z282 ez282 => ?_)
        show AR _ _ _ _ _ _ _ 29 [(2, .int z279), (1, .ref p), (0, .ref 12)] [.int z282, .ref (p + 1)] gv1 _ _
        refine AR.iaI hk_37_29 Hgv1 (q := p + 1) (n := 24) PC.2.1 PC.2.2.2.2.2.2.2.1 PC.2.2.2.2.2.2.2.2.1 PC.2.2.2.2.2.2.2.2.2.1 PC.2.2.2.2.2.2.2.2.2.2.1 (by omega) (by omega) (fun x283 dx283 lx283 ux283 => ?_)
        show AR _ _ _ _ _ _ _ 30 [(2, .int z279), (1, .ref p), (0, .ref 12)] [.int x283] gv1 _ _
        have j2 : z282.toNatClampNeg = 4 := by show z282.toInt.toNat = 4; omega
        rw [j2] at dx283
        have c2a := hy_zi dx283
        rw [Pgv1.z (by simp; omega)] at c2a
        show AR _ _ _ _ _ _ _ 30 [(2, .int z279), (1, .ref p), (0, .ref 12)] [.int x283] gv1 _ _
        refine AR.i2lT hk_37_30 (fun z284 ez284 => ?_)
        show AR _ _ _ _ _ _ _ 31 [(2, .int z279), (1, .ref p), (0, .ref 12)] [.long z284] gv1 _ _
        refine AR.s (pc' := 32) (lv' := [(3, .long z284), (2, .int z279), (1, .ref p), (0, .ref 12)]) (st' := []) (h' := gv1) _ hn_37 hk_37_31 rfl ?_
        refine AR.s (pc' := 33) (lv' := [(3, .long z284), (2, .int z279), (1, .ref p), (0, .ref 12)]) (st' := [.ref p]) (h' := gv1) _ hn_37 hk_37_32 rfl ?_
        refine AR.gR hk_37_33 (by decide) Hgv1 (q := p) (n := 3) (by have := PC.2.1; omega) PC.2.2.1 PC.2.2.2.1 (by decide) PC.2.2.2.2.1 ?_
        show AR _ _ _ _ _ _ _ 36 [(3, .long z284), (2, .int z279), (1, .ref p), (0, .ref 12)] [.ref (p + 1)] gv1 _ _
        refine AR.iconstT hk_37_36 (by decide) (fun z285 ez285 => ?_)
        show AR _ _ _ _ _ _ _ 37 [(3, .long z284), (2, .int z279), (1, .ref p), (0, .ref 12)] [.int z285, .ref (p + 1)] gv1 _ _
        refine AR.s (pc' := 38) (lv' := [(3, .long z284), (2, .int z279), (1, .ref p), (0, .ref 12)]) (st' := [.int z279, .int z285, .ref (p + 1)]) (h' := gv1) _ hn_37 hk_37_37 rfl ?_
        refine AR.mulcT hk_37_38 ez285 (by omega) (by omega) (fun z286 ez286 => ?_)
        show AR _ _ _ _ _ _ _ 39 [(3, .long z284), (2, .int z279), (1, .ref p), (0, .ref 12)] [.int z286, .ref (p + 1)] gv1 _ _
        refine AR.iconstT hk_37_39 (by decide) (fun z287 ez287 => ?_)
        show AR _ _ _ _ _ _ _ 40 [(3, .long z284), (2, .int z279), (1, .ref p), (0, .ref 12)] [.int z287, .int z286, .ref (p + 1)] gv1 _ _
        refine AR.addT hk_37_40 (by omega) (by omega) (fun z288 ez288 => ?_)
        show AR _ _ _ _ _ _ _ 41 [(3, .long z284), (2, .int z279), (1, .ref p), (0, .ref 12)] [.int z288, .ref (p + 1)] gv1 _ _
        refine AR.iaI hk_37_41 Hgv1 (q := p + 1) (n := 24) PC.2.1 PC.2.2.2.2.2.2.2.1 PC.2.2.2.2.2.2.2.2.1 PC.2.2.2.2.2.2.2.2.2.1 PC.2.2.2.2.2.2.2.2.2.2.1 (by omega) (by omega) (fun x289 dx289 lx289 ux289 => ?_)
        show AR _ _ _ _ _ _ _ 42 [(3, .long z284), (2, .int z279), (1, .ref p), (0, .ref 12)] [.int x289] gv1 _ _
        have k2 : z288.toNatClampNeg = 5 := by show z288.toInt.toNat = 5; omega
        rw [k2] at dx289
        have c2b := hy_zi dx289
        rw [Pgv1.z (by simp; omega)] at c2b
        show AR _ _ _ _ _ _ _ 42 [(3, .long z284), (2, .int z279), (1, .ref p), (0, .ref 12)] [.int x289] gv1 _ _
        refine AR.i2lT hk_37_42 (fun z290 ez290 => ?_)
        show AR _ _ _ _ _ _ _ 43 [(3, .long z284), (2, .int z279), (1, .ref p), (0, .ref 12)] [.long z290] gv1 _ _
        refine AR.s (pc' := 45) (lv' := [(5, .long z290), (3, .long z284), (2, .int z279), (1, .ref p), (0, .ref 12)]) (st' := []) (h' := gv1) _ hn_37 hk_37_43 rfl ?_
        refine AR.s (pc' := 46) (lv' := [(5, .long z290), (3, .long z284), (2, .int z279), (1, .ref p), (0, .ref 12)]) (st' := [.ref 12]) (h' := gv1) _ hn_37 hk_37_45 rfl ?_
        refine AR.s (pc' := 47) (lv' := [(5, .long z290), (3, .long z284), (2, .int z279), (1, .ref p), (0, .ref 12)]) (st' := [.int z279, .ref 12]) (h' := gv1) _ hn_37 hk_37_46 rfl ?_
        refine AR.s (pc' := 48) (lv' := [(5, .long z290), (3, .long z284), (2, .int z279), (1, .ref p), (0, .ref 12)]) (st' := [.long z284, .int z279, .ref 12]) (h' := gv1) _ hn_37 hk_37_47 rfl ?_
        refine AR.s (pc' := 50) (lv' := [(5, .long z290), (3, .long z284), (2, .int z279), (1, .ref p), (0, .ref 12)]) (st' := [.long z290, .long z284, .int z279, .ref 12]) (h' := gv1) _ hn_37 hk_37_48 rfl ?_
        have hc1 := hc 4 (by decide)
        have hc2 := hc 5 (by decide)
        obtain ⟨w2, t2⟩ := p_c12 Hgv1
        refine AR.jr (r := 12) (as := [.int z279, .long z284, .long z290]) (rest := []) hk_37_50 (by decide) (by decide +kernel) (by decide) t2 rfl rfl (Nat.le_of_ble_eq_true rfl) (p_39_13 hlst (n := 2) Hgv1 (by omega) (by decide) (by decide) (by omega) (by omega) (fun k hk => by rw [lo2 k hk]; have := tb_bd (o := 0) hc 2 k (by decide); omega)) (by decide) (Nat.zero_le _) (Nat.zero_le _) ?_ (fun E h' q => by cases q.1)
        rintro w gv2 ⟨e, Hgv2, Qgv2, Rgv2⟩
        cases e
        have Pgv2 : pf [13, 14] h gv2 := pf.tr Pgv1 Qgv2 (by simp)
        have lo3 : ∀ k, k < 2 ^ 3 → hy_z gv2 13 k = tb (hy_z h (p + 1)) 0 3 k := tb_step (n := 2) (o := 0) lo2 (show z284.toInt = hy_z h (p + 1) 4 by omega) (show z290.toInt = hy_z h (p + 1) 5 by omega) Rgv2
        have up02 : ∀ k, k < 2 ^ 0 → hy_z gv2 14 k = tb (hy_z h (p + 1)) 6 0 k := fun k hk => by rw [Qgv2.z (by decide)]; exact up01 k hk
        show AR _ _ _ _ _ _ _ 53 [(5, .long z290), (3, .long z284), (2, .int z279), (1, .ref p), (0, .ref 12)] [] gv2 _ _
        refine AR.iincT hk_37_53 (x := z279) rfl (by rw [hn_37]; decide) (by decide) (by omega) (by omega) (fun z291 ez291 => ?_)
        show AR _ _ _ _ _ _ _ 56 [(2, .int z291), (5, .long z290), (3, .long z284), (1, .ref p), (0, .ref 12)] [] gv2 _ _
        refine AR.gotoT hk_37_56 (tgt := 16) (by decide) ?_
        refine AR.lessL (lv' := [(2, .int z291), (1, .ref p), (0, .ref 12)]) (List.forall_mem_cons.mpr ⟨⟨_, by simp, ax_le_rfl rfl⟩, (List.forall_mem_cons.mpr ⟨⟨_, by simp, ax_le_rfl rfl⟩, (List.forall_mem_cons.mpr ⟨⟨_, by simp, ax_le_rfl rfl⟩, (fun _ h => absurd h List.not_mem_nil)⟩)⟩)⟩) ?_
        refine AR.s (pc' := 17) (lv' := [(2, .int z291), (1, .ref p), (0, .ref 12)]) (st' := [.int z291]) (h' := gv2) _ hn_37 hk_37_16 rfl ?_
        refine AR.bipushT hk_37_17 (by decide) (fun z292 ez292 => ?_)
        show AR _ _ _ _ _ _ _ 19 [(2, .int z291), (1, .ref p), (0, .ref 12)] [.int z292, .int z291] gv2 _ _
        refine AR.jge hk_37_19 (tgt := 59) (by decide) (fun a3 => ?_) (fun b3 => ?_)
        · exact absurd a3 (by omega)
        · refine AR.s (pc' := 23) (lv' := [(2, .int z291), (1, .ref p), (0, .ref 12)]) (st' := [.ref p]) (h' := gv2) _ hn_37 hk_37_22 rfl ?_
          refine AR.gR hk_37_23 (by decide) Hgv2 (q := p) (n := 3) (by have := PC.2.1; omega) PC.2.2.1 PC.2.2.2.1 (by decide) PC.2.2.2.2.1 ?_
          show AR _ _ _ _ _ _ _ 26 [(2, .int z291), (1, .ref p), (0, .ref 12)] [.ref (p + 1)] gv2 _ _
          refine AR.iconstT hk_37_26 (by decide) (fun z293 ez293 => ?_)
          show AR _ _ _ _ _ _ _ 27 [(2, .int z291), (1, .ref p), (0, .ref 12)] [.int z293, .ref (p + 1)] gv2 _ _
          refine AR.s (pc' := 28) (lv' := [(2, .int z291), (1, .ref p), (0, .ref 12)]) (st' := [.int z291, .int z293, .ref (p + 1)]) (h' := gv2) _ hn_37 hk_37_27 rfl ?_
          refine AR.mulcT hk_37_28 ez293 (by omega) (by omega) (fun z294 ez294 => ?_)
          show AR _ _ _ _ _ _ _ 29 [(2, .int z291), (1, .ref p), (0, .ref 12)] [.int z294, .ref (p + 1)] gv2 _ _
          refine AR.iaI hk_37_29 Hgv2 (q := p + 1) (n := 24) PC.2.1 PC.2.2.2.2.2.2.2.1 PC.2.2.2.2.2.2.2.2.1 PC.2.2.2.2.2.2.2.2.2.1 PC.2.2.2.2.2.2.2.2.2.2.1 (by omega) (by omega) (fun x295 dx295 lx295 ux295 => ?_)
          show AR _ _ _ _ _ _ _ 30 [(2, .int z291), (1, .ref p), (0, .ref 12)] [.int x295] gv2 _ _
          have j3 : z294.toNatClampNeg = 6 := by show z294.toInt.toNat = 6; omega
          rw [j3] at dx295
          have c3a := hy_zi dx295
          rw [Pgv2.z (by simp; omega)] at c3a
          show AR _ _ _ _ _ _ _ 30 [(2, .int z291), (1, .ref p), (0, .ref 12)] [.int x295] gv2 _ _
          refine AR.i2lT hk_37_30 (fun z296 ez296 => ?_)
          show AR _ _ _ _ _ _ _ 31 [(2, .int z291), (1, .ref p), (0, .ref 12)] [.long z296] gv2 _ _
          refine AR.s (pc' := 32) (lv' := [(3, .long z296), (2, .int z291), (1, .ref p), (0, .ref 12)]) (st' := []) (h' := gv2) _ hn_37 hk_37_31 rfl ?_
          refine AR.s (pc' := 33) (lv' := [(3, .long z296), (2, .int z291), (1, .ref p), (0, .ref 12)]) (st' := [.ref p]) (h' := gv2) _ hn_37 hk_37_32 rfl ?_
          refine AR.gR hk_37_33 (by decide) Hgv2 (q := p) (n := 3) (by have := PC.2.1; omega) PC.2.2.1 PC.2.2.2.1 (by decide) PC.2.2.2.2.1 ?_
          show AR _ _ _ _ _ _ _ 36 [(3, .long z296), (2, .int z291), (1, .ref p), (0, .ref 12)] [.ref (p + 1)] gv2 _ _
          refine AR.iconstT hk_37_36 (by decide) (fun z297 ez297 => ?_)
          show AR _ _ _ _ _ _ _ 37 [(3, .long z296), (2, .int z291), (1, .ref p), (0, .ref 12)] [.int z297, .ref (p + 1)] gv2 _ _
          refine AR.s (pc' := 38) (lv' := [(3, .long z296), (2, .int z291), (1, .ref p), (0, .ref 12)]) (st' := [.int z291, .int z297, .ref (p + 1)]) (h' := gv2) _ hn_37 hk_37_37 rfl ?_
          refine AR.mulcT hk_37_38 ez297 (by omega) (by omega) (fun z298 ez298 => ?_)
          show AR _ _ _ _ _ _ _ 39 [(3, .long z296), (2, .int z291), (1, .ref p), (0, .ref 12)] [.int z298, .ref (p + 1)] gv2 _ _
          refine AR.iconstT hk_37_39 (by decide) (fun z299 ez299 => ?_)
          show AR _ _ _ _ _ _ _ 40 [(3, .long z296), (2, .int z291), (1, .ref p), (0, .ref 12)] [.int z299, .int z298, .ref (p + 1)] gv2 _ _
          refine AR.addT hk_37_40 (by omega) (by omega) (fun z300 ez300 => ?_)
          show AR _ _ _ _ _ _ _ 41 [(3, .long z296), (2, .int z291), (1, .ref p), (0, .ref 12)] [.int z300, .ref (p + 1)] gv2 _ _
          refine AR.iaI hk_37_41 Hgv2 (q := p + 1) (n := 24) PC.2.1 PC.2.2.2.2.2.2.2.1 PC.2.2.2.2.2.2.2.2.1 PC.2.2.2.2.2.2.2.2.2.1 PC.2.2.2.2.2.2.2.2.2.2.1 (by omega) (by omega) (fun x301 dx301 lx301 ux301 => ?_)
          show AR _ _ _ _ _ _ _ 42 [(3, .long z296), (2, .int z291), (1, .ref p), (0, .ref 12)] [.int x301] gv2 _ _
          have k3 : z300.toNatClampNeg = 7 := by show z300.toInt.toNat = 7; omega
          rw [k3] at dx301
          have c3b := hy_zi dx301
          rw [Pgv2.z (by simp; omega)] at c3b
          show AR _ _ _ _ _ _ _ 42 [(3, .long z296), (2, .int z291), (1, .ref p), (0, .ref 12)] [.int x301] gv2 _ _
          refine AR.i2lT hk_37_42 (fun z302 ez302 => ?_)
          show AR _ _ _ _ _ _ _ 43 [(3, .long z296), (2, .int z291), (1, .ref p), (0, .ref 12)] [.long z302] gv2 _ _
          refine AR.s (pc' := 45) (lv' := [(5, .long z302), (3, .long z296), (2, .int z291), (1, .ref p), (0, .ref 12)]) (st' := []) (h' := gv2) _ hn_37 hk_37_43 rfl ?_
          refine AR.s (pc' := 46) (lv' := [(5, .long z302), (3, .long z296), (2, .int z291), (1, .ref p), (0, .ref 12)]) (st' := [.ref 12]) (h' := gv2) _ hn_37 hk_37_45 rfl ?_
          refine AR.s (pc' := 47) (lv' := [(5, .long z302), (3, .long z296), (2, .int z291), (1, .ref p), (0, .ref 12)]) (st' := [.int z291, .ref 12]) (h' := gv2) _ hn_37 hk_37_46 rfl ?_
          refine AR.s (pc' := 48) (lv' := [(5, .long z302), (3, .long z296), (2, .int z291), (1, .ref p), (0, .ref 12)]) (st' := [.long z296, .int z291, .ref 12]) (h' := gv2) _ hn_37 hk_37_47 rfl ?_
          refine AR.s (pc' := 50) (lv' := [(5, .long z302), (3, .long z296), (2, .int z291), (1, .ref p), (0, .ref 12)]) (st' := [.long z302, .long z296, .int z291, .ref 12]) (h' := gv2) _ hn_37 hk_37_48 rfl ?_
          have hc1 := hc 6 (by decide)
          have hc2 := hc 7 (by decide)
          obtain ⟨w3, t3⟩ := p_c12 Hgv2
          refine AR.jr (r := 12) (as := [.int z291, .long z296, .long z302]) (rest := []) hk_37_50 (by decide) (by decide +kernel) (by decide) t3 rfl rfl (Nat.le_of_ble_eq_true rfl) (p_39_13 hlst (n := 3) Hgv2 (by omega) (by decide) (by decide) (by omega) (by omega) (fun k hk => by rw [lo3 k hk]; have := tb_bd (o := 0) hc 3 k (by decide); omega)) (by decide) (Nat.zero_le _) (Nat.zero_le _) ?_ (fun E h' q => by cases q.1)
          rintro w gv3 ⟨e, Hgv3, Qgv3, Rgv3⟩
          cases e
          have Pgv3 : pf [13, 14] h gv3 := pf.tr Pgv2 Qgv3 (by simp)
          have lo4 : ∀ k, k < 2 ^ 4 → hy_z gv3 13 k = tb (hy_z h (p + 1)) 0 4 k := tb_step (n := 3) (o := 0) lo3 (show z296.toInt = hy_z h (p + 1) 6 by omega) (show z302.toInt = hy_z h (p + 1) 7 by omega) Rgv3
          have up03 : ∀ k, k < 2 ^ 0 → hy_z gv3 14 k = tb (hy_z h (p + 1)) 6 0 k := fun k hk => by rw [Qgv3.z (by decide)]; exact up02 k hk
          show AR _ _ _ _ _ _ _ 53 [(5, .long z302), (3, .long z296), (2, .int z291), (1, .ref p), (0, .ref 12)] [] gv3 _ _
          refine AR.iincT hk_37_53 (x := z291) rfl (by rw [hn_37]; decide) (by decide) (by omega) (by omega) (fun z303 ez303 => ?_)
          show AR _ _ _ _ _ _ _ 56 [(2, .int z303), (5, .long z302), (3, .long z296), (1, .ref p), (0, .ref 12)] [] gv3 _ _
          refine AR.gotoT hk_37_56 (tgt := 16) (by decide) ?_
          refine AR.lessL (lv' := [(2, .int z303), (1, .ref p), (0, .ref 12)]) (List.forall_mem_cons.mpr ⟨⟨_, by simp, ax_le_rfl rfl⟩, (List.forall_mem_cons.mpr ⟨⟨_, by simp, ax_le_rfl rfl⟩, (List.forall_mem_cons.mpr ⟨⟨_, by simp, ax_le_rfl rfl⟩, (fun _ h => absurd h List.not_mem_nil)⟩)⟩)⟩) ?_
          refine AR.s (pc' := 17) (lv' := [(2, .int z303), (1, .ref p), (0, .ref 12)]) (st' := [.int z303]) (h' := gv3) _ hn_37 hk_37_16 rfl ?_
          refine AR.bipushT hk_37_17 (by decide) (fun z304 ez304 => ?_)
          show AR _ _ _ _ _ _ _ 19 [(2, .int z303), (1, .ref p), (0, .ref 12)] [.int z304, .int z303] gv3 _ _
          refine AR.jge hk_37_19 (tgt := 59) (by decide) (fun a4 => ?_) (fun b4 => ?_)
          · exact absurd a4 (by omega)
          · refine AR.s (pc' := 23) (lv' := [(2, .int z303), (1, .ref p), (0, .ref 12)]) (st' := [.ref p]) (h' := gv3) _ hn_37 hk_37_22 rfl ?_
            refine AR.gR hk_37_23 (by decide) Hgv3 (q := p) (n := 3) (by have := PC.2.1; omega) PC.2.2.1 PC.2.2.2.1 (by decide) PC.2.2.2.2.1 ?_
            show AR _ _ _ _ _ _ _ 26 [(2, .int z303), (1, .ref p), (0, .ref 12)] [.ref (p + 1)] gv3 _ _
            refine AR.iconstT hk_37_26 (by decide) (fun z305 ez305 => ?_)
            show AR _ _ _ _ _ _ _ 27 [(2, .int z303), (1, .ref p), (0, .ref 12)] [.int z305, .ref (p + 1)] gv3 _ _
            refine AR.s (pc' := 28) (lv' := [(2, .int z303), (1, .ref p), (0, .ref 12)]) (st' := [.int z303, .int z305, .ref (p + 1)]) (h' := gv3) _ hn_37 hk_37_27 rfl ?_
            refine AR.mulcT hk_37_28 ez305 (by omega) (by omega) (fun z306 ez306 => ?_)
            show AR _ _ _ _ _ _ _ 29 [(2, .int z303), (1, .ref p), (0, .ref 12)] [.int z306, .ref (p + 1)] gv3 _ _
            refine AR.iaI hk_37_29 Hgv3 (q := p + 1) (n := 24) PC.2.1 PC.2.2.2.2.2.2.2.1 PC.2.2.2.2.2.2.2.2.1 PC.2.2.2.2.2.2.2.2.2.1 PC.2.2.2.2.2.2.2.2.2.2.1 (by omega) (by omega) (fun x307 dx307 lx307 ux307 => ?_)
            show AR _ _ _ _ _ _ _ 30 [(2, .int z303), (1, .ref p), (0, .ref 12)] [.int x307] gv3 _ _
            have j4 : z306.toNatClampNeg = 8 := by show z306.toInt.toNat = 8; omega
            rw [j4] at dx307
            have c4a := hy_zi dx307
            rw [Pgv3.z (by simp; omega)] at c4a
            show AR _ _ _ _ _ _ _ 30 [(2, .int z303), (1, .ref p), (0, .ref 12)] [.int x307] gv3 _ _
            refine AR.i2lT hk_37_30 (fun z308 ez308 => ?_)
            show AR _ _ _ _ _ _ _ 31 [(2, .int z303), (1, .ref p), (0, .ref 12)] [.long z308] gv3 _ _
            refine AR.s (pc' := 32) (lv' := [(3, .long z308), (2, .int z303), (1, .ref p), (0, .ref 12)]) (st' := []) (h' := gv3) _ hn_37 hk_37_31 rfl ?_
            refine AR.s (pc' := 33) (lv' := [(3, .long z308), (2, .int z303), (1, .ref p), (0, .ref 12)]) (st' := [.ref p]) (h' := gv3) _ hn_37 hk_37_32 rfl ?_
            refine AR.gR hk_37_33 (by decide) Hgv3 (q := p) (n := 3) (by have := PC.2.1; omega) PC.2.2.1 PC.2.2.2.1 (by decide) PC.2.2.2.2.1 ?_
            show AR _ _ _ _ _ _ _ 36 [(3, .long z308), (2, .int z303), (1, .ref p), (0, .ref 12)] [.ref (p + 1)] gv3 _ _
            refine AR.iconstT hk_37_36 (by decide) (fun z309 ez309 => ?_)
            show AR _ _ _ _ _ _ _ 37 [(3, .long z308), (2, .int z303), (1, .ref p), (0, .ref 12)] [.int z309, .ref (p + 1)] gv3 _ _
            refine AR.s (pc' := 38) (lv' := [(3, .long z308), (2, .int z303), (1, .ref p), (0, .ref 12)]) (st' := [.int z303, .int z309, .ref (p + 1)]) (h' := gv3) _ hn_37 hk_37_37 rfl ?_
            refine AR.mulcT hk_37_38 ez309 (by omega) (by omega) (fun z310 ez310 => ?_)
            show AR _ _ _ _ _ _ _ 39 [(3, .long z308), (2, .int z303), (1, .ref p), (0, .ref 12)] [.int z310, .ref (p + 1)] gv3 _ _
            refine AR.iconstT hk_37_39 (by decide) (fun z311 ez311 => ?_)
            show AR _ _ _ _ _ _ _ 40 [(3, .long z308), (2, .int z303), (1, .ref p), (0, .ref 12)] [.int z311, .int z310, .ref (p + 1)] gv3 _ _
            refine AR.addT hk_37_40 (by omega) (by omega) (fun z312 ez312 => ?_)
            show AR _ _ _ _ _ _ _ 41 [(3, .long z308), (2, .int z303), (1, .ref p), (0, .ref 12)] [.int z312, .ref (p + 1)] gv3 _ _
            refine AR.iaI hk_37_41 Hgv3 (q := p + 1) (n := 24) PC.2.1 PC.2.2.2.2.2.2.2.1 PC.2.2.2.2.2.2.2.2.1 PC.2.2.2.2.2.2.2.2.2.1 PC.2.2.2.2.2.2.2.2.2.2.1 (by omega) (by omega) (fun x313 dx313 lx313 ux313 => ?_)
            show AR _ _ _ _ _ _ _ 42 [(3, .long z308), (2, .int z303), (1, .ref p), (0, .ref 12)] [.int x313] gv3 _ _
            have k4 : z312.toNatClampNeg = 9 := by show z312.toInt.toNat = 9; omega
            rw [k4] at dx313
            have c4b := hy_zi dx313
            rw [Pgv3.z (by simp; omega)] at c4b
            show AR _ _ _ _ _ _ _ 42 [(3, .long z308), (2, .int z303), (1, .ref p), (0, .ref 12)] [.int x313] gv3 _ _
            refine AR.i2lT hk_37_42 (fun z314 ez314 => ?_)
            show AR _ _ _ _ _ _ _ 43 [(3, .long z308), (2, .int z303), (1, .ref p), (0, .ref 12)] [.long z314] gv3 _ _
            refine AR.s (pc' := 45) (lv' := [(5, .long z314), (3, .long z308), (2, .int z303), (1, .ref p), (0, .ref 12)]) (st' := []) (h' := gv3) _ hn_37 hk_37_43 rfl ?_
            refine AR.s (pc' := 46) (lv' := [(5, .long z314), (3, .long z308), (2, .int z303), (1, .ref p), (0, .ref 12)]) (st' := [.ref 12]) (h' := gv3) _ hn_37 hk_37_45 rfl ?_
            refine AR.s (pc' := 47) (lv' := [(5, .long z314), (3, .long z308), (2, .int z303), (1, .ref p), (0, .ref 12)]) (st' := [.int z303, .ref 12]) (h' := gv3) _ hn_37 hk_37_46 rfl ?_
            refine AR.s (pc' := 48) (lv' := [(5, .long z314), (3, .long z308), (2, .int z303), (1, .ref p), (0, .ref 12)]) (st' := [.long z308, .int z303, .ref 12]) (h' := gv3) _ hn_37 hk_37_47 rfl ?_
            refine AR.s (pc' := 50) (lv' := [(5, .long z314), (3, .long z308), (2, .int z303), (1, .ref p), (0, .ref 12)]) (st' := [.long z314, .long z308, .int z303, .ref 12]) (h' := gv3) _ hn_37 hk_37_48 rfl ?_
            have hc1 := hc 8 (by decide)
            have hc2 := hc 9 (by decide)
            obtain ⟨w4, t4⟩ := p_c12 Hgv3
            refine AR.jr (r := 12) (as := [.int z303, .long z308, .long z314]) (rest := []) hk_37_50 (by decide) (by decide +kernel) (by decide) t4 rfl rfl (Nat.le_of_ble_eq_true rfl) (p_39_13 hlst (n := 4) Hgv3 (by omega) (by decide) (by decide) (by omega) (by omega) (fun k hk => by rw [lo4 k hk]; have := tb_bd (o := 0) hc 4 k (by decide); omega)) (by decide) (Nat.zero_le _) (Nat.zero_le _) ?_ (fun E h' q => by cases q.1)
            rintro w gv4 ⟨e, Hgv4, Qgv4, Rgv4⟩
            cases e
            have Pgv4 : pf [13, 14] h gv4 := pf.tr Pgv3 Qgv4 (by simp)
            have lo5 : ∀ k, k < 2 ^ 5 → hy_z gv4 13 k = tb (hy_z h (p + 1)) 0 5 k := tb_step (n := 4) (o := 0) lo4 (show z308.toInt = hy_z h (p + 1) 8 by omega) (show z314.toInt = hy_z h (p + 1) 9 by omega) Rgv4
            have up04 : ∀ k, k < 2 ^ 0 → hy_z gv4 14 k = tb (hy_z h (p + 1)) 6 0 k := fun k hk => by rw [Qgv4.z (by decide)]; exact up03 k hk
            show AR _ _ _ _ _ _ _ 53 [(5, .long z314), (3, .long z308), (2, .int z303), (1, .ref p), (0, .ref 12)] [] gv4 _ _
            refine AR.iincT hk_37_53 (x := z303) rfl (by rw [hn_37]; decide) (by decide) (by omega) (by omega) (fun z315 ez315 => ?_)
            show AR _ _ _ _ _ _ _ 56 [(2, .int z315), (5, .long z314), (3, .long z308), (1, .ref p), (0, .ref 12)] [] gv4 _ _
            refine AR.gotoT hk_37_56 (tgt := 16) (by decide) ?_
            refine AR.lessL (lv' := [(2, .int z315), (1, .ref p), (0, .ref 12)]) (List.forall_mem_cons.mpr ⟨⟨_, by simp, ax_le_rfl rfl⟩, (List.forall_mem_cons.mpr ⟨⟨_, by simp, ax_le_rfl rfl⟩, (List.forall_mem_cons.mpr ⟨⟨_, by simp, ax_le_rfl rfl⟩, (fun _ h => absurd h List.not_mem_nil)⟩)⟩)⟩) ?_
            refine AR.s (pc' := 17) (lv' := [(2, .int z315), (1, .ref p), (0, .ref 12)]) (st' := [.int z315]) (h' := gv4) _ hn_37 hk_37_16 rfl ?_
            refine AR.bipushT hk_37_17 (by decide) (fun z316 ez316 => ?_)
            show AR _ _ _ _ _ _ _ 19 [(2, .int z315), (1, .ref p), (0, .ref 12)] [.int z316, .int z315] gv4 _ _
            refine AR.jge hk_37_19 (tgt := 59) (by decide) (fun a5 => ?_) (fun b5 => ?_)
            · exact absurd a5 (by omega)
            · refine AR.s (pc' := 23) (lv' := [(2, .int z315), (1, .ref p), (0, .ref 12)]) (st' := [.ref p]) (h' := gv4) _ hn_37 hk_37_22 rfl ?_
              refine AR.gR hk_37_23 (by decide) Hgv4 (q := p) (n := 3) (by have := PC.2.1; omega) PC.2.2.1 PC.2.2.2.1 (by decide) PC.2.2.2.2.1 ?_
              show AR _ _ _ _ _ _ _ 26 [(2, .int z315), (1, .ref p), (0, .ref 12)] [.ref (p + 1)] gv4 _ _
              refine AR.iconstT hk_37_26 (by decide) (fun z317 ez317 => ?_)
              show AR _ _ _ _ _ _ _ 27 [(2, .int z315), (1, .ref p), (0, .ref 12)] [.int z317, .ref (p + 1)] gv4 _ _
              refine AR.s (pc' := 28) (lv' := [(2, .int z315), (1, .ref p), (0, .ref 12)]) (st' := [.int z315, .int z317, .ref (p + 1)]) (h' := gv4) _ hn_37 hk_37_27 rfl ?_
              refine AR.mulcT hk_37_28 ez317 (by omega) (by omega) (fun z318 ez318 => ?_)
              show AR _ _ _ _ _ _ _ 29 [(2, .int z315), (1, .ref p), (0, .ref 12)] [.int z318, .ref (p + 1)] gv4 _ _
              refine AR.iaI hk_37_29 Hgv4 (q := p + 1) (n := 24) PC.2.1 PC.2.2.2.2.2.2.2.1 PC.2.2.2.2.2.2.2.2.1 PC.2.2.2.2.2.2.2.2.2.1 PC.2.2.2.2.2.2.2.2.2.2.1 (by omega) (by omega) (fun x319 dx319 lx319 ux319 => ?_)
              show AR _ _ _ _ _ _ _ 30 [(2, .int z315), (1, .ref p), (0, .ref 12)] [.int x319] gv4 _ _
              have j5 : z318.toNatClampNeg = 10 := by show z318.toInt.toNat = 10; omega
              rw [j5] at dx319
              have c5a := hy_zi dx319
              rw [Pgv4.z (by simp; omega)] at c5a
              show AR _ _ _ _ _ _ _ 30 [(2, .int z315), (1, .ref p), (0, .ref 12)] [.int x319] gv4 _ _
              refine AR.i2lT hk_37_30 (fun z320 ez320 => ?_)
              show AR _ _ _ _ _ _ _ 31 [(2, .int z315), (1, .ref p), (0, .ref 12)] [.long z320] gv4 _ _
              refine AR.s (pc' := 32) (lv' := [(3, .long z320), (2, .int z315), (1, .ref p), (0, .ref 12)]) (st' := []) (h' := gv4) _ hn_37 hk_37_31 rfl ?_
              refine AR.s (pc' := 33) (lv' := [(3, .long z320), (2, .int z315), (1, .ref p), (0, .ref 12)]) (st' := [.ref p]) (h' := gv4) _ hn_37 hk_37_32 rfl ?_
              refine AR.gR hk_37_33 (by decide) Hgv4 (q := p) (n := 3) (by have := PC.2.1; omega) PC.2.2.1 PC.2.2.2.1 (by decide) PC.2.2.2.2.1 ?_
              show AR _ _ _ _ _ _ _ 36 [(3, .long z320), (2, .int z315), (1, .ref p), (0, .ref 12)] [.ref (p + 1)] gv4 _ _
              refine AR.iconstT hk_37_36 (by decide) (fun z321 ez321 => ?_)
              show AR _ _ _ _ _ _ _ 37 [(3, .long z320), (2, .int z315), (1, .ref p), (0, .ref 12)] [.int z321, .ref (p + 1)] gv4 _ _
              refine AR.s (pc' := 38) (lv' := [(3, .long z320), (2, .int z315), (1, .ref p), (0, .ref 12)]) (st' := [.int z315, .int z321, .ref (p + 1)]) (h' := gv4) _ hn_37 hk_37_37 rfl ?_
              refine AR.mulcT hk_37_38 ez321 (by omega) (by omega) (fun z322 ez322 => ?_)
              show AR _ _ _ _ _ _ _ 39 [(3, .long z320), (2, .int z315), (1, .ref p), (0, .ref 12)] [.int z322, .ref (p + 1)] gv4 _ _
              refine AR.iconstT hk_37_39 (by decide) (fun z323 ez323 => ?_)
              show AR _ _ _ _ _ _ _ 40 [(3, .long z320), (2, .int z315), (1, .ref p), (0, .ref 12)] [.int z323, .int z322, .ref (p + 1)] gv4 _ _
              refine AR.addT hk_37_40 (by omega) (by omega) (fun z324 ez324 => ?_)
              show AR _ _ _ _ _ _ _ 41 [(3, .long z320), (2, .int z315), (1, .ref p), (0, .ref 12)] [.int z324, .ref (p + 1)] gv4 _ _
              refine AR.iaI hk_37_41 Hgv4 (q := p + 1) (n := 24) PC.2.1 PC.2.2.2.2.2.2.2.1 PC.2.2.2.2.2.2.2.2.1 PC.2.2.2.2.2.2.2.2.2.1 PC.2.2.2.2.2.2.2.2.2.2.1 (by omega) (by omega) (fun x325 dx325 lx325 ux325 => ?_)
              show AR _ _ _ _ _ _ _ 42 [(3, .long z320), (2, .int z315), (1, .ref p), (0, .ref 12)] [.int x325] gv4 _ _
              have k5 : z324.toNatClampNeg = 11 := by show z324.toInt.toNat = 11; omega
              rw [k5] at dx325
              have c5b := hy_zi dx325
              rw [Pgv4.z (by simp; omega)] at c5b
              show AR _ _ _ _ _ _ _ 42 [(3, .long z320), (2, .int z315), (1, .ref p), (0, .ref 12)] [.int x325] gv4 _ _
              refine AR.i2lT hk_37_42 (fun z326 ez326 => ?_)
              show AR _ _ _ _ _ _ _ 43 [(3, .long z320), (2, .int z315), (1, .ref p), (0, .ref 12)] [.long z326] gv4 _ _
              refine AR.s (pc' := 45) (lv' := [(5, .long z326), (3, .long z320), (2, .int z315), (1, .ref p), (0, .ref 12)]) (st' := []) (h' := gv4) _ hn_37 hk_37_43 rfl ?_
              refine AR.s (pc' := 46) (lv' := [(5, .long z326), (3, .long z320), (2, .int z315), (1, .ref p), (0, .ref 12)]) (st' := [.ref 12]) (h' := gv4) _ hn_37 hk_37_45 rfl ?_
              refine AR.s (pc' := 47) (lv' := [(5, .long z326), (3, .long z320), (2, .int z315), (1, .ref p), (0, .ref 12)]) (st' := [.int z315, .ref 12]) (h' := gv4) _ hn_37 hk_37_46 rfl ?_
              refine AR.s (pc' := 48) (lv' := [(5, .long z326), (3, .long z320), (2, .int z315), (1, .ref p), (0, .ref 12)]) (st' := [.long z320, .int z315, .ref 12]) (h' := gv4) _ hn_37 hk_37_47 rfl ?_
              refine AR.s (pc' := 50) (lv' := [(5, .long z326), (3, .long z320), (2, .int z315), (1, .ref p), (0, .ref 12)]) (st' := [.long z326, .long z320, .int z315, .ref 12]) (h' := gv4) _ hn_37 hk_37_48 rfl ?_
              have hc1 := hc 10 (by decide)
              have hc2 := hc 11 (by decide)
              obtain ⟨w5, t5⟩ := p_c12 Hgv4
              refine AR.jr (r := 12) (as := [.int z315, .long z320, .long z326]) (rest := []) hk_37_50 (by decide) (by decide +kernel) (by decide) t5 rfl rfl (Nat.le_of_ble_eq_true rfl) (p_39_13 hlst (n := 5) Hgv4 (by omega) (by decide) (by decide) (by omega) (by omega) (fun k hk => by rw [lo5 k hk]; have := tb_bd (o := 0) hc 5 k (by decide); omega)) (by decide) (Nat.zero_le _) (Nat.zero_le _) ?_ (fun E h' q => by cases q.1)
              rintro w gv5 ⟨e, Hgv5, Qgv5, Rgv5⟩
              cases e
              have Pgv5 : pf [13, 14] h gv5 := pf.tr Pgv4 Qgv5 (by simp)
              have lo6 : ∀ k, k < 2 ^ 6 → hy_z gv5 13 k = tb (hy_z h (p + 1)) 0 6 k := tb_step (n := 5) (o := 0) lo5 (show z320.toInt = hy_z h (p + 1) 10 by omega) (show z326.toInt = hy_z h (p + 1) 11 by omega) Rgv5
              have up05 : ∀ k, k < 2 ^ 0 → hy_z gv5 14 k = tb (hy_z h (p + 1)) 6 0 k := fun k hk => by rw [Qgv5.z (by decide)]; exact up04 k hk
              show AR _ _ _ _ _ _ _ 53 [(5, .long z326), (3, .long z320), (2, .int z315), (1, .ref p), (0, .ref 12)] [] gv5 _ _
              refine AR.iincT hk_37_53 (x := z315) rfl (by rw [hn_37]; decide) (by decide) (by omega) (by omega) (fun z327 ez327 => ?_)
              show AR _ _ _ _ _ _ _ 56 [(2, .int z327), (5, .long z326), (3, .long z320), (1, .ref p), (0, .ref 12)] [] gv5 _ _
              refine AR.gotoT hk_37_56 (tgt := 16) (by decide) ?_
              refine AR.lessL (lv' := [(2, .int z327), (1, .ref p), (0, .ref 12)]) (List.forall_mem_cons.mpr ⟨⟨_, by simp, ax_le_rfl rfl⟩, (List.forall_mem_cons.mpr ⟨⟨_, by simp, ax_le_rfl rfl⟩, (List.forall_mem_cons.mpr ⟨⟨_, by simp, ax_le_rfl rfl⟩, (fun _ h => absurd h List.not_mem_nil)⟩)⟩)⟩) ?_
              refine AR.s (pc' := 17) (lv' := [(2, .int z327), (1, .ref p), (0, .ref 12)]) (st' := [.int z327]) (h' := gv5) _ hn_37 hk_37_16 rfl ?_
              refine AR.bipushT hk_37_17 (by decide) (fun z328 ez328 => ?_)
              show AR _ _ _ _ _ _ _ 19 [(2, .int z327), (1, .ref p), (0, .ref 12)] [.int z328, .int z327] gv5 _ _
              refine AR.jge hk_37_19 (tgt := 59) (by decide) (fun a6 => ?_) (fun b6 => ?_)
              · exact absurd a6 (by omega)
              · refine AR.s (pc' := 23) (lv' := [(2, .int z327), (1, .ref p), (0, .ref 12)]) (st' := [.ref p]) (h' := gv5) _ hn_37 hk_37_22 rfl ?_
                refine AR.gR hk_37_23 (by decide) Hgv5 (q := p) (n := 3) (by have := PC.2.1; omega) PC.2.2.1 PC.2.2.2.1 (by decide) PC.2.2.2.2.1 ?_
                show AR _ _ _ _ _ _ _ 26 [(2, .int z327), (1, .ref p), (0, .ref 12)] [.ref (p + 1)] gv5 _ _
                refine AR.iconstT hk_37_26 (by decide) (fun z329 ez329 => ?_)
                show AR _ _ _ _ _ _ _ 27 [(2, .int z327), (1, .ref p), (0, .ref 12)] [.int z329, .ref (p + 1)] gv5 _ _
                refine AR.s (pc' := 28) (lv' := [(2, .int z327), (1, .ref p), (0, .ref 12)]) (st' := [.int z327, .int z329, .ref (p + 1)]) (h' := gv5) _ hn_37 hk_37_27 rfl ?_
                refine AR.mulcT hk_37_28 ez329 (by omega) (by omega) (fun z330 ez330 => ?_)
                show AR _ _ _ _ _ _ _ 29 [(2, .int z327), (1, .ref p), (0, .ref 12)] [.int z330, .ref (p + 1)] gv5 _ _
                refine AR.iaI hk_37_29 Hgv5 (q := p + 1) (n := 24) PC.2.1 PC.2.2.2.2.2.2.2.1 PC.2.2.2.2.2.2.2.2.1 PC.2.2.2.2.2.2.2.2.2.1 PC.2.2.2.2.2.2.2.2.2.2.1 (by omega) (by omega) (fun x331 dx331 lx331 ux331 => ?_)
                show AR _ _ _ _ _ _ _ 30 [(2, .int z327), (1, .ref p), (0, .ref 12)] [.int x331] gv5 _ _
                have j6 : z330.toNatClampNeg = 12 := by show z330.toInt.toNat = 12; omega
                rw [j6] at dx331
                have c6a := hy_zi dx331
                rw [Pgv5.z (by simp; omega)] at c6a
                show AR _ _ _ _ _ _ _ 30 [(2, .int z327), (1, .ref p), (0, .ref 12)] [.int x331] gv5 _ _
                refine AR.i2lT hk_37_30 (fun z332 ez332 => ?_)
                show AR _ _ _ _ _ _ _ 31 [(2, .int z327), (1, .ref p), (0, .ref 12)] [.long z332] gv5 _ _
                refine AR.s (pc' := 32) (lv' := [(3, .long z332), (2, .int z327), (1, .ref p), (0, .ref 12)]) (st' := []) (h' := gv5) _ hn_37 hk_37_31 rfl ?_
                refine AR.s (pc' := 33) (lv' := [(3, .long z332), (2, .int z327), (1, .ref p), (0, .ref 12)]) (st' := [.ref p]) (h' := gv5) _ hn_37 hk_37_32 rfl ?_
                refine AR.gR hk_37_33 (by decide) Hgv5 (q := p) (n := 3) (by have := PC.2.1; omega) PC.2.2.1 PC.2.2.2.1 (by decide) PC.2.2.2.2.1 ?_
                show AR _ _ _ _ _ _ _ 36 [(3, .long z332), (2, .int z327), (1, .ref p), (0, .ref 12)] [.ref (p + 1)] gv5 _ _
                refine AR.iconstT hk_37_36 (by decide) (fun z333 ez333 => ?_)
                show AR _ _ _ _ _ _ _ 37 [(3, .long z332), (2, .int z327), (1, .ref p), (0, .ref 12)] [.int z333, .ref (p + 1)] gv5 _ _
                refine AR.s (pc' := 38) (lv' := [(3, .long z332), (2, .int z327), (1, .ref p), (0, .ref 12)]) (st' := [.int z327, .int z333, .ref (p + 1)]) (h' := gv5) _ hn_37 hk_37_37 rfl ?_
                refine AR.mulcT hk_37_38 ez333 (by omega) (by omega) (fun z334 ez334 => ?_)
                show AR _ _ _ _ _ _ _ 39 [(3, .long z332), (2, .int z327), (1, .ref p), (0, .ref 12)] [.int z334, .ref (p + 1)] gv5 _ _
                refine AR.iconstT hk_37_39 (by decide) (fun z335 ez335 => ?_)
                show AR _ _ _ _ _ _ _ 40 [(3, .long z332), (2, .int z327), (1, .ref p), (0, .ref 12)] [.int z335, .int z334, .ref (p + 1)] gv5 _ _
                refine AR.addT hk_37_40 (by omega) (by omega) (fun z336 ez336 => ?_)
                show AR _ _ _ _ _ _ _ 41 [(3, .long z332), (2, .int z327), (1, .ref p), (0, .ref 12)] [.int z336, .ref (p + 1)] gv5 _ _
                refine AR.iaI hk_37_41 Hgv5 (q := p + 1) (n := 24) PC.2.1 PC.2.2.2.2.2.2.2.1 PC.2.2.2.2.2.2.2.2.1 PC.2.2.2.2.2.2.2.2.2.1 PC.2.2.2.2.2.2.2.2.2.2.1 (by omega) (by omega) (fun x337 dx337 lx337 ux337 => ?_)
                show AR _ _ _ _ _ _ _ 42 [(3, .long z332), (2, .int z327), (1, .ref p), (0, .ref 12)] [.int x337] gv5 _ _
                have k6 : z336.toNatClampNeg = 13 := by show z336.toInt.toNat = 13; omega
                rw [k6] at dx337
                have c6b := hy_zi dx337
                rw [Pgv5.z (by simp; omega)] at c6b
                show AR _ _ _ _ _ _ _ 42 [(3, .long z332), (2, .int z327), (1, .ref p), (0, .ref 12)] [.int x337] gv5 _ _
                refine AR.i2lT hk_37_42 (fun z338 ez338 => ?_)
                show AR _ _ _ _ _ _ _ 43 [(3, .long z332), (2, .int z327), (1, .ref p), (0, .ref 12)] [.long z338] gv5 _ _
                refine AR.s (pc' := 45) (lv' := [(5, .long z338), (3, .long z332), (2, .int z327), (1, .ref p), (0, .ref 12)]) (st' := []) (h' := gv5) _ hn_37 hk_37_43 rfl ?_
                refine AR.s (pc' := 46) (lv' := [(5, .long z338), (3, .long z332), (2, .int z327), (1, .ref p), (0, .ref 12)]) (st' := [.ref 12]) (h' := gv5) _ hn_37 hk_37_45 rfl ?_
                refine AR.s (pc' := 47) (lv' := [(5, .long z338), (3, .long z332), (2, .int z327), (1, .ref p), (0, .ref 12)]) (st' := [.int z327, .ref 12]) (h' := gv5) _ hn_37 hk_37_46 rfl ?_
                refine AR.s (pc' := 48) (lv' := [(5, .long z338), (3, .long z332), (2, .int z327), (1, .ref p), (0, .ref 12)]) (st' := [.long z332, .int z327, .ref 12]) (h' := gv5) _ hn_37 hk_37_47 rfl ?_
                refine AR.s (pc' := 50) (lv' := [(5, .long z338), (3, .long z332), (2, .int z327), (1, .ref p), (0, .ref 12)]) (st' := [.long z338, .long z332, .int z327, .ref 12]) (h' := gv5) _ hn_37 hk_37_48 rfl ?_
                have hc1 := hc 12 (by decide)
                have hc2 := hc 13 (by decide)
                obtain ⟨w6, t6⟩ := p_c12 Hgv5
                refine AR.jr (r := 12) (as := [.int z327, .long z332, .long z338]) (rest := []) hk_37_50 (by decide) (by decide +kernel) (by decide) t6 rfl rfl (Nat.le_of_ble_eq_true rfl) (p_39_14 hlst (n := 6) Hgv5 (by omega) (by decide) (by decide) (by omega) (by omega) (fun k hk => by rw [up05 k hk]; have := tb_bd (o := 6) hc 0 k (by decide); omega)) (by decide) (Nat.zero_le _) (Nat.zero_le _) ?_ (fun E h' q => by cases q.1)
                rintro w gv6 ⟨e, Hgv6, Qgv6, Rgv6⟩
                cases e
                have Pgv6 : pf [13, 14] h gv6 := pf.tr Pgv5 Qgv6 (by simp)
                have up1 : ∀ k, k < 2 ^ 1 → hy_z gv6 14 k = tb (hy_z h (p + 1)) 6 1 k := tb_step (n := 0) (o := 6) up05 (show z332.toInt = hy_z h (p + 1) 12 by omega) (show z338.toInt = hy_z h (p + 1) 13 by omega) Rgv6
                have lo66 : ∀ k, k < 2 ^ 6 → hy_z gv6 13 k = tb (hy_z h (p + 1)) 0 6 k := fun k hk => by rw [Qgv6.z (by decide)]; exact lo6 k hk
                show AR _ _ _ _ _ _ _ 53 [(5, .long z338), (3, .long z332), (2, .int z327), (1, .ref p), (0, .ref 12)] [] gv6 _ _
                refine AR.iincT hk_37_53 (x := z327) rfl (by rw [hn_37]; decide) (by decide) (by omega) (by omega) (fun z339 ez339 => ?_)
                show AR _ _ _ _ _ _ _ 56 [(2, .int z339), (5, .long z338), (3, .long z332), (1, .ref p), (0, .ref 12)] [] gv6 _ _
                refine AR.gotoT hk_37_56 (tgt := 16) (by decide) ?_
                refine AR.lessL (lv' := [(2, .int z339), (1, .ref p), (0, .ref 12)]) (List.forall_mem_cons.mpr ⟨⟨_, by simp, ax_le_rfl rfl⟩, (List.forall_mem_cons.mpr ⟨⟨_, by simp, ax_le_rfl rfl⟩, (List.forall_mem_cons.mpr ⟨⟨_, by simp, ax_le_rfl rfl⟩, (fun _ h => absurd h List.not_mem_nil)⟩)⟩)⟩) ?_
                refine AR.s (pc' := 17) (lv' := [(2, .int z339), (1, .ref p), (0, .ref 12)]) (st' := [.int z339]) (h' := gv6) _ hn_37 hk_37_16 rfl ?_
                refine AR.bipushT hk_37_17 (by decide) (fun z340 ez340 => ?_)
                show AR _ _ _ _ _ _ _ 19 [(2, .int z339), (1, .ref p), (0, .ref 12)] [.int z340, .int z339] gv6 _ _
                refine AR.jge hk_37_19 (tgt := 59) (by decide) (fun a7 => ?_) (fun b7 => ?_)
                · exact absurd a7 (by omega)
                · refine AR.s (pc' := 23) (lv' := [(2, .int z339), (1, .ref p), (0, .ref 12)]) (st' := [.ref p]) (h' := gv6) _ hn_37 hk_37_22 rfl ?_
                  refine AR.gR hk_37_23 (by decide) Hgv6 (q := p) (n := 3) (by have := PC.2.1; omega) PC.2.2.1 PC.2.2.2.1 (by decide) PC.2.2.2.2.1 ?_
                  show AR _ _ _ _ _ _ _ 26 [(2, .int z339), (1, .ref p), (0, .ref 12)] [.ref (p + 1)] gv6 _ _
                  refine AR.iconstT hk_37_26 (by decide) (fun z341 ez341 => ?_)
                  show AR _ _ _ _ _ _ _ 27 [(2, .int z339), (1, .ref p), (0, .ref 12)] [.int z341, .ref (p + 1)] gv6 _ _
                  refine AR.s (pc' := 28) (lv' := [(2, .int z339), (1, .ref p), (0, .ref 12)]) (st' := [.int z339, .int z341, .ref (p + 1)]) (h' := gv6) _ hn_37 hk_37_27 rfl ?_
                  refine AR.mulcT hk_37_28 ez341 (by omega) (by omega) (fun z342 ez342 => ?_)
                  show AR _ _ _ _ _ _ _ 29 [(2, .int z339), (1, .ref p), (0, .ref 12)] [.int z342, .ref (p + 1)] gv6 _ _
                  refine AR.iaI hk_37_29 Hgv6 (q := p + 1) (n := 24) PC.2.1 PC.2.2.2.2.2.2.2.1 PC.2.2.2.2.2.2.2.2.1 PC.2.2.2.2.2.2.2.2.2.1 PC.2.2.2.2.2.2.2.2.2.2.1 (by omega) (by omega) (fun x343 dx343 lx343 ux343 => ?_)
                  show AR _ _ _ _ _ _ _ 30 [(2, .int z339), (1, .ref p), (0, .ref 12)] [.int x343] gv6 _ _
                  have j7 : z342.toNatClampNeg = 14 := by show z342.toInt.toNat = 14; omega
                  rw [j7] at dx343
                  have c7a := hy_zi dx343
                  rw [Pgv6.z (by simp; omega)] at c7a
                  show AR _ _ _ _ _ _ _ 30 [(2, .int z339), (1, .ref p), (0, .ref 12)] [.int x343] gv6 _ _
                  refine AR.i2lT hk_37_30 (fun z344 ez344 => ?_)
                  show AR _ _ _ _ _ _ _ 31 [(2, .int z339), (1, .ref p), (0, .ref 12)] [.long z344] gv6 _ _
                  refine AR.s (pc' := 32) (lv' := [(3, .long z344), (2, .int z339), (1, .ref p), (0, .ref 12)]) (st' := []) (h' := gv6) _ hn_37 hk_37_31 rfl ?_
                  refine AR.s (pc' := 33) (lv' := [(3, .long z344), (2, .int z339), (1, .ref p), (0, .ref 12)]) (st' := [.ref p]) (h' := gv6) _ hn_37 hk_37_32 rfl ?_
                  refine AR.gR hk_37_33 (by decide) Hgv6 (q := p) (n := 3) (by have := PC.2.1; omega) PC.2.2.1 PC.2.2.2.1 (by decide) PC.2.2.2.2.1 ?_
                  show AR _ _ _ _ _ _ _ 36 [(3, .long z344), (2, .int z339), (1, .ref p), (0, .ref 12)] [.ref (p + 1)] gv6 _ _
                  refine AR.iconstT hk_37_36 (by decide) (fun z345 ez345 => ?_)
                  show AR _ _ _ _ _ _ _ 37 [(3, .long z344), (2, .int z339), (1, .ref p), (0, .ref 12)] [.int z345, .ref (p + 1)] gv6 _ _
                  refine AR.s (pc' := 38) (lv' := [(3, .long z344), (2, .int z339), (1, .ref p), (0, .ref 12)]) (st' := [.int z339, .int z345, .ref (p + 1)]) (h' := gv6) _ hn_37 hk_37_37 rfl ?_
                  refine AR.mulcT hk_37_38 ez345 (by omega) (by omega) (fun z346 ez346 => ?_)
                  show AR _ _ _ _ _ _ _ 39 [(3, .long z344), (2, .int z339), (1, .ref p), (0, .ref 12)] [.int z346, .ref (p + 1)] gv6 _ _
                  refine AR.iconstT hk_37_39 (by decide) (fun z347 ez347 => ?_)
                  show AR _ _ _ _ _ _ _ 40 [(3, .long z344), (2, .int z339), (1, .ref p), (0, .ref 12)] [.int z347, .int z346, .ref (p + 1)] gv6 _ _
                  refine AR.addT hk_37_40 (by omega) (by omega) (fun z348 ez348 => ?_)
                  show AR _ _ _ _ _ _ _ 41 [(3, .long z344), (2, .int z339), (1, .ref p), (0, .ref 12)] [.int z348, .ref (p + 1)] gv6 _ _
                  refine AR.iaI hk_37_41 Hgv6 (q := p + 1) (n := 24) PC.2.1 PC.2.2.2.2.2.2.2.1 PC.2.2.2.2.2.2.2.2.1 PC.2.2.2.2.2.2.2.2.2.1 PC.2.2.2.2.2.2.2.2.2.2.1 (by omega) (by omega) (fun x349 dx349 lx349 ux349 => ?_)
                  show AR _ _ _ _ _ _ _ 42 [(3, .long z344), (2, .int z339), (1, .ref p), (0, .ref 12)] [.int x349] gv6 _ _
                  have k7 : z348.toNatClampNeg = 15 := by show z348.toInt.toNat = 15; omega
                  rw [k7] at dx349
                  have c7b := hy_zi dx349
                  rw [Pgv6.z (by simp; omega)] at c7b
                  show AR _ _ _ _ _ _ _ 42 [(3, .long z344), (2, .int z339), (1, .ref p), (0, .ref 12)] [.int x349] gv6 _ _
                  refine AR.i2lT hk_37_42 (fun z350 ez350 => ?_)
                  show AR _ _ _ _ _ _ _ 43 [(3, .long z344), (2, .int z339), (1, .ref p), (0, .ref 12)] [.long z350] gv6 _ _
                  refine AR.s (pc' := 45) (lv' := [(5, .long z350), (3, .long z344), (2, .int z339), (1, .ref p), (0, .ref 12)]) (st' := []) (h' := gv6) _ hn_37 hk_37_43 rfl ?_
                  refine AR.s (pc' := 46) (lv' := [(5, .long z350), (3, .long z344), (2, .int z339), (1, .ref p), (0, .ref 12)]) (st' := [.ref 12]) (h' := gv6) _ hn_37 hk_37_45 rfl ?_
                  refine AR.s (pc' := 47) (lv' := [(5, .long z350), (3, .long z344), (2, .int z339), (1, .ref p), (0, .ref 12)]) (st' := [.int z339, .ref 12]) (h' := gv6) _ hn_37 hk_37_46 rfl ?_
                  refine AR.s (pc' := 48) (lv' := [(5, .long z350), (3, .long z344), (2, .int z339), (1, .ref p), (0, .ref 12)]) (st' := [.long z344, .int z339, .ref 12]) (h' := gv6) _ hn_37 hk_37_47 rfl ?_
                  refine AR.s (pc' := 50) (lv' := [(5, .long z350), (3, .long z344), (2, .int z339), (1, .ref p), (0, .ref 12)]) (st' := [.long z350, .long z344, .int z339, .ref 12]) (h' := gv6) _ hn_37 hk_37_48 rfl ?_
                  have hc1 := hc 14 (by decide)
                  have hc2 := hc 15 (by decide)
                  obtain ⟨w7, t7⟩ := p_c12 Hgv6
                  refine AR.jr (r := 12) (as := [.int z339, .long z344, .long z350]) (rest := []) hk_37_50 (by decide) (by decide +kernel) (by decide) t7 rfl rfl (Nat.le_of_ble_eq_true rfl) (p_39_14 hlst (n := 7) Hgv6 (by omega) (by decide) (by decide) (by omega) (by omega) (fun k hk => by rw [up1 k hk]; have := tb_bd (o := 6) hc 1 k (by decide); omega)) (by decide) (Nat.zero_le _) (Nat.zero_le _) ?_ (fun E h' q => by cases q.1)
                  rintro w gv7 ⟨e, Hgv7, Qgv7, Rgv7⟩
                  cases e
                  have Pgv7 : pf [13, 14] h gv7 := pf.tr Pgv6 Qgv7 (by simp)
                  have up2 : ∀ k, k < 2 ^ 2 → hy_z gv7 14 k = tb (hy_z h (p + 1)) 6 2 k := tb_step (n := 1) (o := 6) up1 (show z344.toInt = hy_z h (p + 1) 14 by omega) (show z350.toInt = hy_z h (p + 1) 15 by omega) Rgv7
                  have lo67 : ∀ k, k < 2 ^ 6 → hy_z gv7 13 k = tb (hy_z h (p + 1)) 0 6 k := fun k hk => by rw [Qgv7.z (by decide)]; exact lo66 k hk
                  show AR _ _ _ _ _ _ _ 53 [(5, .long z350), (3, .long z344), (2, .int z339), (1, .ref p), (0, .ref 12)] [] gv7 _ _
                  refine AR.iincT hk_37_53 (x := z339) rfl (by rw [hn_37]; decide) (by decide) (by omega) (by omega) (fun z351 ez351 => ?_)
                  show AR _ _ _ _ _ _ _ 56 [(2, .int z351), (5, .long z350), (3, .long z344), (1, .ref p), (0, .ref 12)] [] gv7 _ _
                  refine AR.gotoT hk_37_56 (tgt := 16) (by decide) ?_
                  refine AR.lessL (lv' := [(2, .int z351), (1, .ref p), (0, .ref 12)]) (List.forall_mem_cons.mpr ⟨⟨_, by simp, ax_le_rfl rfl⟩, (List.forall_mem_cons.mpr ⟨⟨_, by simp, ax_le_rfl rfl⟩, (List.forall_mem_cons.mpr ⟨⟨_, by simp, ax_le_rfl rfl⟩, (fun _ h => absurd h List.not_mem_nil)⟩)⟩)⟩) ?_
                  refine AR.s (pc' := 17) (lv' := [(2, .int z351), (1, .ref p), (0, .ref 12)]) (st' := [.int z351]) (h' := gv7) _ hn_37 hk_37_16 rfl ?_
                  refine AR.bipushT hk_37_17 (by decide) (fun z352 ez352 => ?_)
                  show AR _ _ _ _ _ _ _ 19 [(2, .int z351), (1, .ref p), (0, .ref 12)] [.int z352, .int z351] gv7 _ _
                  refine AR.jge hk_37_19 (tgt := 59) (by decide) (fun a8 => ?_) (fun b8 => ?_)
                  · exact absurd a8 (by omega)
                  · refine AR.s (pc' := 23) (lv' := [(2, .int z351), (1, .ref p), (0, .ref 12)]) (st' := [.ref p]) (h' := gv7) _ hn_37 hk_37_22 rfl ?_
                    refine AR.gR hk_37_23 (by decide) Hgv7 (q := p) (n := 3) (by have := PC.2.1; omega) PC.2.2.1 PC.2.2.2.1 (by decide) PC.2.2.2.2.1 ?_
                    show AR _ _ _ _ _ _ _ 26 [(2, .int z351), (1, .ref p), (0, .ref 12)] [.ref (p + 1)] gv7 _ _
                    refine AR.iconstT hk_37_26 (by decide) (fun z353 ez353 => ?_)
                    show AR _ _ _ _ _ _ _ 27 [(2, .int z351), (1, .ref p), (0, .ref 12)] [.int z353, .ref (p + 1)] gv7 _ _
                    refine AR.s (pc' := 28) (lv' := [(2, .int z351), (1, .ref p), (0, .ref 12)]) (st' := [.int z351, .int z353, .ref (p + 1)]) (h' := gv7) _ hn_37 hk_37_27 rfl ?_
                    refine AR.mulcT hk_37_28 ez353 (by omega) (by omega) (fun z354 ez354 => ?_)
                    show AR _ _ _ _ _ _ _ 29 [(2, .int z351), (1, .ref p), (0, .ref 12)] [.int z354, .ref (p + 1)] gv7 _ _
                    refine AR.iaI hk_37_29 Hgv7 (q := p + 1) (n := 24) PC.2.1 PC.2.2.2.2.2.2.2.1 PC.2.2.2.2.2.2.2.2.1 PC.2.2.2.2.2.2.2.2.2.1 PC.2.2.2.2.2.2.2.2.2.2.1 (by omega) (by omega) (fun x355 dx355 lx355 ux355 => ?_)
                    show AR _ _ _ _ _ _ _ 30 [(2, .int z351), (1, .ref p), (0, .ref 12)] [.int x355] gv7 _ _
                    have j8 : z354.toNatClampNeg = 16 := by show z354.toInt.toNat = 16; omega
                    rw [j8] at dx355
                    have c8a := hy_zi dx355
                    rw [Pgv7.z (by simp; omega)] at c8a
                    show AR _ _ _ _ _ _ _ 30 [(2, .int z351), (1, .ref p), (0, .ref 12)] [.int x355] gv7 _ _
                    refine AR.i2lT hk_37_30 (fun z356 ez356 => ?_)
                    show AR _ _ _ _ _ _ _ 31 [(2, .int z351), (1, .ref p), (0, .ref 12)] [.long z356] gv7 _ _
                    refine AR.s (pc' := 32) (lv' := [(3, .long z356), (2, .int z351), (1, .ref p), (0, .ref 12)]) (st' := []) (h' := gv7) _ hn_37 hk_37_31 rfl ?_
                    refine AR.s (pc' := 33) (lv' := [(3, .long z356), (2, .int z351), (1, .ref p), (0, .ref 12)]) (st' := [.ref p]) (h' := gv7) _ hn_37 hk_37_32 rfl ?_
                    refine AR.gR hk_37_33 (by decide) Hgv7 (q := p) (n := 3) (by have := PC.2.1; omega) PC.2.2.1 PC.2.2.2.1 (by decide) PC.2.2.2.2.1 ?_
                    show AR _ _ _ _ _ _ _ 36 [(3, .long z356), (2, .int z351), (1, .ref p), (0, .ref 12)] [.ref (p + 1)] gv7 _ _
                    refine AR.iconstT hk_37_36 (by decide) (fun z357 ez357 => ?_)
                    show AR _ _ _ _ _ _ _ 37 [(3, .long z356), (2, .int z351), (1, .ref p), (0, .ref 12)] [.int z357, .ref (p + 1)] gv7 _ _
                    refine AR.s (pc' := 38) (lv' := [(3, .long z356), (2, .int z351), (1, .ref p), (0, .ref 12)]) (st' := [.int z351, .int z357, .ref (p + 1)]) (h' := gv7) _ hn_37 hk_37_37 rfl ?_
                    refine AR.mulcT hk_37_38 ez357 (by omega) (by omega) (fun z358 ez358 => ?_)
                    show AR _ _ _ _ _ _ _ 39 [(3, .long z356), (2, .int z351), (1, .ref p), (0, .ref 12)] [.int z358, .ref (p + 1)] gv7 _ _
                    refine AR.iconstT hk_37_39 (by decide) (fun z359 ez359 => ?_)
                    show AR _ _ _ _ _ _ _ 40 [(3, .long z356), (2, .int z351), (1, .ref p), (0, .ref 12)] [.int z359, .int z358, .ref (p + 1)] gv7 _ _
                    refine AR.addT hk_37_40 (by omega) (by omega) (fun z360 ez360 => ?_)
                    show AR _ _ _ _ _ _ _ 41 [(3, .long z356), (2, .int z351), (1, .ref p), (0, .ref 12)] [.int z360, .ref (p + 1)] gv7 _ _
                    refine AR.iaI hk_37_41 Hgv7 (q := p + 1) (n := 24) PC.2.1 PC.2.2.2.2.2.2.2.1 PC.2.2.2.2.2.2.2.2.1 PC.2.2.2.2.2.2.2.2.2.1 PC.2.2.2.2.2.2.2.2.2.2.1 (by omega) (by omega) (fun x361 dx361 lx361 ux361 => ?_)
                    show AR _ _ _ _ _ _ _ 42 [(3, .long z356), (2, .int z351), (1, .ref p), (0, .ref 12)] [.int x361] gv7 _ _
                    have k8 : z360.toNatClampNeg = 17 := by show z360.toInt.toNat = 17; omega
                    rw [k8] at dx361
                    have c8b := hy_zi dx361
                    rw [Pgv7.z (by simp; omega)] at c8b
                    show AR _ _ _ _ _ _ _ 42 [(3, .long z356), (2, .int z351), (1, .ref p), (0, .ref 12)] [.int x361] gv7 _ _
                    refine AR.i2lT hk_37_42 (fun z362 ez362 => ?_)
                    show AR _ _ _ _ _ _ _ 43 [(3, .long z356), (2, .int z351), (1, .ref p), (0, .ref 12)] [.long z362] gv7 _ _
                    refine AR.s (pc' := 45) (lv' := [(5, .long z362), (3, .long z356), (2, .int z351), (1, .ref p), (0, .ref 12)]) (st' := []) (h' := gv7) _ hn_37 hk_37_43 rfl ?_
                    refine AR.s (pc' := 46) (lv' := [(5, .long z362), (3, .long z356), (2, .int z351), (1, .ref p), (0, .ref 12)]) (st' := [.ref 12]) (h' := gv7) _ hn_37 hk_37_45 rfl ?_
                    refine AR.s (pc' := 47) (lv' := [(5, .long z362), (3, .long z356), (2, .int z351), (1, .ref p), (0, .ref 12)]) (st' := [.int z351, .ref 12]) (h' := gv7) _ hn_37 hk_37_46 rfl ?_
                    refine AR.s (pc' := 48) (lv' := [(5, .long z362), (3, .long z356), (2, .int z351), (1, .ref p), (0, .ref 12)]) (st' := [.long z356, .int z351, .ref 12]) (h' := gv7) _ hn_37 hk_37_47 rfl ?_
                    refine AR.s (pc' := 50) (lv' := [(5, .long z362), (3, .long z356), (2, .int z351), (1, .ref p), (0, .ref 12)]) (st' := [.long z362, .long z356, .int z351, .ref 12]) (h' := gv7) _ hn_37 hk_37_48 rfl ?_
                    have hc1 := hc 16 (by decide)
                    have hc2 := hc 17 (by decide)
                    obtain ⟨w8, t8⟩ := p_c12 Hgv7
                    refine AR.jr (r := 12) (as := [.int z351, .long z356, .long z362]) (rest := []) hk_37_50 (by decide) (by decide +kernel) (by decide) t8 rfl rfl (Nat.le_of_ble_eq_true rfl) (p_39_14 hlst (n := 8) Hgv7 (by omega) (by decide) (by decide) (by omega) (by omega) (fun k hk => by rw [up2 k hk]; have := tb_bd (o := 6) hc 2 k (by decide); omega)) (by decide) (Nat.zero_le _) (Nat.zero_le _) ?_ (fun E h' q => by cases q.1)
                    rintro w gv8 ⟨e, Hgv8, Qgv8, Rgv8⟩
                    cases e
                    have Pgv8 : pf [13, 14] h gv8 := pf.tr Pgv7 Qgv8 (by simp)
                    have up3 : ∀ k, k < 2 ^ 3 → hy_z gv8 14 k = tb (hy_z h (p + 1)) 6 3 k := tb_step (n := 2) (o := 6) up2 (show z356.toInt = hy_z h (p + 1) 16 by omega) (show z362.toInt = hy_z h (p + 1) 17 by omega) Rgv8
                    have lo68 : ∀ k, k < 2 ^ 6 → hy_z gv8 13 k = tb (hy_z h (p + 1)) 0 6 k := fun k hk => by rw [Qgv8.z (by decide)]; exact lo67 k hk
                    show AR _ _ _ _ _ _ _ 53 [(5, .long z362), (3, .long z356), (2, .int z351), (1, .ref p), (0, .ref 12)] [] gv8 _ _
                    refine AR.iincT hk_37_53 (x := z351) rfl (by rw [hn_37]; decide) (by decide) (by omega) (by omega) (fun z363 ez363 => ?_)
                    show AR _ _ _ _ _ _ _ 56 [(2, .int z363), (5, .long z362), (3, .long z356), (1, .ref p), (0, .ref 12)] [] gv8 _ _
                    refine AR.gotoT hk_37_56 (tgt := 16) (by decide) ?_
                    refine AR.lessL (lv' := [(2, .int z363), (1, .ref p), (0, .ref 12)]) (List.forall_mem_cons.mpr ⟨⟨_, by simp, ax_le_rfl rfl⟩, (List.forall_mem_cons.mpr ⟨⟨_, by simp, ax_le_rfl rfl⟩, (List.forall_mem_cons.mpr ⟨⟨_, by simp, ax_le_rfl rfl⟩, (fun _ h => absurd h List.not_mem_nil)⟩)⟩)⟩) ?_
                    refine AR.s (pc' := 17) (lv' := [(2, .int z363), (1, .ref p), (0, .ref 12)]) (st' := [.int z363]) (h' := gv8) _ hn_37 hk_37_16 rfl ?_
                    refine AR.bipushT hk_37_17 (by decide) (fun z364 ez364 => ?_)
                    show AR _ _ _ _ _ _ _ 19 [(2, .int z363), (1, .ref p), (0, .ref 12)] [.int z364, .int z363] gv8 _ _
                    refine AR.jge hk_37_19 (tgt := 59) (by decide) (fun a9 => ?_) (fun b9 => ?_)
                    · exact absurd a9 (by omega)
                    · refine AR.s (pc' := 23) (lv' := [(2, .int z363), (1, .ref p), (0, .ref 12)]) (st' := [.ref p]) (h' := gv8) _ hn_37 hk_37_22 rfl ?_
                      refine AR.gR hk_37_23 (by decide) Hgv8 (q := p) (n := 3) (by have := PC.2.1; omega) PC.2.2.1 PC.2.2.2.1 (by decide) PC.2.2.2.2.1 ?_
                      show AR _ _ _ _ _ _ _ 26 [(2, .int z363), (1, .ref p), (0, .ref 12)] [.ref (p + 1)] gv8 _ _
                      refine AR.iconstT hk_37_26 (by decide) (fun z365 ez365 => ?_)
                      show AR _ _ _ _ _ _ _ 27 [(2, .int z363), (1, .ref p), (0, .ref 12)] [.int z365, .ref (p + 1)] gv8 _ _
                      refine AR.s (pc' := 28) (lv' := [(2, .int z363), (1, .ref p), (0, .ref 12)]) (st' := [.int z363, .int z365, .ref (p + 1)]) (h' := gv8) _ hn_37 hk_37_27 rfl ?_
                      refine AR.mulcT hk_37_28 ez365 (by omega) (by omega) (fun z366 ez366 => ?_)
                      show AR _ _ _ _ _ _ _ 29 [(2, .int z363), (1, .ref p), (0, .ref 12)] [.int z366, .ref (p + 1)] gv8 _ _
                      refine AR.iaI hk_37_29 Hgv8 (q := p + 1) (n := 24) PC.2.1 PC.2.2.2.2.2.2.2.1 PC.2.2.2.2.2.2.2.2.1 PC.2.2.2.2.2.2.2.2.2.1 PC.2.2.2.2.2.2.2.2.2.2.1 (by omega) (by omega) (fun x367 dx367 lx367 ux367 => ?_)
                      show AR _ _ _ _ _ _ _ 30 [(2, .int z363), (1, .ref p), (0, .ref 12)] [.int x367] gv8 _ _
                      have j9 : z366.toNatClampNeg = 18 := by show z366.toInt.toNat = 18; omega
                      rw [j9] at dx367
                      have c9a := hy_zi dx367
                      rw [Pgv8.z (by simp; omega)] at c9a
                      show AR _ _ _ _ _ _ _ 30 [(2, .int z363), (1, .ref p), (0, .ref 12)] [.int x367] gv8 _ _
                      refine AR.i2lT hk_37_30 (fun z368 ez368 => ?_)
                      show AR _ _ _ _ _ _ _ 31 [(2, .int z363), (1, .ref p), (0, .ref 12)] [.long z368] gv8 _ _
                      refine AR.s (pc' := 32) (lv' := [(3, .long z368), (2, .int z363), (1, .ref p), (0, .ref 12)]) (st' := []) (h' := gv8) _ hn_37 hk_37_31 rfl ?_
                      refine AR.s (pc' := 33) (lv' := [(3, .long z368), (2, .int z363), (1, .ref p), (0, .ref 12)]) (st' := [.ref p]) (h' := gv8) _ hn_37 hk_37_32 rfl ?_
                      refine AR.gR hk_37_33 (by decide) Hgv8 (q := p) (n := 3) (by have := PC.2.1; omega) PC.2.2.1 PC.2.2.2.1 (by decide) PC.2.2.2.2.1 ?_
                      show AR _ _ _ _ _ _ _ 36 [(3, .long z368), (2, .int z363), (1, .ref p), (0, .ref 12)] [.ref (p + 1)] gv8 _ _
                      refine AR.iconstT hk_37_36 (by decide) (fun z369 ez369 => ?_)
                      show AR _ _ _ _ _ _ _ 37 [(3, .long z368), (2, .int z363), (1, .ref p), (0, .ref 12)] [.int z369, .ref (p + 1)] gv8 _ _
                      refine AR.s (pc' := 38) (lv' := [(3, .long z368), (2, .int z363), (1, .ref p), (0, .ref 12)]) (st' := [.int z363, .int z369, .ref (p + 1)]) (h' := gv8) _ hn_37 hk_37_37 rfl ?_
                      refine AR.mulcT hk_37_38 ez369 (by omega) (by omega) (fun z370 ez370 => ?_)
                      show AR _ _ _ _ _ _ _ 39 [(3, .long z368), (2, .int z363), (1, .ref p), (0, .ref 12)] [.int z370, .ref (p + 1)] gv8 _ _
                      refine AR.iconstT hk_37_39 (by decide) (fun z371 ez371 => ?_)
                      show AR _ _ _ _ _ _ _ 40 [(3, .long z368), (2, .int z363), (1, .ref p), (0, .ref 12)] [.int z371, .int z370, .ref (p + 1)] gv8 _ _
                      refine AR.addT hk_37_40 (by omega) (by omega) (fun z372 ez372 => ?_)
                      show AR _ _ _ _ _ _ _ 41 [(3, .long z368), (2, .int z363), (1, .ref p), (0, .ref 12)] [.int z372, .ref (p + 1)] gv8 _ _
                      refine AR.iaI hk_37_41 Hgv8 (q := p + 1) (n := 24) PC.2.1 PC.2.2.2.2.2.2.2.1 PC.2.2.2.2.2.2.2.2.1 PC.2.2.2.2.2.2.2.2.2.1 PC.2.2.2.2.2.2.2.2.2.2.1 (by omega) (by omega) (fun x373 dx373 lx373 ux373 => ?_)
                      show AR _ _ _ _ _ _ _ 42 [(3, .long z368), (2, .int z363), (1, .ref p), (0, .ref 12)] [.int x373] gv8 _ _
                      have k9 : z372.toNatClampNeg = 19 := by show z372.toInt.toNat = 19; omega
                      rw [k9] at dx373
                      have c9b := hy_zi dx373
                      rw [Pgv8.z (by simp; omega)] at c9b
                      show AR _ _ _ _ _ _ _ 42 [(3, .long z368), (2, .int z363), (1, .ref p), (0, .ref 12)] [.int x373] gv8 _ _
                      refine AR.i2lT hk_37_42 (fun z374 ez374 => ?_)
                      show AR _ _ _ _ _ _ _ 43 [(3, .long z368), (2, .int z363), (1, .ref p), (0, .ref 12)] [.long z374] gv8 _ _
                      refine AR.s (pc' := 45) (lv' := [(5, .long z374), (3, .long z368), (2, .int z363), (1, .ref p), (0, .ref 12)]) (st' := []) (h' := gv8) _ hn_37 hk_37_43 rfl ?_
                      refine AR.s (pc' := 46) (lv' := [(5, .long z374), (3, .long z368), (2, .int z363), (1, .ref p), (0, .ref 12)]) (st' := [.ref 12]) (h' := gv8) _ hn_37 hk_37_45 rfl ?_
                      refine AR.s (pc' := 47) (lv' := [(5, .long z374), (3, .long z368), (2, .int z363), (1, .ref p), (0, .ref 12)]) (st' := [.int z363, .ref 12]) (h' := gv8) _ hn_37 hk_37_46 rfl ?_
                      refine AR.s (pc' := 48) (lv' := [(5, .long z374), (3, .long z368), (2, .int z363), (1, .ref p), (0, .ref 12)]) (st' := [.long z368, .int z363, .ref 12]) (h' := gv8) _ hn_37 hk_37_47 rfl ?_
                      refine AR.s (pc' := 50) (lv' := [(5, .long z374), (3, .long z368), (2, .int z363), (1, .ref p), (0, .ref 12)]) (st' := [.long z374, .long z368, .int z363, .ref 12]) (h' := gv8) _ hn_37 hk_37_48 rfl ?_
                      have hc1 := hc 18 (by decide)
                      have hc2 := hc 19 (by decide)
                      obtain ⟨w9, t9⟩ := p_c12 Hgv8
                      refine AR.jr (r := 12) (as := [.int z363, .long z368, .long z374]) (rest := []) hk_37_50 (by decide) (by decide +kernel) (by decide) t9 rfl rfl (Nat.le_of_ble_eq_true rfl) (p_39_14 hlst (n := 9) Hgv8 (by omega) (by decide) (by decide) (by omega) (by omega) (fun k hk => by rw [up3 k hk]; have := tb_bd (o := 6) hc 3 k (by decide); omega)) (by decide) (Nat.zero_le _) (Nat.zero_le _) ?_ (fun E h' q => by cases q.1)
                      rintro w gv9 ⟨e, Hgv9, Qgv9, Rgv9⟩
                      cases e
                      have Pgv9 : pf [13, 14] h gv9 := pf.tr Pgv8 Qgv9 (by simp)
                      have up4 : ∀ k, k < 2 ^ 4 → hy_z gv9 14 k = tb (hy_z h (p + 1)) 6 4 k := tb_step (n := 3) (o := 6) up3 (show z368.toInt = hy_z h (p + 1) 18 by omega) (show z374.toInt = hy_z h (p + 1) 19 by omega) Rgv9
                      have lo69 : ∀ k, k < 2 ^ 6 → hy_z gv9 13 k = tb (hy_z h (p + 1)) 0 6 k := fun k hk => by rw [Qgv9.z (by decide)]; exact lo68 k hk
                      show AR _ _ _ _ _ _ _ 53 [(5, .long z374), (3, .long z368), (2, .int z363), (1, .ref p), (0, .ref 12)] [] gv9 _ _
                      refine AR.iincT hk_37_53 (x := z363) rfl (by rw [hn_37]; decide) (by decide) (by omega) (by omega) (fun z375 ez375 => ?_)
                      show AR _ _ _ _ _ _ _ 56 [(2, .int z375), (5, .long z374), (3, .long z368), (1, .ref p), (0, .ref 12)] [] gv9 _ _
                      refine AR.gotoT hk_37_56 (tgt := 16) (by decide) ?_
                      refine AR.lessL (lv' := [(2, .int z375), (1, .ref p), (0, .ref 12)]) (List.forall_mem_cons.mpr ⟨⟨_, by simp, ax_le_rfl rfl⟩, (List.forall_mem_cons.mpr ⟨⟨_, by simp, ax_le_rfl rfl⟩, (List.forall_mem_cons.mpr ⟨⟨_, by simp, ax_le_rfl rfl⟩, (fun _ h => absurd h List.not_mem_nil)⟩)⟩)⟩) ?_
                      refine AR.s (pc' := 17) (lv' := [(2, .int z375), (1, .ref p), (0, .ref 12)]) (st' := [.int z375]) (h' := gv9) _ hn_37 hk_37_16 rfl ?_
                      refine AR.bipushT hk_37_17 (by decide) (fun z376 ez376 => ?_)
                      show AR _ _ _ _ _ _ _ 19 [(2, .int z375), (1, .ref p), (0, .ref 12)] [.int z376, .int z375] gv9 _ _
                      refine AR.jge hk_37_19 (tgt := 59) (by decide) (fun a10 => ?_) (fun b10 => ?_)
                      · exact absurd a10 (by omega)
                      · refine AR.s (pc' := 23) (lv' := [(2, .int z375), (1, .ref p), (0, .ref 12)]) (st' := [.ref p]) (h' := gv9) _ hn_37 hk_37_22 rfl ?_
                        refine AR.gR hk_37_23 (by decide) Hgv9 (q := p) (n := 3) (by have := PC.2.1; omega) PC.2.2.1 PC.2.2.2.1 (by decide) PC.2.2.2.2.1 ?_
                        show AR _ _ _ _ _ _ _ 26 [(2, .int z375), (1, .ref p), (0, .ref 12)] [.ref (p + 1)] gv9 _ _
                        refine AR.iconstT hk_37_26 (by decide) (fun z377 ez377 => ?_)
                        show AR _ _ _ _ _ _ _ 27 [(2, .int z375), (1, .ref p), (0, .ref 12)] [.int z377, .ref (p + 1)] gv9 _ _
                        refine AR.s (pc' := 28) (lv' := [(2, .int z375), (1, .ref p), (0, .ref 12)]) (st' := [.int z375, .int z377, .ref (p + 1)]) (h' := gv9) _ hn_37 hk_37_27 rfl ?_
                        refine AR.mulcT hk_37_28 ez377 (by omega) (by omega) (fun z378 ez378 => ?_)
                        show AR _ _ _ _ _ _ _ 29 [(2, .int z375), (1, .ref p), (0, .ref 12)] [.int z378, .ref (p + 1)] gv9 _ _
                        refine AR.iaI hk_37_29 Hgv9 (q := p + 1) (n := 24) PC.2.1 PC.2.2.2.2.2.2.2.1 PC.2.2.2.2.2.2.2.2.1 PC.2.2.2.2.2.2.2.2.2.1 PC.2.2.2.2.2.2.2.2.2.2.1 (by omega) (by omega) (fun x379 dx379 lx379 ux379 => ?_)
                        show AR _ _ _ _ _ _ _ 30 [(2, .int z375), (1, .ref p), (0, .ref 12)] [.int x379] gv9 _ _
                        have j10 : z378.toNatClampNeg = 20 := by show z378.toInt.toNat = 20; omega
                        rw [j10] at dx379
                        have c10a := hy_zi dx379
                        rw [Pgv9.z (by simp; omega)] at c10a
                        show AR _ _ _ _ _ _ _ 30 [(2, .int z375), (1, .ref p), (0, .ref 12)] [.int x379] gv9 _ _
                        refine AR.i2lT hk_37_30 (fun z380 ez380 => ?_)
                        show AR _ _ _ _ _ _ _ 31 [(2, .int z375), (1, .ref p), (0, .ref 12)] [.long z380] gv9 _ _
                        refine AR.s (pc' := 32) (lv' := [(3, .long z380), (2, .int z375), (1, .ref p), (0, .ref 12)]) (st' := []) (h' := gv9) _ hn_37 hk_37_31 rfl ?_
                        refine AR.s (pc' := 33) (lv' := [(3, .long z380), (2, .int z375), (1, .ref p), (0, .ref 12)]) (st' := [.ref p]) (h' := gv9) _ hn_37 hk_37_32 rfl ?_
                        refine AR.gR hk_37_33 (by decide) Hgv9 (q := p) (n := 3) (by have := PC.2.1; omega) PC.2.2.1 PC.2.2.2.1 (by decide) PC.2.2.2.2.1 ?_
                        show AR _ _ _ _ _ _ _ 36 [(3, .long z380), (2, .int z375), (1, .ref p), (0, .ref 12)] [.ref (p + 1)] gv9 _ _
                        refine AR.iconstT hk_37_36 (by decide) (fun z381 ez381 => ?_)
                        show AR _ _ _ _ _ _ _ 37 [(3, .long z380), (2, .int z375), (1, .ref p), (0, .ref 12)] [.int z381, .ref (p + 1)] gv9 _ _
                        refine AR.s (pc' := 38) (lv' := [(3, .long z380), (2, .int z375), (1, .ref p), (0, .ref 12)]) (st' := [.int z375, .int z381, .ref (p + 1)]) (h' := gv9) _ hn_37 hk_37_37 rfl ?_
                        refine AR.mulcT hk_37_38 ez381 (by omega) (by omega) (fun z382 ez382 => ?_)
                        show AR _ _ _ _ _ _ _ 39 [(3, .long z380), (2, .int z375), (1, .ref p), (0, .ref 12)] [.int z382, .ref (p + 1)] gv9 _ _
                        refine AR.iconstT hk_37_39 (by decide) (fun z383 ez383 => ?_)
                        show AR _ _ _ _ _ _ _ 40 [(3, .long z380), (2, .int z375), (1, .ref p), (0, .ref 12)] [.int z383, .int z382, .ref (p + 1)] gv9 _ _
                        refine AR.addT hk_37_40 (by omega) (by omega) (fun z384 ez384 => ?_)
                        show AR _ _ _ _ _ _ _ 41 [(3, .long z380), (2, .int z375), (1, .ref p), (0, .ref 12)] [.int z384, .ref (p + 1)] gv9 _ _
                        refine AR.iaI hk_37_41 Hgv9 (q := p + 1) (n := 24) PC.2.1 PC.2.2.2.2.2.2.2.1 PC.2.2.2.2.2.2.2.2.1 PC.2.2.2.2.2.2.2.2.2.1 PC.2.2.2.2.2.2.2.2.2.2.1 (by omega) (by omega) (fun x385 dx385 lx385 ux385 => ?_)
                        show AR _ _ _ _ _ _ _ 42 [(3, .long z380), (2, .int z375), (1, .ref p), (0, .ref 12)] [.int x385] gv9 _ _
                        have k10 : z384.toNatClampNeg = 21 := by show z384.toInt.toNat = 21; omega
                        rw [k10] at dx385
                        have c10b := hy_zi dx385
                        rw [Pgv9.z (by simp; omega)] at c10b
                        show AR _ _ _ _ _ _ _ 42 [(3, .long z380), (2, .int z375), (1, .ref p), (0, .ref 12)] [.int x385] gv9 _ _
                        refine AR.i2lT hk_37_42 (fun z386 ez386 => ?_)
                        show AR _ _ _ _ _ _ _ 43 [(3, .long z380), (2, .int z375), (1, .ref p), (0, .ref 12)] [.long z386] gv9 _ _
                        refine AR.s (pc' := 45) (lv' := [(5, .long z386), (3, .long z380), (2, .int z375), (1, .ref p), (0, .ref 12)]) (st' := []) (h' := gv9) _ hn_37 hk_37_43 rfl ?_
                        refine AR.s (pc' := 46) (lv' := [(5, .long z386), (3, .long z380), (2, .int z375), (1, .ref p), (0, .ref 12)]) (st' := [.ref 12]) (h' := gv9) _ hn_37 hk_37_45 rfl ?_
                        refine AR.s (pc' := 47) (lv' := [(5, .long z386), (3, .long z380), (2, .int z375), (1, .ref p), (0, .ref 12)]) (st' := [.int z375, .ref 12]) (h' := gv9) _ hn_37 hk_37_46 rfl ?_
                        refine AR.s (pc' := 48) (lv' := [(5, .long z386), (3, .long z380), (2, .int z375), (1, .ref p), (0, .ref 12)]) (st' := [.long z380, .int z375, .ref 12]) (h' := gv9) _ hn_37 hk_37_47 rfl ?_
                        refine AR.s (pc' := 50) (lv' := [(5, .long z386), (3, .long z380), (2, .int z375), (1, .ref p), (0, .ref 12)]) (st' := [.long z386, .long z380, .int z375, .ref 12]) (h' := gv9) _ hn_37 hk_37_48 rfl ?_
                        have hc1 := hc 20 (by decide)
                        have hc2 := hc 21 (by decide)
                        obtain ⟨w10, t10⟩ := p_c12 Hgv9
                        refine AR.jr (r := 12) (as := [.int z375, .long z380, .long z386]) (rest := []) hk_37_50 (by decide) (by decide +kernel) (by decide) t10 rfl rfl (Nat.le_of_ble_eq_true rfl) (p_39_14 hlst (n := 10) Hgv9 (by omega) (by decide) (by decide) (by omega) (by omega) (fun k hk => by rw [up4 k hk]; have := tb_bd (o := 6) hc 4 k (by decide); omega)) (by decide) (Nat.zero_le _) (Nat.zero_le _) ?_ (fun E h' q => by cases q.1)
                        rintro w gv10 ⟨e, Hgv10, Qgv10, Rgv10⟩
                        cases e
                        have Pgv10 : pf [13, 14] h gv10 := pf.tr Pgv9 Qgv10 (by simp)
                        have up5 : ∀ k, k < 2 ^ 5 → hy_z gv10 14 k = tb (hy_z h (p + 1)) 6 5 k := tb_step (n := 4) (o := 6) up4 (show z380.toInt = hy_z h (p + 1) 20 by omega) (show z386.toInt = hy_z h (p + 1) 21 by omega) Rgv10
                        have lo610 : ∀ k, k < 2 ^ 6 → hy_z gv10 13 k = tb (hy_z h (p + 1)) 0 6 k := fun k hk => by rw [Qgv10.z (by decide)]; exact lo69 k hk
                        show AR _ _ _ _ _ _ _ 53 [(5, .long z386), (3, .long z380), (2, .int z375), (1, .ref p), (0, .ref 12)] [] gv10 _ _
                        refine AR.iincT hk_37_53 (x := z375) rfl (by rw [hn_37]; decide) (by decide) (by omega) (by omega) (fun z387 ez387 => ?_)
                        show AR _ _ _ _ _ _ _ 56 [(2, .int z387), (5, .long z386), (3, .long z380), (1, .ref p), (0, .ref 12)] [] gv10 _ _
                        refine AR.gotoT hk_37_56 (tgt := 16) (by decide) ?_
                        refine AR.lessL (lv' := [(2, .int z387), (1, .ref p), (0, .ref 12)]) (List.forall_mem_cons.mpr ⟨⟨_, by simp, ax_le_rfl rfl⟩, (List.forall_mem_cons.mpr ⟨⟨_, by simp, ax_le_rfl rfl⟩, (List.forall_mem_cons.mpr ⟨⟨_, by simp, ax_le_rfl rfl⟩, (fun _ h => absurd h List.not_mem_nil)⟩)⟩)⟩) ?_
                        refine AR.s (pc' := 17) (lv' := [(2, .int z387), (1, .ref p), (0, .ref 12)]) (st' := [.int z387]) (h' := gv10) _ hn_37 hk_37_16 rfl ?_
                        refine AR.bipushT hk_37_17 (by decide) (fun z388 ez388 => ?_)
                        show AR _ _ _ _ _ _ _ 19 [(2, .int z387), (1, .ref p), (0, .ref 12)] [.int z388, .int z387] gv10 _ _
                        refine AR.jge hk_37_19 (tgt := 59) (by decide) (fun a11 => ?_) (fun b11 => ?_)
                        · exact absurd a11 (by omega)
                        · refine AR.s (pc' := 23) (lv' := [(2, .int z387), (1, .ref p), (0, .ref 12)]) (st' := [.ref p]) (h' := gv10) _ hn_37 hk_37_22 rfl ?_
                          refine AR.gR hk_37_23 (by decide) Hgv10 (q := p) (n := 3) (by have := PC.2.1; omega) PC.2.2.1 PC.2.2.2.1 (by decide) PC.2.2.2.2.1 ?_
                          show AR _ _ _ _ _ _ _ 26 [(2, .int z387), (1, .ref p), (0, .ref 12)] [.ref (p + 1)] gv10 _ _
                          refine AR.iconstT hk_37_26 (by decide) (fun z389 ez389 => ?_)
                          show AR _ _ _ _ _ _ _ 27 [(2, .int z387), (1, .ref p), (0, .ref 12)] [.int z389, .ref (p + 1)] gv10 _ _
                          refine AR.s (pc' := 28) (lv' := [(2, .int z387), (1, .ref p), (0, .ref 12)]) (st' := [.int z387, .int z389, .ref (p + 1)]) (h' := gv10) _ hn_37 hk_37_27 rfl ?_
                          refine AR.mulcT hk_37_28 ez389 (by omega) (by omega) (fun z390 ez390 => ?_)
                          show AR _ _ _ _ _ _ _ 29 [(2, .int z387), (1, .ref p), (0, .ref 12)] [.int z390, .ref (p + 1)] gv10 _ _
                          refine AR.iaI hk_37_29 Hgv10 (q := p + 1) (n := 24) PC.2.1 PC.2.2.2.2.2.2.2.1 PC.2.2.2.2.2.2.2.2.1 PC.2.2.2.2.2.2.2.2.2.1 PC.2.2.2.2.2.2.2.2.2.2.1 (by omega) (by omega) (fun x391 dx391 lx391 ux391 => ?_)
                          show AR _ _ _ _ _ _ _ 30 [(2, .int z387), (1, .ref p), (0, .ref 12)] [.int x391] gv10 _ _
                          have j11 : z390.toNatClampNeg = 22 := by show z390.toInt.toNat = 22; omega
                          rw [j11] at dx391
                          have c11a := hy_zi dx391
                          rw [Pgv10.z (by simp; omega)] at c11a
                          show AR _ _ _ _ _ _ _ 30 [(2, .int z387), (1, .ref p), (0, .ref 12)] [.int x391] gv10 _ _
                          refine AR.i2lT hk_37_30 (fun z392 ez392 => ?_)
                          show AR _ _ _ _ _ _ _ 31 [(2, .int z387), (1, .ref p), (0, .ref 12)] [.long z392] gv10 _ _
                          refine AR.s (pc' := 32) (lv' := [(3, .long z392), (2, .int z387), (1, .ref p), (0, .ref 12)]) (st' := []) (h' := gv10) _ hn_37 hk_37_31 rfl ?_
                          refine AR.s (pc' := 33) (lv' := [(3, .long z392), (2, .int z387), (1, .ref p), (0, .ref 12)]) (st' := [.ref p]) (h' := gv10) _ hn_37 hk_37_32 rfl ?_
                          refine AR.gR hk_37_33 (by decide) Hgv10 (q := p) (n := 3) (by have := PC.2.1; omega) PC.2.2.1 PC.2.2.2.1 (by decide) PC.2.2.2.2.1 ?_
                          show AR _ _ _ _ _ _ _ 36 [(3, .long z392), (2, .int z387), (1, .ref p), (0, .ref 12)] [.ref (p + 1)] gv10 _ _
                          refine AR.iconstT hk_37_36 (by decide) (fun z393 ez393 => ?_)
                          show AR _ _ _ _ _ _ _ 37 [(3, .long z392), (2, .int z387), (1, .ref p), (0, .ref 12)] [.int z393, .ref (p + 1)] gv10 _ _
                          refine AR.s (pc' := 38) (lv' := [(3, .long z392), (2, .int z387), (1, .ref p), (0, .ref 12)]) (st' := [.int z387, .int z393, .ref (p + 1)]) (h' := gv10) _ hn_37 hk_37_37 rfl ?_
                          refine AR.mulcT hk_37_38 ez393 (by omega) (by omega) (fun z394 ez394 => ?_)
                          show AR _ _ _ _ _ _ _ 39 [(3, .long z392), (2, .int z387), (1, .ref p), (0, .ref 12)] [.int z394, .ref (p + 1)] gv10 _ _
                          refine AR.iconstT hk_37_39 (by decide) (fun z395 ez395 => ?_)
                          show AR _ _ _ _ _ _ _ 40 [(3, .long z392), (2, .int z387), (1, .ref p), (0, .ref 12)] [.int z395, .int z394, .ref (p + 1)] gv10 _ _
                          refine AR.addT hk_37_40 (by omega) (by omega) (fun z396 ez396 => ?_)
                          show AR _ _ _ _ _ _ _ 41 [(3, .long z392), (2, .int z387), (1, .ref p), (0, .ref 12)] [.int z396, .ref (p + 1)] gv10 _ _
                          refine AR.iaI hk_37_41 Hgv10 (q := p + 1) (n := 24) PC.2.1 PC.2.2.2.2.2.2.2.1 PC.2.2.2.2.2.2.2.2.1 PC.2.2.2.2.2.2.2.2.2.1 PC.2.2.2.2.2.2.2.2.2.2.1 (by omega) (by omega) (fun x397 dx397 lx397 ux397 => ?_)
                          show AR _ _ _ _ _ _ _ 42 [(3, .long z392), (2, .int z387), (1, .ref p), (0, .ref 12)] [.int x397] gv10 _ _
                          have k11 : z396.toNatClampNeg = 23 := by show z396.toInt.toNat = 23; omega
                          rw [k11] at dx397
                          have c11b := hy_zi dx397
                          rw [Pgv10.z (by simp; omega)] at c11b
                          show AR _ _ _ _ _ _ _ 42 [(3, .long z392), (2, .int z387), (1, .ref p), (0, .ref 12)] [.int x397] gv10 _ _
                          refine AR.i2lT hk_37_42 (fun z398 ez398 => ?_)
                          show AR _ _ _ _ _ _ _ 43 [(3, .long z392), (2, .int z387), (1, .ref p), (0, .ref 12)] [.long z398] gv10 _ _
                          refine AR.s (pc' := 45) (lv' := [(5, .long z398), (3, .long z392), (2, .int z387), (1, .ref p), (0, .ref 12)]) (st' := []) (h' := gv10) _ hn_37 hk_37_43 rfl ?_
                          refine AR.s (pc' := 46) (lv' := [(5, .long z398), (3, .long z392), (2, .int z387), (1, .ref p), (0, .ref 12)]) (st' := [.ref 12]) (h' := gv10) _ hn_37 hk_37_45 rfl ?_
                          refine AR.s (pc' := 47) (lv' := [(5, .long z398), (3, .long z392), (2, .int z387), (1, .ref p), (0, .ref 12)]) (st' := [.int z387, .ref 12]) (h' := gv10) _ hn_37 hk_37_46 rfl ?_
                          refine AR.s (pc' := 48) (lv' := [(5, .long z398), (3, .long z392), (2, .int z387), (1, .ref p), (0, .ref 12)]) (st' := [.long z392, .int z387, .ref 12]) (h' := gv10) _ hn_37 hk_37_47 rfl ?_
                          refine AR.s (pc' := 50) (lv' := [(5, .long z398), (3, .long z392), (2, .int z387), (1, .ref p), (0, .ref 12)]) (st' := [.long z398, .long z392, .int z387, .ref 12]) (h' := gv10) _ hn_37 hk_37_48 rfl ?_
                          have hc1 := hc 22 (by decide)
                          have hc2 := hc 23 (by decide)
                          obtain ⟨w11, t11⟩ := p_c12 Hgv10
                          refine AR.jr (r := 12) (as := [.int z387, .long z392, .long z398]) (rest := []) hk_37_50 (by decide) (by decide +kernel) (by decide) t11 rfl rfl (Nat.le_of_ble_eq_true rfl) (p_39_14 hlst (n := 11) Hgv10 (by omega) (by decide) (by decide) (by omega) (by omega) (fun k hk => by rw [up5 k hk]; have := tb_bd (o := 6) hc 5 k (by decide); omega)) (by decide) (Nat.zero_le _) (Nat.zero_le _) ?_ (fun E h' q => by cases q.1)
                          rintro w gv11 ⟨e, Hgv11, Qgv11, Rgv11⟩
                          cases e
                          have Pgv11 : pf [13, 14] h gv11 := pf.tr Pgv10 Qgv11 (by simp)
                          have up6 : ∀ k, k < 2 ^ 6 → hy_z gv11 14 k = tb (hy_z h (p + 1)) 6 6 k := tb_step (n := 5) (o := 6) up5 (show z392.toInt = hy_z h (p + 1) 22 by omega) (show z398.toInt = hy_z h (p + 1) 23 by omega) Rgv11
                          have lo611 : ∀ k, k < 2 ^ 6 → hy_z gv11 13 k = tb (hy_z h (p + 1)) 0 6 k := fun k hk => by rw [Qgv11.z (by decide)]; exact lo610 k hk
                          show AR _ _ _ _ _ _ _ 53 [(5, .long z398), (3, .long z392), (2, .int z387), (1, .ref p), (0, .ref 12)] [] gv11 _ _
                          refine AR.iincT hk_37_53 (x := z387) rfl (by rw [hn_37]; decide) (by decide) (by omega) (by omega) (fun z399 ez399 => ?_)
                          show AR _ _ _ _ _ _ _ 56 [(2, .int z399), (5, .long z398), (3, .long z392), (1, .ref p), (0, .ref 12)] [] gv11 _ _
                          refine AR.gotoT hk_37_56 (tgt := 16) (by decide) ?_
                          refine AR.lessL (lv' := [(2, .int z399), (1, .ref p), (0, .ref 12)]) (List.forall_mem_cons.mpr ⟨⟨_, by simp, ax_le_rfl rfl⟩, (List.forall_mem_cons.mpr ⟨⟨_, by simp, ax_le_rfl rfl⟩, (List.forall_mem_cons.mpr ⟨⟨_, by simp, ax_le_rfl rfl⟩, (fun _ h => absurd h List.not_mem_nil)⟩)⟩)⟩) ?_
                          refine AR.s (pc' := 17) (lv' := [(2, .int z399), (1, .ref p), (0, .ref 12)]) (st' := [.int z399]) (h' := gv11) _ hn_37 hk_37_16 rfl ?_
                          refine AR.bipushT hk_37_17 (by decide) (fun z400 ez400 => ?_)
                          show AR _ _ _ _ _ _ _ 19 [(2, .int z399), (1, .ref p), (0, .ref 12)] [.int z400, .int z399] gv11 _ _
                          refine AR.jge hk_37_19 (tgt := 59) (by decide) (fun az => ?_) (fun bz => ?_)
                          · exact AR.vret hk_37_59 hr_37 ⟨rfl, Hgv11, Pgv11, lo611, up6⟩
                          · exact absurd bz (by omega)
def nd (f : Nat → Int) (d : Int) : Nat → Int
  | 0 => d
  | n + 1 => max 0 (nd f d n - min (f (2 * n)) (f (2 * n + 1)))
def nf (f : Nat → Int) (k : Nat) : Int := f k - min (f (2 * (k / 2))) (f (2 * (k / 2) + 1))
theorem nd_bd {f : Nat → Int} {d : Int} (hf : ∀ k, k < 24 → -1000000000000 ≤ f k ∧ f k ≤ 1000000000000) (hd : -1000000000000 ≤ d ∧ d ≤ 1000000000000) : ∀ n, n ≤ 12 → -1000000000000 ≤ nd f d n ∧ nd f d n ≤ 1000000000000 * ((n : Int) + 1)
  | 0, _ => ⟨hd.1, by show d ≤ _; omega⟩
  | n + 1, h => by
    have a := nd_bd hf hd n (by omega)
    have b := hf (2 * n) (by omega)
    have c := hf (2 * n + 1) (by omega)
    show -1000000000000 ≤ max 0 (nd f d n - min (f (2 * n)) (f (2 * n + 1))) ∧ max 0 (nd f d n - min (f (2 * n)) (f (2 * n + 1))) ≤ _
    omega
def pq_26 (h : ax_H) : ax_Q := fun res g => res = .inl none ∧ hy_H 0 g ∧ pf [8, 9] h g ∧ hy_z g 8 1 = nd (hy_z h 9) (hy_z h 8 1) 12 ∧ ∀ k, k < 24 → hy_z g 9 k = nf (hy_z h 9) k
theorem p26_L (hlst : l.stackTraces = false) {X : ax_PX} (h9 : ∀ k, k < 24 → -1000000000000 ≤ hy_z h 9 k ∧ hy_z h 9 k ≤ 1000000000000) (h8 : -1000000000000 ≤ hy_z h 8 1 ∧ hy_z h 8 1 ≤ 1000000000000) : ∀ (n v : Nat) (g : ax_H) (i : Int32), v + n = 12 → i.toInt = 2 * v → hy_H 0 g → pf [8, 9] h g → hy_z g 8 1 = nd (hy_z h 9) (hy_z h 8 1) v → (∀ k, k < 2 * v → hy_z g 9 k = nf (hy_z h 9) k) → (∀ k, 2 * v ≤ k → k < 24 → hy_z g 9 k = hy_z h 9 k) → AR ax_ns l (ax_mm 26) 0 ty_R (ax_ret ax_ns (ax_mm 26) (pq_26 h)) X 2 [(1, .int i), (0, .ref 8)] [] g 0 0 := by
  intro n
  induction n with
  | zero =>
    intro v g i hn hi Hg Pg hd hv ho
    have Fg : ty_F pW g g := ty_F_refl _ _
    show AR _ _ _ _ _ _ _ 2 [(1, .int i), (0, .ref 8)] [] g _ _
    refine AR.s (pc' := 3) (lv' := [(1, .int i), (0, .ref 8)]) (st' := [.int i]) (h' := g) _ hn_26 hk_26_2 rfl ?_
    refine AR.bipushT hk_26_3 (by decide) (fun z401 ez401 => ?_)
    show AR _ _ _ _ _ _ _ 5 [(1, .int i), (0, .ref 8)] [.int z401, .int i] g _ _
    refine AR.jge hk_26_5 (tgt := 68) (by decide) (fun p1 => ?_) (fun p2 => ?_)
    · have v12 : v = 12 := by omega
      subst v12
      exact AR.vret hk_26_68 hr_26 ⟨rfl, Hg, Pg, hd, fun k hk => hv k (by omega)⟩
    · exact absurd p2 (by omega)
  | succ n ih =>
    intro v g i hn hi Hg Pg hd hv ho
    have Fg : ty_F pW g g := ty_F_refl _ _
    show AR _ _ _ _ _ _ _ 2 [(1, .int i), (0, .ref 8)] [] g _ _
    refine AR.s (pc' := 3) (lv' := [(1, .int i), (0, .ref 8)]) (st' := [.int i]) (h' := g) _ hn_26 hk_26_2 rfl ?_
    refine AR.bipushT hk_26_3 (by decide) (fun z402 ez402 => ?_)
    show AR _ _ _ _ _ _ _ 5 [(1, .int i), (0, .ref 8)] [.int z402, .int i] g _ _
    refine AR.jge hk_26_5 (tgt := 68) (by decide) (fun p1 => ?_) (fun p2 => ?_)
    · exact absurd p1 (by omega)
    · have f1 := h9 (2 * v) (by omega)
      have f2 := h9 (2 * v + 1) (by omega)
      have o1 := ho (2 * v) (by omega) (by omega)
      have o2 := ho (2 * v + 1) (by omega) (by omega)
      have db := nd_bd h9 h8 v (by omega)
      have dn : nd (hy_z h 9) (hy_z h 8 1) (v + 1) = max 0 (nd (hy_z h 9) (hy_z h 8 1) v - min (hy_z h 9 (2 * v)) (hy_z h 9 (2 * v + 1))) := rfl
      show AR _ _ _ _ _ _ _ 8 [(1, .int i), (0, .ref 8)] [] g _ _
      refine AR.s (pc' := 9) (lv' := [(1, .int i), (0, .ref 8)]) (st' := [.ref 8]) (h' := g) _ hn_26 hk_26_8 rfl ?_
      refine AR.gR hk_26_9 (by decide) Hg (q := 8) (n := 2) (by decide) (by decide +kernel) (by decide +kernel) (by decide) hy_t8_0 ?_
      show AR _ _ _ _ _ _ _ 12 [(1, .int i), (0, .ref 8)] [.ref 9] g _ _
      refine AR.s (pc' := 13) (lv' := [(1, .int i), (0, .ref 8)]) (st' := [.int i, .ref 9]) (h' := g) _ hn_26 hk_26_12 rfl ?_
      refine AR.laI hk_26_13 Hg (q := 9) (n := 24) (by decide) (by decide +kernel) (by decide +kernel) (by decide +kernel) hy_t9_0 (by omega) (by omega) (fun x403 dx403 lx403 ux403 => ?_)
      show AR _ _ _ _ _ _ _ 14 [(1, .int i), (0, .ref 8)] [.long x403] g _ _
      rw [show i.toNatClampNeg = 2 * v from by show i.toInt.toNat = 2 * v; omega] at dx403
      have xex403 := hy_zl dx403
      show AR _ _ _ _ _ _ _ 14 [(1, .int i), (0, .ref 8)] [.long x403] g _ _
      refine AR.s (pc' := 15) (lv' := [(1, .int i), (0, .ref 8)]) (st' := [.ref 8, .long x403]) (h' := g) _ hn_26 hk_26_14 rfl ?_
      refine AR.gR hk_26_15 (by decide) Hg (q := 8) (n := 2) (by decide) (by decide +kernel) (by decide +kernel) (by decide) hy_t8_0 ?_
      show AR _ _ _ _ _ _ _ 18 [(1, .int i), (0, .ref 8)] [.ref 9, .long x403] g _ _
      refine AR.s (pc' := 19) (lv' := [(1, .int i), (0, .ref 8)]) (st' := [.int i, .ref 9, .long x403]) (h' := g) _ hn_26 hk_26_18 rfl ?_
      refine AR.iconstT hk_26_19 (by decide) (fun z404 ez404 => ?_)
      show AR _ _ _ _ _ _ _ 20 [(1, .int i), (0, .ref 8)] [.int z404, .int i, .ref 9, .long x403] g _ _
      refine AR.addT hk_26_20 (by omega) (by omega) (fun z405 ez405 => ?_)
      show AR _ _ _ _ _ _ _ 21 [(1, .int i), (0, .ref 8)] [.int z405, .ref 9, .long x403] g _ _
      refine AR.laI hk_26_21 Hg (q := 9) (n := 24) (by decide) (by decide +kernel) (by decide +kernel) (by decide +kernel) hy_t9_0 (by omega) (by omega) (fun x406 dx406 lx406 ux406 => ?_)
      show AR _ _ _ _ _ _ _ 22 [(1, .int i), (0, .ref 8)] [.long x406, .long x403] g _ _
      rw [show z405.toNatClampNeg = 2 * v + 1 from by show z405.toInt.toNat = 2 * v + 1; omega] at dx406
      have xex406 := hy_zl dx406
      show AR _ _ _ _ _ _ _ 22 [(1, .int i), (0, .ref 8)] [.long x406, .long x403] g _ _
      refine AR.mminL (z := .long (if x406 < x403 then x406 else x403)) (ax_look_ok hk_26_22).1 (ax_wk_mem (ix := 2192) (by decide +kernel)) rfl (Nat.le_of_ble_eq_true rfl) ?_
      have qz407 : (if x406 < x403 then x406 else x403 : Int64).toInt = min x403.toInt x406.toInt := p_min
      generalize (if x406 < x403 then x406 else x403 : Int64) = z407 at qz407
      show AR _ _ _ _ _ _ _ 25 [(1, .int i), (0, .ref 8)] [.long z407] g _ _
      refine AR.s (pc' := 26) (lv' := [(2, .long z407), (1, .int i), (0, .ref 8)]) (st' := []) (h' := g) _ hn_26 hk_26_25 rfl ?_
      refine AR.s (pc' := 27) (lv' := [(2, .long z407), (1, .int i), (0, .ref 8)]) (st' := [.ref 8]) (h' := g) _ hn_26 hk_26_26 rfl ?_
      refine AR.gR hk_26_27 (by decide) Hg (q := 8) (n := 2) (by decide) (by decide +kernel) (by decide +kernel) (by decide) hy_t8_0 ?_
      show AR _ _ _ _ _ _ _ 30 [(2, .long z407), (1, .int i), (0, .ref 8)] [.ref 9] g _ _
      refine AR.s (pc' := 31) (lv' := [(2, .long z407), (1, .int i), (0, .ref 8)]) (st' := [.int i, .ref 9]) (h' := g) _ hn_26 hk_26_30 rfl ?_
      refine AR.dup2 (ax_look_ok hk_26_31).1 rfl rfl ?_
      show AR _ _ _ _ _ _ _ 32 [(2, .long z407), (1, .int i), (0, .ref 8)] [.int i, .ref 9, .int i, .ref 9] g _ _
      refine AR.laI hk_26_32 Hg (q := 9) (n := 24) (by decide) (by decide +kernel) (by decide +kernel) (by decide +kernel) hy_t9_0 (by omega) (by omega) (fun x408 dx408 lx408 ux408 => ?_)
      show AR _ _ _ _ _ _ _ 33 [(2, .long z407), (1, .int i), (0, .ref 8)] [.long x408, .int i, .ref 9] g _ _
      rw [show i.toNatClampNeg = 2 * v from by show i.toInt.toNat = 2 * v; omega] at dx408
      have xex408 := hy_zl dx408
      show AR _ _ _ _ _ _ _ 33 [(2, .long z407), (1, .int i), (0, .ref 8)] [.long x408, .int i, .ref 9] g _ _
      refine AR.s (pc' := 34) (lv' := [(2, .long z407), (1, .int i), (0, .ref 8)]) (st' := [.long z407, .long x408, .int i, .ref 9]) (h' := g) _ hn_26 hk_26_33 rfl ?_
      refine AR.lsubT hk_26_34 (by omega) (by omega) (fun z409 ez409 => ?_)
      show AR _ _ _ _ _ _ _ 35 [(2, .long z407), (1, .int i), (0, .ref 8)] [.long z409, .int i, .ref 9] g _ _
      have r410a := Int64.le_toInt z409
      have r410b := Int64.toInt_lt z409
      refine AR.lsT hk_26_35 Hg Fg (q := 9) (n := 24) (by decide) (by decide +kernel) (by decide +kernel) (by decide +kernel) hy_t9_0 (by omega) (by omega) (by omega) (by omega) (by decide +kernel) ?_
      rintro g411 ⟨Hg411, Fg411, Gg411, Eg411⟩
      show AR _ _ _ _ _ _ _ 36 [(2, .long z407), (1, .int i), (0, .ref 8)] [] g411 _ _
      have pg411 : pf [8, 9] h g411 := pf_st Pg Gg411.1 Eg411 (by simp)
      have y1 := hz_put Eg411
      have y1b := y1 (2 * v + 1)
      rw [if_neg (by omega)] at y1b
      have y1d : hy_z g411 8 1 = hy_z g 8 1 := hy_ze (by rw [Eg411, if_neg (fun c => absurd c.1 (by decide))])
      show AR _ _ _ _ _ _ _ 36 [(2, .long z407), (1, .int i), (0, .ref 8)] [] g411 _ _
      refine AR.s (pc' := 37) (lv' := [(2, .long z407), (1, .int i), (0, .ref 8)]) (st' := [.ref 8]) (h' := g411) _ hn_26 hk_26_36 rfl ?_
      refine AR.gR hk_26_37 (by decide) Hg411 (q := 8) (n := 2) (by decide) (by decide +kernel) (by decide +kernel) (by decide) hy_t8_0 ?_
      show AR _ _ _ _ _ _ _ 40 [(2, .long z407), (1, .int i), (0, .ref 8)] [.ref 9] g411 _ _
      refine AR.s (pc' := 41) (lv' := [(2, .long z407), (1, .int i), (0, .ref 8)]) (st' := [.int i, .ref 9]) (h' := g411) _ hn_26 hk_26_40 rfl ?_
      refine AR.iconstT hk_26_41 (by decide) (fun z412 ez412 => ?_)
      show AR _ _ _ _ _ _ _ 42 [(2, .long z407), (1, .int i), (0, .ref 8)] [.int z412, .int i, .ref 9] g411 _ _
      refine AR.addT hk_26_42 (by omega) (by omega) (fun z413 ez413 => ?_)
      show AR _ _ _ _ _ _ _ 43 [(2, .long z407), (1, .int i), (0, .ref 8)] [.int z413, .ref 9] g411 _ _
      refine AR.dup2 (ax_look_ok hk_26_43).1 rfl rfl ?_
      show AR _ _ _ _ _ _ _ 44 [(2, .long z407), (1, .int i), (0, .ref 8)] [.int z413, .ref 9, .int z413, .ref 9] g411 _ _
      refine AR.laI hk_26_44 Hg411 (q := 9) (n := 24) (by decide) (by decide +kernel) (by decide +kernel) (by decide +kernel) hy_t9_0 (by omega) (by omega) (fun x414 dx414 lx414 ux414 => ?_)
      show AR _ _ _ _ _ _ _ 45 [(2, .long z407), (1, .int i), (0, .ref 8)] [.long x414, .int z413, .ref 9] g411 _ _
      rw [show z413.toNatClampNeg = 2 * v + 1 from by show z413.toInt.toNat = 2 * v + 1; omega] at dx414
      have xex414 := hy_zl dx414
      show AR _ _ _ _ _ _ _ 45 [(2, .long z407), (1, .int i), (0, .ref 8)] [.long x414, .int z413, .ref 9] g411 _ _
      refine AR.s (pc' := 46) (lv' := [(2, .long z407), (1, .int i), (0, .ref 8)]) (st' := [.long z407, .long x414, .int z413, .ref 9]) (h' := g411) _ hn_26 hk_26_45 rfl ?_
      refine AR.lsubT hk_26_46 (by omega) (by omega) (fun z415 ez415 => ?_)
      show AR _ _ _ _ _ _ _ 47 [(2, .long z407), (1, .int i), (0, .ref 8)] [.long z415, .int z413, .ref 9] g411 _ _
      have r416a := Int64.le_toInt z415
      have r416b := Int64.toInt_lt z415
      refine AR.lsT hk_26_47 Hg411 Fg411 (q := 9) (n := 24) (by decide) (by decide +kernel) (by decide +kernel) (by decide +kernel) hy_t9_0 (by omega) (by omega) (by omega) (by omega) (by decide +kernel) ?_
      rintro g417 ⟨Hg417, Fg417, Gg417, Eg417⟩
      show AR _ _ _ _ _ _ _ 48 [(2, .long z407), (1, .int i), (0, .ref 8)] [] g417 _ _
      have pg417 : pf [8, 9] h g417 := pf_st pg411 Gg417.1 Eg417 (by simp)
      have y2 := hz_put Eg417
      have y2d : hy_z g417 8 1 = hy_z g411 8 1 := hy_ze (by rw [Eg417, if_neg (fun c => absurd c.1 (by decide))])
      show AR _ _ _ _ _ _ _ 48 [(2, .long z407), (1, .int i), (0, .ref 8)] [] g417 _ _
      refine AR.s (pc' := 49) (lv' := [(2, .long z407), (1, .int i), (0, .ref 8)]) (st' := [.ref 8]) (h' := g417) _ hn_26 hk_26_48 rfl ?_
      refine AR.lconstT hk_26_49 (fun z418 ez418 => ?_)
      have kz418 : z418 = 0 := Int64.toInt_inj.mp (ez418.trans rfl)
      show AR _ _ _ _ _ _ _ 50 [(2, .long z407), (1, .int i), (0, .ref 8)] [.long z418, .ref 8] g417 _ _
      refine AR.s (pc' := 51) (lv' := [(2, .long z407), (1, .int i), (0, .ref 8)]) (st' := [.ref 8, .long z418, .ref 8]) (h' := g417) _ hn_26 hk_26_50 rfl ?_
      refine AR.gL hk_26_51 (by decide) Hg417 (q := 8) (n := 2) (by decide) (by decide +kernel) (by decide +kernel) (by decide) hy_t8_1 (fun x419 dx419 lx419 ux419 => ?_)
      show AR _ _ _ _ _ _ _ 54 [(2, .long z407), (1, .int i), (0, .ref 8)] [.long x419, .long z418, .ref 8] g417 _ _
      have sx419 := hy_zl dx419
      refine AR.s (pc' := 55) (lv' := [(2, .long z407), (1, .int i), (0, .ref 8)]) (st' := [.long z407, .long x419, .long z418, .ref 8]) (h' := g417) _ hn_26 hk_26_54 rfl ?_
      refine AR.lsubT hk_26_55 (by omega) (by omega) (fun z420 ez420 => ?_)
      show AR _ _ _ _ _ _ _ 56 [(2, .long z407), (1, .int i), (0, .ref 8)] [.long z420, .long z418, .ref 8] g417 _ _
      refine AR.mmaxL (z := .long (if z420 < z418 then z418 else z420)) (ax_look_ok hk_26_56).1 (ax_wk_mem (ix := 2195) (by decide +kernel)) rfl (Nat.le_of_ble_eq_true rfl) ?_
      have qz421 : (if z420 < z418 then z418 else z420 : Int64).toInt = max z418.toInt z420.toInt := p_max
      generalize (if z420 < z418 then z418 else z420 : Int64) = z421 at qz421
      show AR _ _ _ _ _ _ _ 59 [(2, .long z407), (1, .int i), (0, .ref 8)] [.long z421, .ref 8] g417 _ _
      have r422a := Int64.le_toInt z421
      have r422b := Int64.toInt_lt z421
      refine AR.pT hk_26_59 (by decide) Hg417 Fg417 (q := 8) (by decide) (by decide +kernel) (show ax_cls[2]? = some hy_c2 from rfl) (by decide +kernel) (by decide) rfl (by rw [hy_t8_1]; exact ⟨_, rfl, by omega, by omega, Or.inl rfl⟩) (by decide +kernel) (by decide +kernel) ?_
      rintro g423 ⟨Hg423, Fg423, Gg423, Eg423⟩
      show AR _ _ _ _ _ _ _ 62 [(2, .long z407), (1, .int i), (0, .ref 8)] [] g423 _ _
      have pg423 : pf [8, 9] h g423 := pf_st pg417 Gg423.1 Eg423 (by simp)
      have y3 : hy_z g423 8 1 = z421.toInt := hy_zl (i := z421) (by rw [Eg423, if_pos ⟨rfl, rfl⟩])
      have y3k : ∀ k, hy_z g423 9 k = hy_z g417 9 k := fun k => hy_ze (by rw [Eg423, if_neg (fun c => absurd c.1 (by decide))])
      show AR _ _ _ _ _ _ _ 62 [(2, .long z407), (1, .int i), (0, .ref 8)] [] g423 _ _
      refine AR.iincT hk_26_62 (x := i) rfl (by rw [hn_26]; decide) (by decide) (by omega) (by omega) (fun z424 ez424 => ?_)
      show AR _ _ _ _ _ _ _ 65 [(1, .int z424), (2, .long z407), (0, .ref 8)] [] g423 _ _
      refine AR.gotoT hk_26_65 (tgt := 2) (by decide) ?_
      refine AR.lessL (lv' := [(1, .int z424), (0, .ref 8)]) (List.forall_mem_cons.mpr ⟨⟨_, by simp, ax_le_rfl rfl⟩, (List.forall_mem_cons.mpr ⟨⟨_, by simp, ax_le_rfl rfl⟩, (fun _ h => absurd h List.not_mem_nil)⟩)⟩) ?_
      refine ih (v + 1) g423 z424 (by omega) (by omega) Hg423 pg423 (by rw [dn]; omega) (fun k hk => ?_) (fun k hk hk2 => ?_)
      · rw [y3k, y2]
        by_cases e1 : k = 2 * v + 1
        · rw [if_pos (by omega)]; unfold nf; rw [show k / 2 = v from by omega, e1]; omega
        · rw [if_neg (by omega), y1]
          by_cases e0 : k = 2 * v
          · rw [if_pos (by omega)]; unfold nf; rw [show k / 2 = v from by omega, e0]; omega
          · rw [if_neg (by omega)]; exact hv k (by omega)
      · rw [y3k, y2, if_neg (by omega), y1, if_neg (by omega)]; exact ho k (by omega) hk2
theorem p_26 (hlst : l.stackTraces = false) (hH : hy_H 0 h) (h9 : ∀ k, k < 24 → -1000000000000 ≤ hy_z h 9 k ∧ hy_z h 9 k ≤ 1000000000000) (h8 : -1000000000000 ≤ hy_z h 8 1 ∧ hy_z h 8 1 ≤ 1000000000000) : AM ax_ns l (ax_mm 26) 0 ty_R (0) (0) [.ref 8] h (pq_26 h) := by
  refine AM.of (ax_mfacts (by decide +kernel : ax_has 26 = true)).2.2.2.2.2.2 hlst (by rw [hn_26]; exact Nat.le_of_ble_eq_true rfl) ?_
  show AR ax_ns l (ax_mm 26) 0 ty_R _ _ 0 [(0, .ref 8)] [] h (0) (0)
  refine AR.iconstT hk_26_0 (by decide) (fun z425 ez425 => ?_)
  show AR _ _ _ _ _ _ _ 1 [(0, .ref 8)] [.int z425] h _ _
  refine AR.s (pc' := 2) (lv' := [(1, .int z425), (0, .ref 8)]) (st' := []) (h' := h) _ hn_26 hk_26_1 rfl ?_
  refine AR.lessL (lv' := [(1, .int z425), (0, .ref 8)]) (List.forall_mem_cons.mpr ⟨⟨_, by simp, ax_le_rfl rfl⟩, (List.forall_mem_cons.mpr ⟨⟨_, by simp, ax_le_rfl rfl⟩, (fun _ h => absurd h List.not_mem_nil)⟩)⟩) ?_
  exact p26_L hlst h9 h8 12 0 h z425 (by omega) (by omega) hH (pf_r _ _) rfl (fun k hk => absurd hk (by omega)) (fun k _ _ => rfl)
theorem AR.ldivT {i d pc : Nat} {P : ax_P} {X : ax_PX} {lv : List (Nat × Value)} {st : List Value} {bc bs : Nat} {v : Value} {ws : List Nat} {w : Nat × Nat × Nat} {x y : Int64} (hl : ax_look i pc = some (.ldiv, w, v, ws)) (hy : 1 ≤ y.toInt) (k : ∀ z : Int64, z.toInt = x.toInt.tdiv y.toInt → AR ax_ns l (ax_mm i) d ty_R P X (pc + 1) lv (.long z :: st) h bc bs) : AR ax_ns l (ax_mm i) d ty_R P X pc lv (.long y :: .long x :: st) h bc bs := by
  have h0 : ¬ y = 0 := fun e => by
    rw [e] at hy
    exact absurd hy (by decide)
  exact AR.ldiv (z := .long (x / y)) (ax_look_ok hl).1 (by simp only [ax_m2, if_neg h0, ax_l2]) (k _ (Int64.toInt_div_of_ne_right _ _ (fun e => by
    rw [e] at hy
    exact absurd hy (by decide))))
def pq_23 (h : ax_H) (m : Int) : ax_Q := fun res g => res = .inl none ∧ hy_H 0 g ∧ pf [8, 9] h g ∧ hy_z g 8 1 = (hy_z h 8 1 + m - 1).tdiv m ∧ ∀ k, k < 24 → hy_z g 9 k = (hy_z h 9 k + m - 1).tdiv m
theorem p23_L (hlst : l.stackTraces = false) {X : ax_PX} {b : Int64} (b1 : 1 ≤ b.toInt) (b2 : b.toInt ≤ 1000000) (h9 : ∀ k, k < 24 → -1000000000000 ≤ hy_z h 9 k ∧ hy_z h 9 k ≤ 1000000000000) (h8 : -1000000000000 ≤ hy_z h 8 1 ∧ hy_z h 8 1 ≤ 1000000000000) : ∀ (n : Nat) (g : ax_H) (i : Int32), i.toInt + n = 24 → 0 ≤ i.toInt → hy_H 0 g → pf [8, 9] h g → hy_z g 8 1 = hy_z h 8 1 → (∀ k : Nat, (k : Int) < i.toInt → hy_z g 9 k = (hy_z h 9 k + b.toInt - 1).tdiv b.toInt) → (∀ k : Nat, i.toInt ≤ k → k < 24 → hy_z g 9 k = hy_z h 9 k) → AR ax_ns l (ax_mm 23) 0 ty_R (ax_ret ax_ns (ax_mm 23) (pq_23 h b.toInt)) X 9 [(5, .int i), (3, .long b), (0, .ref 8)] [] g 0 0 := by
  intro n
  induction n with
  | zero =>
    intro g i hn i0 Hg Pg hd hv ho
    have Fg : ty_F 412316860416 g g := ty_F_refl _ _
    show AR _ _ _ _ _ _ _ 9 [(5, .int i), (3, .long b), (0, .ref 8)] [] g _ _
    refine AR.s (pc' := 11) (lv' := [(5, .int i), (3, .long b), (0, .ref 8)]) (st' := [.int i]) (h' := g) _ hn_23 hk_23_9 rfl ?_
    refine AR.bipushT hk_23_11 (by decide) (fun z426 ez426 => ?_)
    show AR _ _ _ _ _ _ _ 13 [(5, .int i), (3, .long b), (0, .ref 8)] [.int z426, .int i] g _ _
    refine AR.jge hk_23_13 (tgt := 42) (by decide) (fun p1 => ?_) (fun p2 => ?_)
    · refine AR.s (pc' := 43) (lv' := [(5, .int i), (3, .long b), (0, .ref 8)]) (st' := [.ref 8]) (h' := g) _ hn_23 hk_23_42 rfl ?_
      refine AR.s (pc' := 44) (lv' := [(5, .int i), (3, .long b), (0, .ref 8)]) (st' := [.ref 8, .ref 8]) (h' := g) _ hn_23 hk_23_43 rfl ?_
      refine AR.gL hk_23_44 (by decide) Hg (q := 8) (n := 2) (by decide) (by decide +kernel) (by decide +kernel) (by decide) hy_t8_1 (fun x427 dx427 lx427 ux427 => ?_)
      show AR _ _ _ _ _ _ _ 47 [(5, .int i), (3, .long b), (0, .ref 8)] [.long x427, .ref 8] g _ _
      have sx427 := hy_zl dx427
      refine AR.s (pc' := 48) (lv' := [(5, .int i), (3, .long b), (0, .ref 8)]) (st' := [.long b, .long x427, .ref 8]) (h' := g) _ hn_23 hk_23_47 rfl ?_
      refine AR.laddT hk_23_48 (by omega) (by omega) (fun z428 ez428 => ?_)
      show AR _ _ _ _ _ _ _ 49 [(5, .int i), (3, .long b), (0, .ref 8)] [.long z428, .ref 8] g _ _
      refine AR.lconstT hk_23_49 (fun z429 ez429 => ?_)
      have kz429 : z429 = 1 := Int64.toInt_inj.mp (ez429.trans rfl)
      show AR _ _ _ _ _ _ _ 50 [(5, .int i), (3, .long b), (0, .ref 8)] [.long z429, .long z428, .ref 8] g _ _
      refine AR.lsubT hk_23_50 (by omega) (by omega) (fun z430 ez430 => ?_)
      show AR _ _ _ _ _ _ _ 51 [(5, .int i), (3, .long b), (0, .ref 8)] [.long z430, .ref 8] g _ _
      refine AR.s (pc' := 52) (lv' := [(5, .int i), (3, .long b), (0, .ref 8)]) (st' := [.long b, .long z430, .ref 8]) (h' := g) _ hn_23 hk_23_51 rfl ?_
      refine AR.ldivT hk_23_52 (by omega) (fun z431 ez431 => ?_)
      show AR _ _ _ _ _ _ _ 53 [(5, .int i), (3, .long b), (0, .ref 8)] [.long z431, .ref 8] g _ _
      have r432a := Int64.le_toInt z431
      have r432b := Int64.toInt_lt z431
      refine AR.pT hk_23_53 (by decide) Hg Fg (q := 8) (by decide) (by decide +kernel) (show ax_cls[2]? = some hy_c2 from rfl) (by decide +kernel) (by decide) rfl (by rw [hy_t8_1]; exact ⟨_, rfl, by omega, by omega, Or.inl rfl⟩) (by decide +kernel) (by decide +kernel) ?_
      rintro g433 ⟨Hg433, Fg433, Gg433, Eg433⟩
      show AR _ _ _ _ _ _ _ 56 [(5, .int i), (3, .long b), (0, .ref 8)] [] g433 _ _
      have pg433 : pf [8, 9] h g433 := pf_st Pg Gg433.1 Eg433 (by simp)
      have u8 : hy_z g433 8 1 = z431.toInt := hy_zl (i := z431) (by rw [Eg433, if_pos ⟨rfl, rfl⟩])
      have u9 : ∀ k, hy_z g433 9 k = hy_z g 9 k := fun k => hy_ze (by rw [Eg433, if_neg (fun c => absurd c.1 (by decide))])
      have nv : z431.toInt = (hy_z h 8 1 + b.toInt - 1).tdiv b.toInt := by rw [ez431]; congr 1; omega
      exact AR.vret hk_23_56 hr_23 ⟨rfl, Hg433, pg433, u8.trans nv, fun k hk => by rw [u9]; exact hv k (by omega)⟩
    · exact absurd p2 (by omega)
  | succ n ih =>
    intro g i hn i0 Hg Pg hd hv ho
    have Fg : ty_F 412316860416 g g := ty_F_refl _ _
    show AR _ _ _ _ _ _ _ 9 [(5, .int i), (3, .long b), (0, .ref 8)] [] g _ _
    refine AR.s (pc' := 11) (lv' := [(5, .int i), (3, .long b), (0, .ref 8)]) (st' := [.int i]) (h' := g) _ hn_23 hk_23_9 rfl ?_
    refine AR.bipushT hk_23_11 (by decide) (fun z434 ez434 => ?_)
    show AR _ _ _ _ _ _ _ 13 [(5, .int i), (3, .long b), (0, .ref 8)] [.int z434, .int i] g _ _
    refine AR.jge hk_23_13 (tgt := 42) (by decide) (fun p1 => ?_) (fun p2 => ?_)
    · exact absurd p1 (by omega)
    · have xk : i.toNatClampNeg = i.toInt.toNat := rfl
      have ik : (i.toInt.toNat : Int) = i.toInt := by omega
      have ho1 := ho i.toInt.toNat (by omega) (by omega)
      have h91 := h9 i.toInt.toNat (by omega)
      show AR _ _ _ _ _ _ _ 16 [(5, .int i), (3, .long b), (0, .ref 8)] [] g _ _
      refine AR.s (pc' := 17) (lv' := [(5, .int i), (3, .long b), (0, .ref 8)]) (st' := [.ref 8]) (h' := g) _ hn_23 hk_23_16 rfl ?_
      refine AR.gR hk_23_17 (by decide) Hg (q := 8) (n := 2) (by decide) (by decide +kernel) (by decide +kernel) (by decide) hy_t8_0 ?_
      show AR _ _ _ _ _ _ _ 20 [(5, .int i), (3, .long b), (0, .ref 8)] [.ref 9] g _ _
      refine AR.s (pc' := 22) (lv' := [(5, .int i), (3, .long b), (0, .ref 8)]) (st' := [.int i, .ref 9]) (h' := g) _ hn_23 hk_23_20 rfl ?_
      refine AR.s (pc' := 23) (lv' := [(5, .int i), (3, .long b), (0, .ref 8)]) (st' := [.ref 8, .int i, .ref 9]) (h' := g) _ hn_23 hk_23_22 rfl ?_
      refine AR.gR hk_23_23 (by decide) Hg (q := 8) (n := 2) (by decide) (by decide +kernel) (by decide +kernel) (by decide) hy_t8_0 ?_
      show AR _ _ _ _ _ _ _ 26 [(5, .int i), (3, .long b), (0, .ref 8)] [.ref 9, .int i, .ref 9] g _ _
      refine AR.s (pc' := 28) (lv' := [(5, .int i), (3, .long b), (0, .ref 8)]) (st' := [.int i, .ref 9, .int i, .ref 9]) (h' := g) _ hn_23 hk_23_26 rfl ?_
      refine AR.laI hk_23_28 Hg (q := 9) (n := 24) (by decide) (by decide +kernel) (by decide +kernel) (by decide +kernel) hy_t9_0 (by omega) (by omega) (fun x435 dx435 lx435 ux435 => ?_)
      show AR _ _ _ _ _ _ _ 29 [(5, .int i), (3, .long b), (0, .ref 8)] [.long x435, .int i, .ref 9] g _ _
      rw [xk] at dx435
      have xex435 := hy_zl dx435
      show AR _ _ _ _ _ _ _ 29 [(5, .int i), (3, .long b), (0, .ref 8)] [.long x435, .int i, .ref 9] g _ _
      refine AR.s (pc' := 30) (lv' := [(5, .int i), (3, .long b), (0, .ref 8)]) (st' := [.long b, .long x435, .int i, .ref 9]) (h' := g) _ hn_23 hk_23_29 rfl ?_
      refine AR.laddT hk_23_30 (by omega) (by omega) (fun z436 ez436 => ?_)
      show AR _ _ _ _ _ _ _ 31 [(5, .int i), (3, .long b), (0, .ref 8)] [.long z436, .int i, .ref 9] g _ _
      refine AR.lconstT hk_23_31 (fun z437 ez437 => ?_)
      have kz437 : z437 = 1 := Int64.toInt_inj.mp (ez437.trans rfl)
      show AR _ _ _ _ _ _ _ 32 [(5, .int i), (3, .long b), (0, .ref 8)] [.long z437, .long z436, .int i, .ref 9] g _ _
      refine AR.lsubT hk_23_32 (by omega) (by omega) (fun z438 ez438 => ?_)
      show AR _ _ _ _ _ _ _ 33 [(5, .int i), (3, .long b), (0, .ref 8)] [.long z438, .int i, .ref 9] g _ _
      refine AR.s (pc' := 34) (lv' := [(5, .int i), (3, .long b), (0, .ref 8)]) (st' := [.long b, .long z438, .int i, .ref 9]) (h' := g) _ hn_23 hk_23_33 rfl ?_
      refine AR.ldivT hk_23_34 (by omega) (fun z439 ez439 => ?_)
      show AR _ _ _ _ _ _ _ 35 [(5, .int i), (3, .long b), (0, .ref 8)] [.long z439, .int i, .ref 9] g _ _
      have r440a := Int64.le_toInt z439
      have r440b := Int64.toInt_lt z439
      refine AR.lsT hk_23_35 Hg Fg (q := 9) (n := 24) (by decide) (by decide +kernel) (by decide +kernel) (by decide +kernel) hy_t9_0 (by omega) (by omega) (by omega) (by omega) (by decide +kernel) ?_
      rintro g441 ⟨Hg441, Fg441, Gg441, Eg441⟩
      show AR _ _ _ _ _ _ _ 36 [(5, .int i), (3, .long b), (0, .ref 8)] [] g441 _ _
      have pg441 : pf [8, 9] h g441 := pf_st Pg Gg441.1 Eg441 (by simp)
      have yy := hz_put Eg441
      have u81 : hy_z g441 8 1 = hy_z g 8 1 := hy_ze (by rw [Eg441, if_neg (fun c => absurd c.1 (by decide))])
      have nv : z439.toInt = (hy_z h 9 i.toInt.toNat + b.toInt - 1).tdiv b.toInt := by rw [ez439]; congr 1; omega
      show AR _ _ _ _ _ _ _ 36 [(5, .int i), (3, .long b), (0, .ref 8)] [] g441 _ _
      refine AR.iincT hk_23_36 (x := i) rfl (by rw [hn_23]; decide) (by decide) (by omega) (by omega) (fun z442 ez442 => ?_)
      show AR _ _ _ _ _ _ _ 39 [(5, .int z442), (3, .long b), (0, .ref 8)] [] g441 _ _
      refine AR.gotoT hk_23_39 (tgt := 9) (by decide) ?_
      refine AR.lessL (lv' := [(5, .int z442), (3, .long b), (0, .ref 8)]) (List.forall_mem_cons.mpr ⟨⟨_, by simp, ax_le_rfl rfl⟩, (List.forall_mem_cons.mpr ⟨⟨_, by simp, ax_le_rfl rfl⟩, (List.forall_mem_cons.mpr ⟨⟨_, by simp, ax_le_rfl rfl⟩, (fun _ h => absurd h List.not_mem_nil)⟩)⟩)⟩) ?_
      refine ih g441 z442 (by omega) (by omega) Hg441 pg441 (by omega) (fun k hk => ?_) (fun k hk hk2 => ?_)
      · rw [yy]
        by_cases e : (k : Int) = i.toInt
        · have ek : k = i.toInt.toNat := by omega
          subst ek
          rw [if_pos rfl]
          exact nv
        · rw [if_neg (by omega)]; exact hv k (by omega)
      · rw [yy, if_neg (by omega)]; exact ho k (by omega) hk2
theorem p_23 (hlst : l.stackTraces = false) {m : Int64} (hH : hy_H 0 h) (m1 : 1 ≤ m.toInt) (m2 : m.toInt ≤ 1000000) (h9 : ∀ k, k < 24 → -1000000000000 ≤ hy_z h 9 k ∧ hy_z h 9 k ≤ 1000000000000) (h8 : -1000000000000 ≤ hy_z h 8 1 ∧ hy_z h 8 1 ≤ 1000000000000) : AM ax_ns l (ax_mm 23) 0 ty_R (0) (0) [.ref 8, .long m] h (pq_23 h m.toInt) := by
  refine AM.of (ax_mfacts (by decide +kernel : ax_has 23 = true)).2.2.2.2.2.2 hlst (by rw [hn_23]; exact Nat.le_of_ble_eq_true rfl) ?_
  show AR ax_ns l (ax_mm 23) 0 ty_R _ _ 0 [(0, .ref 8), (1, .long m)] [] h (0) (0)
  refine AR.lconstT hk_23_0 (fun z443 ez443 => ?_)
  have kz443 : z443 = 1 := Int64.toInt_inj.mp (ez443.trans rfl)
  show AR _ _ _ _ _ _ _ 1 [(0, .ref 8), (1, .long m)] [.long z443] h _ _
  refine AR.s (pc' := 2) (lv' := [(0, .ref 8), (1, .long m)]) (st' := [.long m, .long z443]) (h' := h) _ hn_23 hk_23_1 rfl ?_
  refine AR.mmaxL (z := .long (if m < z443 then z443 else m)) (ax_look_ok hk_23_2).1 (ax_wk_mem (ix := 2195) (by decide +kernel)) rfl (Nat.le_of_ble_eq_true rfl) ?_
  have qz444 : (if m < z443 then z443 else m : Int64).toInt = max z443.toInt m.toInt := p_max
  generalize (if m < z443 then z443 else m : Int64) = z444 at qz444
  show AR _ _ _ _ _ _ _ 5 [(0, .ref 8), (1, .long m)] [.long z444] h _ _
  have zm : z444.toInt = m.toInt := by omega
  show AR _ _ _ _ _ _ _ 5 [(0, .ref 8), (1, .long m)] [.long z444] h _ _
  refine AR.s (pc' := 6) (lv' := [(3, .long z444), (0, .ref 8), (1, .long m)]) (st' := []) (h' := h) _ hn_23 hk_23_5 rfl ?_
  refine AR.iconstT hk_23_6 (by decide) (fun z445 ez445 => ?_)
  show AR _ _ _ _ _ _ _ 7 [(3, .long z444), (0, .ref 8), (1, .long m)] [.int z445] h _ _
  refine AR.s (pc' := 9) (lv' := [(5, .int z445), (3, .long z444), (0, .ref 8), (1, .long m)]) (st' := []) (h' := h) _ hn_23 hk_23_7 rfl ?_
  refine AR.lessL (lv' := [(5, .int z445), (3, .long z444), (0, .ref 8)]) (List.forall_mem_cons.mpr ⟨⟨_, by simp, ax_le_rfl rfl⟩, (List.forall_mem_cons.mpr ⟨⟨_, by simp, ax_le_rfl rfl⟩, (List.forall_mem_cons.mpr ⟨⟨_, by simp, ax_le_rfl rfl⟩, (fun _ h => absurd h List.not_mem_nil)⟩)⟩)⟩) ?_
  rw [← zm]
  exact p23_L hlst (by omega) (by omega) h9 h8 24 h z445 (by omega) (by omega) hH (pf_r _ _) rfl (fun k hk => absurd hk (by omega)) (fun k _ _ => rfl)
def bw : Nat → Int64
  | 0 => -6148914691236517206
  | 1 => -3689348814741910324
  | 2 => -1085102592571150096
  | 3 => -71777214294589696
  | 4 => -281470681808896
  | _ => -4294967296
theorem p_bits : ∀ v, v < 6 → ax_bits[v]? = some (.long (bw v))
  | 0, _ => rfl
  | 1, _ => rfl
  | 2, _ => rfl
  | 3, _ => rfl
  | 4, _ => rfl
  | 5, _ => rfl
  | n + 6, h => absurd h (by omega)
theorem p_bw : ∀ v, v < 6 → ∀ k, k < 64 → pb (bw v) k = Nat.testBit k v := by decide +kernel
def ma (Y N : Nat) : Nat → Nat → Bool
  | 0, _ => true
  | v + 1, k => (ma Y N v k && (!(Y.testBit v) || k.testBit v)) && (!(N.testBit v) || !(k.testBit v))
theorem p_of64 {i : Int32} {n : Nat} (h : i.toInt = n) (hn : n < 64) : i = Int32.ofNat n := p_of h hn
theorem p_s6a : ∀ Y, Y < 64 → Int32.ofNat Y >>> ((6 : Int32) &&& 31) = 0 := by decide +kernel
theorem p_s6 {x b : Int32} {Y : Nat} (hx : x.toInt = Y) (hY : Y < 64) (hb : b.toInt = 6) : x >>> (b &&& 31) = 0 := by
  rw [p_of hx hY, show b = 6 from Int32.toInt_inj.mp (by rw [hb]; rfl)]
  exact p_s6a Y hY
theorem p_tba : ∀ Y, Y < 64 → ∀ v, v < 6 → (Int32.ofNat Y >>> (Int32.ofNat v &&& 31)) &&& 1 = if Y.testBit v then 1 else 0 := by decide +kernel
theorem p_tb {x s o : Int32} {Y v : Nat} (hx : x.toInt = Y) (hY : Y < 64) (hs : s.toInt = v) (hv : v < 6) (ho : o.toInt = 1) : ((x >>> (s &&& 31)) &&& o).toInt = if Y.testBit v then 1 else 0 := by
  rw [p_of hx hY, p_of hs (by omega), show o = 1 from Int32.toInt_inj.mp (by rw [ho]; rfl), p_tba Y hY v hv]
  split <;> rfl
def pq_47 (h : ax_H) (W0 : Int64) (Y N : Nat) : ax_Q := fun res g => g = h ∧ ∃ r : Int64, res = .inl (some (.long r)) ∧ ∀ k, k < 64 → pb r k = (pb W0 k && ma Y N 6 k)
theorem p47_b (hlst : l.stackTraces = false) {X : ax_PX} {W0 f : Int64} {Y N v : Nat} {i : Int32} (hy : y.toInt = N) (hN : N < 64) (hi : i.toInt = v) (hv : v < 6) (hf : ∀ k, k < 64 → pb f k = (pb W0 k && (ma Y N v k && (!(Y.testBit v) || k.testBit v)))) (K : ∀ (j : Int32) (f' : Int64), j.toInt = v + 1 → (∀ k, k < 64 → pb f' k = (pb W0 k && ma Y N (v + 1) k)) → AR ax_ns l (ax_mm 47) 0 ty_R (ax_ret ax_ns (ax_mm 47) (pq_47 h W0 Y N)) X 35 [(6, .int j), (4, .long f'), (3, .int y), (2, .int x)] [] h 0 0) : AR ax_ns l (ax_mm 47) 0 ty_R (ax_ret ax_ns (ax_mm 47) (pq_47 h W0 Y N)) X 63 [(6, .int i), (4, .long f), (3, .int y), (2, .int x)] [] h 0 0 := by
  show AR _ _ _ _ _ _ _ 63 [(6, .int i), (4, .long f), (3, .int y), (2, .int x)] [] h _ _
  refine AR.s (pc' := 64) (lv' := [(6, .int i), (4, .long f), (3, .int y), (2, .int x)]) (st' := [.int y]) (h' := h) _ hn_47 hk_47_63 rfl ?_
  refine AR.s (pc' := 66) (lv' := [(6, .int i), (4, .long f), (3, .int y), (2, .int x)]) (st' := [.int i, .int y]) (h' := h) _ hn_47 hk_47_64 rfl ?_
  refine AR.ishr (z := .int (y >>> (i &&& 31))) (ax_look_ok hk_47_66).1 rfl ?_
  generalize gz446 : y >>> (i &&& 31) = z446
  show AR _ _ _ _ _ _ _ 67 [(6, .int i), (4, .long f), (3, .int y), (2, .int x)] [.int z446] h _ _
  refine AR.iconstT hk_47_67 (by decide) (fun z447 ez447 => ?_)
  show AR _ _ _ _ _ _ _ 68 [(6, .int i), (4, .long f), (3, .int y), (2, .int x)] [.int z447, .int z446] h _ _
  refine AR.iand (z := .int (z446 &&& z447)) (ax_look_ok hk_47_68).1 rfl ?_
  generalize gz448 : z446 &&& z447 = z448
  show AR _ _ _ _ _ _ _ 69 [(6, .int i), (4, .long f), (3, .int y), (2, .int x)] [.int z448] h _ _
  have tb : z448.toInt = if N.testBit v then 1 else 0 := by rw [← gz448, ← gz446]; exact p_tb hy hN hi hv ez447
  show AR _ _ _ _ _ _ _ 69 [(6, .int i), (4, .long f), (3, .int y), (2, .int x)] [.int z448] h _ _
  refine AR.iconstT hk_47_69 (by decide) (fun z449 ez449 => ?_)
  show AR _ _ _ _ _ _ _ 70 [(6, .int i), (4, .long f), (3, .int y), (2, .int x)] [.int z449, .int z448] h _ _
  refine AR.jne hk_47_70 (tgt := 88) (by decide) (fun p1 => ?_) (fun p2 => ?_)
  · have nb : N.testBit v = false := by
      cases e : N.testBit v with
      | false => rfl
      | true => rw [e] at tb; exact absurd (show z448.toInt = 1 from tb) (by omega)
    refine AR.iincT hk_47_88 (x := i) rfl (by rw [hn_47]; decide) (by decide) (by omega) (by omega) (fun z450 ez450 => ?_)
    show AR _ _ _ _ _ _ _ 91 [(6, .int z450), (4, .long f), (3, .int y), (2, .int x)] [] h _ _
    refine AR.gotoT hk_47_91 (tgt := 35) (by decide) ?_
    refine AR.lessL (lv' := [(6, .int z450), (4, .long f), (3, .int y), (2, .int x)]) (List.forall_mem_cons.mpr ⟨⟨_, by simp, ax_le_rfl rfl⟩, (List.forall_mem_cons.mpr ⟨⟨_, by simp, ax_le_rfl rfl⟩, (List.forall_mem_cons.mpr ⟨⟨_, by simp, ax_le_rfl rfl⟩, (List.forall_mem_cons.mpr ⟨⟨_, by simp, ax_le_rfl rfl⟩, (fun _ h => absurd h List.not_mem_nil)⟩)⟩)⟩)⟩) ?_
    exact K _ _ (by omega) (fun k hk => by rw [hf k hk]; show _ = (pb W0 k && ((ma Y N v k && (!(Y.testBit v) || k.testBit v)) && (!(N.testBit v) || !(k.testBit v)))); rw [nb, Bool.not_false, Bool.true_or, Bool.and_true])
  · have nb : N.testBit v = true := by
      cases e : N.testBit v with
      | true => rfl
      | false => rw [e] at tb; exact absurd (show z448.toInt = 0 from tb) (by omega)
    refine AR.s (pc' := 75) (lv' := [(6, .int i), (4, .long f), (3, .int y), (2, .int x)]) (st' := [.long f]) (h' := h) _ hn_47 hk_47_73 rfl ?_
    refine AR.s (pc' := 78) (lv' := [(6, .int i), (4, .long f), (3, .int y), (2, .int x)]) (st' := [.ref 1000000000, .long f]) (h' := h) _ hn_47 hk_47_75 rfl ?_
    refine AR.s (pc' := 80) (lv' := [(6, .int i), (4, .long f), (3, .int y), (2, .int x)]) (st' := [.int i, .ref 1000000000, .long f]) (h' := h) _ hn_47 hk_47_78 rfl ?_
    have ik : i.toNatClampNeg = v := by show i.toInt.toNat = v; omega
    refine AR.laload (x := .long (bw v)) (ax_look_ok hk_47_80).1 (vs := ax_bits) rfl (hj_nn (by omega)).1 (by rw [ik]; exact p_bits v hv) ?_
    show AR _ _ _ _ _ _ _ 81 [(6, .int i), (4, .long f), (3, .int y), (2, .int x)] [.long (bw v), .long f] h _ _
    refine AR.ldc2T hk_47_81 (fun z451 ez451 => ?_)
    have kz451 : z451 = (-1) := Int64.toInt_inj.mp (ez451.trans (by decide))
    show AR _ _ _ _ _ _ _ 84 [(6, .int i), (4, .long f), (3, .int y), (2, .int x)] [.long z451, .long (bw v), .long f] h _ _
    refine AR.lxor (z := .long ((bw v) ^^^ z451)) (ax_look_ok hk_47_84).1 rfl ?_
    generalize hz452 : (bw v) ^^^ z451 = z452
    show AR _ _ _ _ _ _ _ 85 [(6, .int i), (4, .long f), (3, .int y), (2, .int x)] [.long z452, .long f] h _ _
    refine AR.land (z := .long (f &&& z452)) (ax_look_ok hk_47_85).1 rfl ?_
    generalize hz453 : f &&& z452 = z453
    show AR _ _ _ _ _ _ _ 86 [(6, .int i), (4, .long f), (3, .int y), (2, .int x)] [.long z453] h _ _
    refine AR.s (pc' := 88) (lv' := [(4, .long z453), (6, .int i), (3, .int y), (2, .int x)]) (st' := []) (h' := h) _ hn_47 hk_47_86 rfl ?_
    refine AR.iincT hk_47_88 (x := i) rfl (by rw [hn_47]; decide) (by decide) (by omega) (by omega) (fun z454 ez454 => ?_)
    show AR _ _ _ _ _ _ _ 91 [(6, .int z454), (4, .long z453), (3, .int y), (2, .int x)] [] h _ _
    refine AR.gotoT hk_47_91 (tgt := 35) (by decide) ?_
    refine AR.lessL (lv' := [(6, .int z454), (4, .long z453), (3, .int y), (2, .int x)]) (List.forall_mem_cons.mpr ⟨⟨_, by simp, ax_le_rfl rfl⟩, (List.forall_mem_cons.mpr ⟨⟨_, by simp, ax_le_rfl rfl⟩, (List.forall_mem_cons.mpr ⟨⟨_, by simp, ax_le_rfl rfl⟩, (List.forall_mem_cons.mpr ⟨⟨_, by simp, ax_le_rfl rfl⟩, (fun _ h => absurd h List.not_mem_nil)⟩)⟩)⟩)⟩) ?_
    exact K _ _ (by omega) (fun k hk => by rw [← hz453, pb_and, hf k hk, ← hz452, kz451, pb_nt hk, p_bw v hv k hk]; show _ = (pb W0 k && ((ma Y N v k && (!(Y.testBit v) || k.testBit v)) && (!(N.testBit v) || !(k.testBit v)))); rw [nb, Bool.not_true, Bool.false_or, Bool.and_assoc])
theorem p47_L (hlst : l.stackTraces = false) {X : ax_PX} {W0 : Int64} {Y N : Nat} (hx : x.toInt = Y) (hY : Y < 64) (hy : y.toInt = N) (hN : N < 64) : ∀ (n v : Nat) (i : Int32) (f : Int64), v + n = 6 → i.toInt = v → (∀ k, k < 64 → pb f k = (pb W0 k && ma Y N v k)) → AR ax_ns l (ax_mm 47) 0 ty_R (ax_ret ax_ns (ax_mm 47) (pq_47 h W0 Y N)) X 35 [(6, .int i), (4, .long f), (3, .int y), (2, .int x)] [] h 0 0 := by
  intro n
  induction n with
  | zero =>
    intro v i f hn hi hf
    show AR _ _ _ _ _ _ _ 35 [(6, .int i), (4, .long f), (3, .int y), (2, .int x)] [] h _ _
    refine AR.s (pc' := 37) (lv' := [(6, .int i), (4, .long f), (3, .int y), (2, .int x)]) (st' := [.int i]) (h' := h) _ hn_47 hk_47_35 rfl ?_
    refine AR.bipushT hk_47_37 (by decide) (fun z455 ez455 => ?_)
    show AR _ _ _ _ _ _ _ 39 [(6, .int i), (4, .long f), (3, .int y), (2, .int x)] [.int z455, .int i] h _ _
    refine AR.jge hk_47_39 (tgt := 94) (by decide) (fun p1 => ?_) (fun p2 => ?_)
    · refine AR.s (pc' := 96) (lv' := [(6, .int i), (4, .long f), (3, .int y), (2, .int x)]) (st' := [.long f]) (h' := h) _ hn_47 hk_47_94 rfl ?_
      have v6 : v = 6 := by omega
      subst v6
      exact AR.lret hk_47_96 hr_47 ⟨rfl, _, rfl, hf⟩
    · exact absurd p2 (by omega)
  | succ n ih =>
    intro v i f hn hi hf
    show AR _ _ _ _ _ _ _ 35 [(6, .int i), (4, .long f), (3, .int y), (2, .int x)] [] h _ _
    refine AR.s (pc' := 37) (lv' := [(6, .int i), (4, .long f), (3, .int y), (2, .int x)]) (st' := [.int i]) (h' := h) _ hn_47 hk_47_35 rfl ?_
    refine AR.bipushT hk_47_37 (by decide) (fun z456 ez456 => ?_)
    show AR _ _ _ _ _ _ _ 39 [(6, .int i), (4, .long f), (3, .int y), (2, .int x)] [.int z456, .int i] h _ _
    refine AR.jge hk_47_39 (tgt := 94) (by decide) (fun p1 => ?_) (fun p2 => ?_)
    · exact absurd p1 (by omega)
    · have hv : v < 6 := by omega
      show AR _ _ _ _ _ _ _ 42 [(6, .int i), (4, .long f), (3, .int y), (2, .int x)] [] h _ _
      refine AR.s (pc' := 43) (lv' := [(6, .int i), (4, .long f), (3, .int y), (2, .int x)]) (st' := [.int x]) (h' := h) _ hn_47 hk_47_42 rfl ?_
      refine AR.s (pc' := 45) (lv' := [(6, .int i), (4, .long f), (3, .int y), (2, .int x)]) (st' := [.int i, .int x]) (h' := h) _ hn_47 hk_47_43 rfl ?_
      refine AR.ishr (z := .int (x >>> (i &&& 31))) (ax_look_ok hk_47_45).1 rfl ?_
      generalize gz457 : x >>> (i &&& 31) = z457
      show AR _ _ _ _ _ _ _ 46 [(6, .int i), (4, .long f), (3, .int y), (2, .int x)] [.int z457] h _ _
      refine AR.iconstT hk_47_46 (by decide) (fun z458 ez458 => ?_)
      show AR _ _ _ _ _ _ _ 47 [(6, .int i), (4, .long f), (3, .int y), (2, .int x)] [.int z458, .int z457] h _ _
      refine AR.iand (z := .int (z457 &&& z458)) (ax_look_ok hk_47_47).1 rfl ?_
      generalize gz459 : z457 &&& z458 = z459
      show AR _ _ _ _ _ _ _ 48 [(6, .int i), (4, .long f), (3, .int y), (2, .int x)] [.int z459] h _ _
      have tb : z459.toInt = if Y.testBit v then 1 else 0 := by rw [← gz459, ← gz457]; exact p_tb hx hY hi hv ez458
      show AR _ _ _ _ _ _ _ 48 [(6, .int i), (4, .long f), (3, .int y), (2, .int x)] [.int z459] h _ _
      refine AR.iconstT hk_47_48 (by decide) (fun z460 ez460 => ?_)
      show AR _ _ _ _ _ _ _ 49 [(6, .int i), (4, .long f), (3, .int y), (2, .int x)] [.int z460, .int z459] h _ _
      refine AR.jne hk_47_49 (tgt := 63) (by decide) (fun q1 => ?_) (fun q2 => ?_)
      · have nb : Y.testBit v = false := by
          cases e : Y.testBit v with
          | false => rfl
          | true => rw [e] at tb; exact absurd (show z459.toInt = 1 from tb) (by omega)
        refine AR.lessL (lv' := [(6, .int i), (4, .long f), (3, .int y), (2, .int x)]) (List.forall_mem_cons.mpr ⟨⟨_, by simp, ax_le_rfl rfl⟩, (List.forall_mem_cons.mpr ⟨⟨_, by simp, ax_le_rfl rfl⟩, (List.forall_mem_cons.mpr ⟨⟨_, by simp, ax_le_rfl rfl⟩, (List.forall_mem_cons.mpr ⟨⟨_, by simp, ax_le_rfl rfl⟩, (fun _ h => absurd h List.not_mem_nil)⟩)⟩)⟩)⟩) ?_
        exact p47_b hlst hy hN hi hv (fun k hk => by rw [hf k hk, nb, Bool.not_false, Bool.true_or, Bool.and_true]) (fun j f2 hj hf2 => ih (v + 1) j f2 (by omega) (by omega) hf2)
      · have nb : Y.testBit v = true := by
          cases e : Y.testBit v with
          | true => rfl
          | false => rw [e] at tb; exact absurd (show z459.toInt = 0 from tb) (by omega)
        refine AR.s (pc' := 54) (lv' := [(6, .int i), (4, .long f), (3, .int y), (2, .int x)]) (st' := [.long f]) (h' := h) _ hn_47 hk_47_52 rfl ?_
        refine AR.s (pc' := 57) (lv' := [(6, .int i), (4, .long f), (3, .int y), (2, .int x)]) (st' := [.ref 1000000000, .long f]) (h' := h) _ hn_47 hk_47_54 rfl ?_
        refine AR.s (pc' := 59) (lv' := [(6, .int i), (4, .long f), (3, .int y), (2, .int x)]) (st' := [.int i, .ref 1000000000, .long f]) (h' := h) _ hn_47 hk_47_57 rfl ?_
        have ik : i.toNatClampNeg = v := by show i.toInt.toNat = v; omega
        refine AR.laload (x := .long (bw v)) (ax_look_ok hk_47_59).1 (vs := ax_bits) rfl (hj_nn (by omega)).1 (by rw [ik]; exact p_bits v hv) ?_
        show AR _ _ _ _ _ _ _ 60 [(6, .int i), (4, .long f), (3, .int y), (2, .int x)] [.long (bw v), .long f] h _ _
        refine AR.land (z := .long (f &&& (bw v))) (ax_look_ok hk_47_60).1 rfl ?_
        generalize hz461 : f &&& (bw v) = z461
        show AR _ _ _ _ _ _ _ 61 [(6, .int i), (4, .long f), (3, .int y), (2, .int x)] [.long z461] h _ _
        refine AR.s (pc' := 63) (lv' := [(4, .long z461), (6, .int i), (3, .int y), (2, .int x)]) (st' := []) (h' := h) _ hn_47 hk_47_61 rfl ?_
        refine AR.lessL (lv' := [(6, .int i), (4, .long z461), (3, .int y), (2, .int x)]) (List.forall_mem_cons.mpr ⟨⟨_, by simp, ax_le_rfl rfl⟩, (List.forall_mem_cons.mpr ⟨⟨_, by simp, ax_le_rfl rfl⟩, (List.forall_mem_cons.mpr ⟨⟨_, by simp, ax_le_rfl rfl⟩, (List.forall_mem_cons.mpr ⟨⟨_, by simp, ax_le_rfl rfl⟩, (fun _ h => absurd h List.not_mem_nil)⟩)⟩)⟩)⟩) ?_
        exact p47_b hlst hy hN hi hv (fun k hk => by rw [← hz461, pb_and, hf k hk, p_bw v hv k hk, nb, Bool.not_true, Bool.false_or, Bool.and_assoc]) (fun j f2 hj hf2 => ih (v + 1) j f2 (by omega) (by omega) hf2)
variable {u : Int32}
theorem p_47 (hlst : l.stackTraces = false) {W Y N : Nat} (hH : hy_H 0 h) (hu : u.toInt = W) (hW : W < 64) (hx : x.toInt = Y) (hY : Y < 64) (hy : y.toInt = N) (hN : N < 64) : AM ax_ns l (ax_mm 47) 0 ty_R (0) (0) [.ref 147, .int u, .int x, .int y] h (pq_47 h (hw h 148 W) Y N) := by
  refine AM.of (ax_mfacts (by decide +kernel : ax_has 47 = true)).2.2.2.2.2.2 hlst (by rw [hn_47]; exact Nat.le_of_ble_eq_true rfl) ?_
  show AR ax_ns l (ax_mm 47) 0 ty_R _ _ 0 [(0, .ref 147), (1, .int u), (2, .int x), (3, .int y)] [] h (0) (0)
  refine AR.s (pc' := 1) (lv' := [(0, .ref 147), (1, .int u), (2, .int x), (3, .int y)]) (st' := [.int u]) (h' := h) _ hn_47 hk_47_0 rfl ?_
  refine AR.s (pc' := 2) (lv' := [(0, .ref 147), (1, .int u), (2, .int x), (3, .int y)]) (st' := [.int x, .int u]) (h' := h) _ hn_47 hk_47_1 rfl ?_
  refine AR.bipushT hk_47_2 (by decide) (fun z462 ez462 => ?_)
  show AR _ _ _ _ _ _ _ 4 [(0, .ref 147), (1, .int u), (2, .int x), (3, .int y)] [.int z462, .int x, .int u] h _ _
  refine AR.ishr (z := .int (x >>> (z462 &&& 31))) (ax_look_ok hk_47_4).1 rfl ?_
  generalize gz463 : x >>> (z462 &&& 31) = z463
  show AR _ _ _ _ _ _ _ 5 [(0, .ref 147), (1, .int u), (2, .int x), (3, .int y)] [.int z463, .int u] h _ _
  refine AR.iand (z := .int (u &&& z463)) (ax_look_ok hk_47_5).1 rfl ?_
  generalize gz464 : u &&& z463 = z464
  show AR _ _ _ _ _ _ _ 6 [(0, .ref 147), (1, .int u), (2, .int x), (3, .int y)] [.int z464] h _ _
  refine AR.s (pc' := 7) (lv' := [(0, .ref 147), (1, .int u), (2, .int x), (3, .int y)]) (st' := [.int x, .int z464]) (h' := h) _ hn_47 hk_47_6 rfl ?_
  refine AR.bipushT hk_47_7 (by decide) (fun z465 ez465 => ?_)
  show AR _ _ _ _ _ _ _ 9 [(0, .ref 147), (1, .int u), (2, .int x), (3, .int y)] [.int z465, .int x, .int z464] h _ _
  refine AR.ishr (z := .int (x >>> (z465 &&& 31))) (ax_look_ok hk_47_9).1 rfl ?_
  generalize gz466 : x >>> (z465 &&& 31) = z466
  show AR _ _ _ _ _ _ _ 10 [(0, .ref 147), (1, .int u), (2, .int x), (3, .int y)] [.int z466, .int z464] h _ _
  have w1 : z463 = 0 := by rw [← gz463]; exact p_s6 hx hY ez462
  have w2 : z466 = 0 := by rw [← gz466]; exact p_s6 hx hY ez465
  have w3 : z464 = 0 := by rw [← gz464, w1]; exact Int32.and_zero
  show AR _ _ _ _ _ _ _ 10 [(0, .ref 147), (1, .int u), (2, .int x), (3, .int y)] [.int z466, .int z464] h _ _
  refine AR.jne hk_47_10 (tgt := 22) (by decide) (fun p1 => ?_) (fun p2 => ?_)
  · exact absurd (by rw [w2, w3]) p1
  · refine AR.s (pc' := 14) (lv' := [(0, .ref 147), (1, .int u), (2, .int x), (3, .int y)]) (st' := [.int u]) (h' := h) _ hn_47 hk_47_13 rfl ?_
    refine AR.s (pc' := 15) (lv' := [(0, .ref 147), (1, .int u), (2, .int x), (3, .int y)]) (st' := [.int y, .int u]) (h' := h) _ hn_47 hk_47_14 rfl ?_
    refine AR.bipushT hk_47_15 (by decide) (fun z467 ez467 => ?_)
    show AR _ _ _ _ _ _ _ 17 [(0, .ref 147), (1, .int u), (2, .int x), (3, .int y)] [.int z467, .int y, .int u] h _ _
    refine AR.ishr (z := .int (y >>> (z467 &&& 31))) (ax_look_ok hk_47_17).1 rfl ?_
    generalize gz468 : y >>> (z467 &&& 31) = z468
    show AR _ _ _ _ _ _ _ 18 [(0, .ref 147), (1, .int u), (2, .int x), (3, .int y)] [.int z468, .int u] h _ _
    refine AR.iand (z := .int (u &&& z468)) (ax_look_ok hk_47_18).1 rfl ?_
    generalize gz469 : u &&& z468 = z469
    show AR _ _ _ _ _ _ _ 19 [(0, .ref 147), (1, .int u), (2, .int x), (3, .int y)] [.int z469] h _ _
    have w4 : z468 = 0 := by rw [← gz468]; exact p_s6 hy hN ez467
    have w5 : z469.toInt = 0 := by rw [← gz469, w4, Int32.and_zero]; rfl
    show AR _ _ _ _ _ _ _ 19 [(0, .ref 147), (1, .int u), (2, .int x), (3, .int y)] [.int z469] h _ _
    refine AR.zeq hk_47_19 (tgt := 24) (by decide) (fun q1 => ?_) (fun q2 => ?_)
    · refine AR.s (pc' := 25) (lv' := [(0, .ref 147), (1, .int u), (2, .int x), (3, .int y)]) (st' := [.ref 147]) (h' := h) _ hn_47 hk_47_24 rfl ?_
      refine AR.gR hk_47_25 (by decide) hH (q := 147) (n := 1) (by decide) (by decide +kernel) (by decide +kernel) (by decide) hy_t147_0 ?_
      show AR _ _ _ _ _ _ _ 28 [(0, .ref 147), (1, .int u), (2, .int x), (3, .int y)] [.ref 148] h _ _
      refine AR.s (pc' := 29) (lv' := [(0, .ref 147), (1, .int u), (2, .int x), (3, .int y)]) (st' := [.int u, .ref 148]) (h' := h) _ hn_47 hk_47_28 rfl ?_
      refine AR.laI hk_47_29 hH (q := 148) (n := 64) (by decide) (by decide +kernel) (by decide +kernel) (by decide +kernel) hy_t148_0 (by omega) (by omega) (fun x470 dx470 lx470 ux470 => ?_)
      show AR _ _ _ _ _ _ _ 30 [(0, .ref 147), (1, .int u), (2, .int x), (3, .int y)] [.long x470] h _ _
      rw [show u.toNatClampNeg = W from by show u.toInt.toNat = W; omega] at dx470
      have xe := hw_of dx470
      rw [xe]
      show AR _ _ _ _ _ _ _ 30 [(0, .ref 147), (1, .int u), (2, .int x), (3, .int y)] [.long x470] h _ _
      refine AR.s (pc' := 32) (lv' := [(4, .long x470), (0, .ref 147), (1, .int u), (2, .int x), (3, .int y)]) (st' := []) (h' := h) _ hn_47 hk_47_30 rfl ?_
      refine AR.iconstT hk_47_32 (by decide) (fun z471 ez471 => ?_)
      show AR _ _ _ _ _ _ _ 33 [(4, .long x470), (0, .ref 147), (1, .int u), (2, .int x), (3, .int y)] [.int z471] h _ _
      refine AR.s (pc' := 35) (lv' := [(6, .int z471), (4, .long x470), (0, .ref 147), (1, .int u), (2, .int x), (3, .int y)]) (st' := []) (h' := h) _ hn_47 hk_47_33 rfl ?_
      refine AR.lessL (lv' := [(6, .int z471), (4, .long x470), (3, .int y), (2, .int x)]) (List.forall_mem_cons.mpr ⟨⟨_, by simp, ax_le_rfl rfl⟩, (List.forall_mem_cons.mpr ⟨⟨_, by simp, ax_le_rfl rfl⟩, (List.forall_mem_cons.mpr ⟨⟨_, by simp, ax_le_rfl rfl⟩, (List.forall_mem_cons.mpr ⟨⟨_, by simp, ax_le_rfl rfl⟩, (fun _ h => absurd h List.not_mem_nil)⟩)⟩)⟩)⟩) ?_
      exact p47_L hlst hx hY hy hN 6 0 z471 x470 (by omega) (by omega) (fun k hk => by show _ = (pb x470 k && true); rw [Bool.and_true])
    · exact absurd w5 (by omega)
def bc1 (x : Int64) : Int64 := x - ((x.toUInt64 >>> ((1 : Int32).toInt64.toUInt64 &&& Int64.toUInt64 63)).toInt64 &&& 6148914691236517205)
def bc2 (x : Int64) : Int64 := (x &&& 3689348814741910323) + ((x.toUInt64 >>> ((2 : Int32).toInt64.toUInt64 &&& Int64.toUInt64 63)).toInt64 &&& 3689348814741910323)
def bc3 (x : Int64) : Int64 := (x + (x.toUInt64 >>> ((4 : Int32).toInt64.toUInt64 &&& Int64.toUInt64 63)).toInt64) &&& 1085102592571150095
def bc4 (x : Int64) : Int64 := x + (x.toUInt64 >>> ((8 : Int32).toInt64.toUInt64 &&& Int64.toUInt64 63)).toInt64
def bc5 (x : Int64) : Int64 := x + (x.toUInt64 >>> ((16 : Int32).toInt64.toUInt64 &&& Int64.toUInt64 63)).toInt64
def bc6 (x : Int64) : Int64 := x + (x.toUInt64 >>> ((32 : Int32).toInt64.toUInt64 &&& Int64.toUInt64 63)).toInt64
def bcn (x : Int64) : Int32 := (bc6 (bc5 (bc4 (bc3 (bc2 (bc1 x)))))).toInt32 &&& 127
theorem p_i {z : Int32} {n : Int} (h : z.toInt = n) (hn : (Int32.ofInt n).toInt = n) : z = Int32.ofInt n := Int32.toInt_inj.mp (by rw [h, hn])
theorem p_255 (hlst : l.stackTraces = false) {m : Int64} : AM ax_ns l (ax_mm 255) 0 ty_R (0) (0) [.long m] h (fun res g => g = h ∧ res = .inl (some (.int (bcn m)))) := by
  refine AM.of (ax_mfacts (by decide +kernel : ax_has 255 = true)).2.2.2.2.2.2 hlst (by rw [hn_255]; exact Nat.le_of_ble_eq_true rfl) ?_
  show AR ax_ns l (ax_mm 255) 0 ty_R _ _ 0 [(0, .long m)] [] h (0) (0)
  refine AR.s (pc' := 1) (lv' := [(0, .long m)]) (st' := [.long m]) (h' := h) _ hn_255 hk_255_0 rfl ?_
  refine AR.s (pc' := 2) (lv' := [(0, .long m)]) (st' := [.long m, .long m]) (h' := h) _ hn_255 hk_255_1 rfl ?_
  refine AR.iconstT hk_255_2 (by decide) (fun z472 ez472 => ?_)
  show AR _ _ _ _ _ _ _ 3 [(0, .long m)] [.int z472, .long m, .long m] h _ _
  refine AR.lushr (z := .long ((m.toUInt64 >>> (z472.toInt64.toUInt64 &&& Int64.toUInt64 63)).toInt64)) (ax_look_ok hk_255_3).1 rfl ?_
  generalize gz473 : (m.toUInt64 >>> (z472.toInt64.toUInt64 &&& Int64.toUInt64 63)).toInt64 = z473
  show AR _ _ _ _ _ _ _ 4 [(0, .long m)] [.long z473, .long m] h _ _
  refine AR.ldc2T hk_255_4 (fun z474 ez474 => ?_)
  have kz474 : z474 = 6148914691236517205 := Int64.toInt_inj.mp (ez474.trans (by decide))
  show AR _ _ _ _ _ _ _ 7 [(0, .long m)] [.long z474, .long z473, .long m] h _ _
  refine AR.land (z := .long (z473 &&& z474)) (ax_look_ok hk_255_7).1 rfl ?_
  generalize hz475 : z473 &&& z474 = z475
  show AR _ _ _ _ _ _ _ 8 [(0, .long m)] [.long z475, .long m] h _ _
  refine AR.lsub (z := .long (m - z475)) (ax_look_ok hk_255_8).1 rfl ?_
  generalize gz476 : m - z475 = z476
  show AR _ _ _ _ _ _ _ 9 [(0, .long m)] [.long z476] h _ _
  refine AR.s (pc' := 10) (lv' := [(0, .long z476)]) (st' := []) (h' := h) _ hn_255 hk_255_9 rfl ?_
  refine AR.s (pc' := 11) (lv' := [(0, .long z476)]) (st' := [.long z476]) (h' := h) _ hn_255 hk_255_10 rfl ?_
  refine AR.ldc2T hk_255_11 (fun z477 ez477 => ?_)
  have kz477 : z477 = 3689348814741910323 := Int64.toInt_inj.mp (ez477.trans (by decide))
  show AR _ _ _ _ _ _ _ 14 [(0, .long z476)] [.long z477, .long z476] h _ _
  refine AR.land (z := .long (z476 &&& z477)) (ax_look_ok hk_255_14).1 rfl ?_
  generalize hz478 : z476 &&& z477 = z478
  show AR _ _ _ _ _ _ _ 15 [(0, .long z476)] [.long z478] h _ _
  refine AR.s (pc' := 16) (lv' := [(0, .long z476)]) (st' := [.long z476, .long z478]) (h' := h) _ hn_255 hk_255_15 rfl ?_
  refine AR.iconstT hk_255_16 (by decide) (fun z479 ez479 => ?_)
  show AR _ _ _ _ _ _ _ 17 [(0, .long z476)] [.int z479, .long z476, .long z478] h _ _
  refine AR.lushr (z := .long ((z476.toUInt64 >>> (z479.toInt64.toUInt64 &&& Int64.toUInt64 63)).toInt64)) (ax_look_ok hk_255_17).1 rfl ?_
  generalize gz480 : (z476.toUInt64 >>> (z479.toInt64.toUInt64 &&& Int64.toUInt64 63)).toInt64 = z480
  show AR _ _ _ _ _ _ _ 18 [(0, .long z476)] [.long z480, .long z478] h _ _
  refine AR.ldc2T hk_255_18 (fun z481 ez481 => ?_)
  have kz481 : z481 = 3689348814741910323 := Int64.toInt_inj.mp (ez481.trans (by decide))
  show AR _ _ _ _ _ _ _ 21 [(0, .long z476)] [.long z481, .long z480, .long z478] h _ _
  refine AR.land (z := .long (z480 &&& z481)) (ax_look_ok hk_255_21).1 rfl ?_
  generalize hz482 : z480 &&& z481 = z482
  show AR _ _ _ _ _ _ _ 22 [(0, .long z476)] [.long z482, .long z478] h _ _
  refine AR.ladd (z := .long (z478 + z482)) (ax_look_ok hk_255_22).1 rfl ?_
  generalize gz483 : z478 + z482 = z483
  show AR _ _ _ _ _ _ _ 23 [(0, .long z476)] [.long z483] h _ _
  refine AR.s (pc' := 24) (lv' := [(0, .long z483)]) (st' := []) (h' := h) _ hn_255 hk_255_23 rfl ?_
  refine AR.s (pc' := 25) (lv' := [(0, .long z483)]) (st' := [.long z483]) (h' := h) _ hn_255 hk_255_24 rfl ?_
  refine AR.s (pc' := 26) (lv' := [(0, .long z483)]) (st' := [.long z483, .long z483]) (h' := h) _ hn_255 hk_255_25 rfl ?_
  refine AR.iconstT hk_255_26 (by decide) (fun z484 ez484 => ?_)
  show AR _ _ _ _ _ _ _ 27 [(0, .long z483)] [.int z484, .long z483, .long z483] h _ _
  refine AR.lushr (z := .long ((z483.toUInt64 >>> (z484.toInt64.toUInt64 &&& Int64.toUInt64 63)).toInt64)) (ax_look_ok hk_255_27).1 rfl ?_
  generalize gz485 : (z483.toUInt64 >>> (z484.toInt64.toUInt64 &&& Int64.toUInt64 63)).toInt64 = z485
  show AR _ _ _ _ _ _ _ 28 [(0, .long z483)] [.long z485, .long z483] h _ _
  refine AR.ladd (z := .long (z483 + z485)) (ax_look_ok hk_255_28).1 rfl ?_
  generalize gz486 : z483 + z485 = z486
  show AR _ _ _ _ _ _ _ 29 [(0, .long z483)] [.long z486] h _ _
  refine AR.ldc2T hk_255_29 (fun z487 ez487 => ?_)
  have kz487 : z487 = 1085102592571150095 := Int64.toInt_inj.mp (ez487.trans (by decide))
  show AR _ _ _ _ _ _ _ 32 [(0, .long z483)] [.long z487, .long z486] h _ _
  refine AR.land (z := .long (z486 &&& z487)) (ax_look_ok hk_255_32).1 rfl ?_
  generalize hz488 : z486 &&& z487 = z488
  show AR _ _ _ _ _ _ _ 33 [(0, .long z483)] [.long z488] h _ _
  refine AR.s (pc' := 34) (lv' := [(0, .long z488)]) (st' := []) (h' := h) _ hn_255 hk_255_33 rfl ?_
  refine AR.s (pc' := 35) (lv' := [(0, .long z488)]) (st' := [.long z488]) (h' := h) _ hn_255 hk_255_34 rfl ?_
  refine AR.s (pc' := 36) (lv' := [(0, .long z488)]) (st' := [.long z488, .long z488]) (h' := h) _ hn_255 hk_255_35 rfl ?_
  refine AR.bipushT hk_255_36 (by decide) (fun z489 ez489 => ?_)
  show AR _ _ _ _ _ _ _ 38 [(0, .long z488)] [.int z489, .long z488, .long z488] h _ _
  refine AR.lushr (z := .long ((z488.toUInt64 >>> (z489.toInt64.toUInt64 &&& Int64.toUInt64 63)).toInt64)) (ax_look_ok hk_255_38).1 rfl ?_
  generalize gz490 : (z488.toUInt64 >>> (z489.toInt64.toUInt64 &&& Int64.toUInt64 63)).toInt64 = z490
  show AR _ _ _ _ _ _ _ 39 [(0, .long z488)] [.long z490, .long z488] h _ _
  refine AR.ladd (z := .long (z488 + z490)) (ax_look_ok hk_255_39).1 rfl ?_
  generalize gz491 : z488 + z490 = z491
  show AR _ _ _ _ _ _ _ 40 [(0, .long z488)] [.long z491] h _ _
  refine AR.s (pc' := 41) (lv' := [(0, .long z491)]) (st' := []) (h' := h) _ hn_255 hk_255_40 rfl ?_
  refine AR.s (pc' := 42) (lv' := [(0, .long z491)]) (st' := [.long z491]) (h' := h) _ hn_255 hk_255_41 rfl ?_
  refine AR.s (pc' := 43) (lv' := [(0, .long z491)]) (st' := [.long z491, .long z491]) (h' := h) _ hn_255 hk_255_42 rfl ?_
  refine AR.bipushT hk_255_43 (by decide) (fun z492 ez492 => ?_)
  show AR _ _ _ _ _ _ _ 45 [(0, .long z491)] [.int z492, .long z491, .long z491] h _ _
  refine AR.lushr (z := .long ((z491.toUInt64 >>> (z492.toInt64.toUInt64 &&& Int64.toUInt64 63)).toInt64)) (ax_look_ok hk_255_45).1 rfl ?_
  generalize gz493 : (z491.toUInt64 >>> (z492.toInt64.toUInt64 &&& Int64.toUInt64 63)).toInt64 = z493
  show AR _ _ _ _ _ _ _ 46 [(0, .long z491)] [.long z493, .long z491] h _ _
  refine AR.ladd (z := .long (z491 + z493)) (ax_look_ok hk_255_46).1 rfl ?_
  generalize gz494 : z491 + z493 = z494
  show AR _ _ _ _ _ _ _ 47 [(0, .long z491)] [.long z494] h _ _
  refine AR.s (pc' := 48) (lv' := [(0, .long z494)]) (st' := []) (h' := h) _ hn_255 hk_255_47 rfl ?_
  refine AR.s (pc' := 49) (lv' := [(0, .long z494)]) (st' := [.long z494]) (h' := h) _ hn_255 hk_255_48 rfl ?_
  refine AR.s (pc' := 50) (lv' := [(0, .long z494)]) (st' := [.long z494, .long z494]) (h' := h) _ hn_255 hk_255_49 rfl ?_
  refine AR.bipushT hk_255_50 (by decide) (fun z495 ez495 => ?_)
  show AR _ _ _ _ _ _ _ 52 [(0, .long z494)] [.int z495, .long z494, .long z494] h _ _
  refine AR.lushr (z := .long ((z494.toUInt64 >>> (z495.toInt64.toUInt64 &&& Int64.toUInt64 63)).toInt64)) (ax_look_ok hk_255_52).1 rfl ?_
  generalize gz496 : (z494.toUInt64 >>> (z495.toInt64.toUInt64 &&& Int64.toUInt64 63)).toInt64 = z496
  show AR _ _ _ _ _ _ _ 53 [(0, .long z494)] [.long z496, .long z494] h _ _
  refine AR.ladd (z := .long (z494 + z496)) (ax_look_ok hk_255_53).1 rfl ?_
  generalize gz497 : z494 + z496 = z497
  show AR _ _ _ _ _ _ _ 54 [(0, .long z494)] [.long z497] h _ _
  refine AR.s (pc' := 55) (lv' := [(0, .long z497)]) (st' := []) (h' := h) _ hn_255 hk_255_54 rfl ?_
  refine AR.s (pc' := 56) (lv' := [(0, .long z497)]) (st' := [.long z497]) (h' := h) _ hn_255 hk_255_55 rfl ?_
  refine AR.l2i (z := .int z497.toInt32) (ax_look_ok hk_255_56).1 rfl ?_
  generalize gz498 : z497.toInt32 = z498
  show AR _ _ _ _ _ _ _ 57 [(0, .long z497)] [.int z498] h _ _
  refine AR.bipushT hk_255_57 (by decide) (fun z499 ez499 => ?_)
  show AR _ _ _ _ _ _ _ 59 [(0, .long z497)] [.int z499, .int z498] h _ _
  refine AR.iand (z := .int (z498 &&& z499)) (ax_look_ok hk_255_59).1 rfl ?_
  generalize gz500 : z498 &&& z499 = z500
  show AR _ _ _ _ _ _ _ 60 [(0, .long z497)] [.int z500] h _ _
  have R : z500 = bcn m := by
    have qz472 : z472 = 1 := Int32.toInt_inj.mp (ez472.trans (by decide))
    have qz479 : z479 = 2 := Int32.toInt_inj.mp (ez479.trans (by decide))
    have qz484 : z484 = 4 := Int32.toInt_inj.mp (ez484.trans (by decide))
    have qz489 : z489 = 8 := Int32.toInt_inj.mp (ez489.trans (by decide))
    have qz492 : z492 = 16 := Int32.toInt_inj.mp (ez492.trans (by decide))
    have qz495 : z495 = 32 := Int32.toInt_inj.mp (ez495.trans (by decide))
    have qz499 : z499 = 127 := Int32.toInt_inj.mp (ez499.trans (by decide))
    rw [← gz500]
    rw [← gz498]
    rw [← gz497]
    rw [← gz496]
    rw [← gz494]
    rw [← gz493]
    rw [← gz491]
    rw [← gz490]
    rw [← hz488]
    rw [← gz486]
    rw [← gz485]
    rw [← gz483]
    rw [← hz482]
    rw [← gz480]
    rw [← hz478]
    rw [← gz476]
    rw [← hz475]
    rw [← gz473]
    try rw [qz472]
    try rw [qz479]
    try rw [qz484]
    try rw [qz489]
    try rw [qz492]
    try rw [qz495]
    try rw [qz499]
    try rw [kz474]
    try rw [kz477]
    try rw [kz481]
    try rw [kz487]
    rfl
  rw [R]
  exact AR.iret hk_255_60 hr_255 ⟨rfl, rfl⟩
/-! bitCount -/
def un (x : Int64) : Nat := x.toBitVec.toNat
theorem un_lt (x : Int64) : un x < 18446744073709551616 := x.toBitVec.isLt
theorem un_and (x y : Int64) : un (x &&& y) = un x &&& un y := by unfold un; rw [Int64.toBitVec_and, BitVec.toNat_and]
theorem un_add {x y : Int64} (h : un x + un y < 18446744073709551616) : un (x + y) = un x + un y := by
  unfold un at *
  rw [Int64.toBitVec_add, BitVec.toNat_add]
  exact Nat.mod_eq_of_lt h
theorem un_sub {x y : Int64} (h : un y ≤ un x) : un (x - y) = un x - un y := by
  have h1 := un_lt x
  unfold un at *
  rw [Int64.toBitVec_sub, BitVec.toNat_sub]
  show (18446744073709551616 - y.toBitVec.toNat + x.toBitVec.toNat) % 18446744073709551616 = _
  omega
theorem un_sh (x : Int64) (s : UInt64) {n : Nat} (h : s.toNat % 64 = n) : un (x.toUInt64 >>> s).toInt64 = un x / 2 ^ n := by
  have h1 : un (x.toUInt64 >>> s).toInt64 = (x.toUInt64 >>> s).toNat := rfl
  rw [h1, UInt64.toNat_shiftRight, Nat.shiftRight_eq_div_pow, h]
  rfl
theorem and8 {d m n k : Nat} (hd : d < 256) (hm : m < 256) : (d + 256 * n) &&& (m + 256 * k) = (d &&& m) + 256 * (n &&& k) := by
  have h1 : ((d + 256 * n) &&& (m + 256 * k)) / 2 ^ 8 = (d + 256 * n) / 2 ^ 8 &&& (m + 256 * k) / 2 ^ 8 := Nat.and_div_two_pow
  have h2 : ((d + 256 * n) &&& (m + 256 * k)) % 2 ^ 8 = (d + 256 * n) % 2 ^ 8 &&& (m + 256 * k) % 2 ^ 8 := Nat.and_mod_two_pow
  have e1 : (d + 256 * n) / 2 ^ 8 = n := by omega
  have e2 : (m + 256 * k) / 2 ^ 8 = k := by omega
  have e3 : (d + 256 * n) % 2 ^ 8 = d := by omega
  have e4 : (m + 256 * k) % 2 ^ 8 = m := by omega
  rw [e1, e2] at h1
  rw [e3, e4] at h2
  omega
/-- a number out of eight bytes -/
def b8 (a b c d e f g i : Nat) : Nat := a + 256 * (b + 256 * (c + 256 * (d + 256 * (e + 256 * (f + 256 * (g + 256 * (i + 256 * 0)))))))
theorem and64 {a b c d e f g i m : Nat} (ha : a < 256) (hb : b < 256) (hc : c < 256) (hd : d < 256) (he : e < 256) (hf : f < 256) (hg : g < 256) (hi : i < 256) (hm : m < 256) : b8 a b c d e f g i &&& b8 m m m m m m m m = b8 (a &&& m) (b &&& m) (c &&& m) (d &&& m) (e &&& m) (f &&& m) (g &&& m) (i &&& m) := by
  unfold b8
  rw [and8 ha hm, and8 hb hm, and8 hc hm, and8 hd hm, and8 he hm, and8 hf hm, and8 hg hm, and8 hi hm, Nat.and_self]
def f1 (B : Nat) : Nat := B - (B / 2 &&& 85)
def f2 (B : Nat) : Nat := (f1 B &&& 51) + (f1 B / 4 &&& 51)
def pop (B : Nat) : Nat := (f2 B + f2 B / 16) &&& 15
theorem fa1 : ∀ B, B < 256 → ∀ t, t < 2 → (B / 2 + 128 * t) &&& 85 = B / 2 &&& 85 := by decide +kernel
theorem fa2 : ∀ B, B < 256 → ∀ t, t < 4 → (B / 4 + 64 * t) &&& 51 = B / 4 &&& 51 := by decide +kernel
theorem fb : ∀ B, B < 256 → (B / 2 &&& 85) ≤ B ∧ f1 B < 256 ∧ f2 B ≤ 68 ∧ f2 B % 16 ≤ 4 ∧ pop B ≤ 8 := by decide +kernel
theorem fa3 : ∀ v, v < 80 → ∀ t, t < 5 → (v + 16 * t) &&& 15 = v &&& 15 := by decide +kernel
theorem b8_of {y : Nat} (h : y < 18446744073709551616) : ∃ a b c d e f g i, a < 256 ∧ b < 256 ∧ c < 256 ∧ d < 256 ∧ e < 256 ∧ f < 256 ∧ g < 256 ∧ i < 256 ∧ y = b8 a b c d e f g i := by
  refine ⟨y % 256, y / 256 % 256, y / 65536 % 256, y / 16777216 % 256, y / 4294967296 % 256, y / 1099511627776 % 256, y / 281474976710656 % 256, y / 72057594037927936, ?_, ?_, ?_, ?_, ?_, ?_, ?_, ?_, ?_⟩
  all_goals first | omega | (unfold b8; omega)
theorem bc_1 (x : Int64) {a b c d e f g i : Nat} (ha : a < 256) (hb : b < 256) (hc : c < 256) (hd : d < 256) (he : e < 256) (hf : f < 256) (hg : g < 256) (hi : i < 256) (hx : un x = b8 a b c d e f g i) : un (bc1 x) = b8 (f1 a) (f1 b) (f1 c) (f1 d) (f1 e) (f1 f) (f1 g) (f1 i) := by
  have qa := fb a ha
  have qb := fb b hb
  have qc := fb c hc
  have qd := fb d hd
  have qe := fb e he
  have qf := fb f hf
  have qg := fb g hg
  have qi := fb i hi
  have s1 : un ((x.toUInt64 >>> ((1 : Int32).toInt64.toUInt64 &&& Int64.toUInt64 63)).toInt64) = b8 (a / 2 + 128 * (b % 2)) (b / 2 + 128 * (c % 2)) (c / 2 + 128 * (d % 2)) (d / 2 + 128 * (e % 2)) (e / 2 + 128 * (f % 2)) (f / 2 + 128 * (g % 2)) (g / 2 + 128 * (i % 2)) (i / 2) := by
    rw [un_sh (n := 1) _ _ (by decide), hx]
    unfold b8
    omega
  have k1 : un (6148914691236517205 : Int64) = b8 85 85 85 85 85 85 85 85 := by decide
  have m1 : un ((x.toUInt64 >>> ((1 : Int32).toInt64.toUInt64 &&& Int64.toUInt64 63)).toInt64 &&& 6148914691236517205) = b8 (a / 2 &&& 85) (b / 2 &&& 85) (c / 2 &&& 85) (d / 2 &&& 85) (e / 2 &&& 85) (f / 2 &&& 85) (g / 2 &&& 85) (i / 2 &&& 85) := by
    rw [un_and, s1, k1, and64 (by omega) (by omega) (by omega) (by omega) (by omega) (by omega) (by omega) (by omega) (by omega), fa1 a ha _ (by omega), fa1 b hb _ (by omega), fa1 c hc _ (by omega), fa1 d hd _ (by omega), fa1 e he _ (by omega), fa1 f hf _ (by omega), fa1 g hg _ (by omega)]
  unfold bc1
  rw [un_sub (by rw [m1, hx]; unfold b8; omega), m1, hx]
  unfold f1 b8
  omega
theorem bc_2 (x : Int64) {a b c d e f g i : Nat} (ha : a < 256) (hb : b < 256) (hc : c < 256) (hd : d < 256) (he : e < 256) (hf : f < 256) (hg : g < 256) (hi : i < 256) (hx : un x = b8 a b c d e f g i) : un (bc2 x) = b8 ((a &&& 51) + (a / 4 &&& 51)) ((b &&& 51) + (b / 4 &&& 51)) ((c &&& 51) + (c / 4 &&& 51)) ((d &&& 51) + (d / 4 &&& 51)) ((e &&& 51) + (e / 4 &&& 51)) ((f &&& 51) + (f / 4 &&& 51)) ((g &&& 51) + (g / 4 &&& 51)) ((i &&& 51) + (i / 4 &&& 51)) := by
  have qa : (a &&& 51) ≤ 51 := Nat.and_le_right
  have qb : (b &&& 51) ≤ 51 := Nat.and_le_right
  have qc : (c &&& 51) ≤ 51 := Nat.and_le_right
  have qd : (d &&& 51) ≤ 51 := Nat.and_le_right
  have qe : (e &&& 51) ≤ 51 := Nat.and_le_right
  have qf : (f &&& 51) ≤ 51 := Nat.and_le_right
  have qg : (g &&& 51) ≤ 51 := Nat.and_le_right
  have qi : (i &&& 51) ≤ 51 := Nat.and_le_right
  have ra : (a / 4 &&& 51) ≤ 51 := Nat.and_le_right
  have rb : (b / 4 &&& 51) ≤ 51 := Nat.and_le_right
  have rc : (c / 4 &&& 51) ≤ 51 := Nat.and_le_right
  have rd : (d / 4 &&& 51) ≤ 51 := Nat.and_le_right
  have re : (e / 4 &&& 51) ≤ 51 := Nat.and_le_right
  have rf : (f / 4 &&& 51) ≤ 51 := Nat.and_le_right
  have rg : (g / 4 &&& 51) ≤ 51 := Nat.and_le_right
  have ri : (i / 4 &&& 51) ≤ 51 := Nat.and_le_right
  have s1 : un ((x.toUInt64 >>> ((2 : Int32).toInt64.toUInt64 &&& Int64.toUInt64 63)).toInt64) = b8 (a / 4 + 64 * (b % 4)) (b / 4 + 64 * (c % 4)) (c / 4 + 64 * (d % 4)) (d / 4 + 64 * (e % 4)) (e / 4 + 64 * (f % 4)) (f / 4 + 64 * (g % 4)) (g / 4 + 64 * (i % 4)) (i / 4) := by
    rw [un_sh (n := 2) _ _ (by decide), hx]
    unfold b8
    omega
  have k1 : un (3689348814741910323 : Int64) = b8 51 51 51 51 51 51 51 51 := by decide
  have m1 : un ((x.toUInt64 >>> ((2 : Int32).toInt64.toUInt64 &&& Int64.toUInt64 63)).toInt64 &&& 3689348814741910323) = b8 (a / 4 &&& 51) (b / 4 &&& 51) (c / 4 &&& 51) (d / 4 &&& 51) (e / 4 &&& 51) (f / 4 &&& 51) (g / 4 &&& 51) (i / 4 &&& 51) := by
    rw [un_and, s1, k1, and64 (by omega) (by omega) (by omega) (by omega) (by omega) (by omega) (by omega) (by omega) (by omega), fa2 a ha _ (by omega), fa2 b hb _ (by omega), fa2 c hc _ (by omega), fa2 d hd _ (by omega), fa2 e he _ (by omega), fa2 f hf _ (by omega), fa2 g hg _ (by omega)]
  have m2 : un (x &&& 3689348814741910323) = b8 (a &&& 51) (b &&& 51) (c &&& 51) (d &&& 51) (e &&& 51) (f &&& 51) (g &&& 51) (i &&& 51) := by
    rw [un_and, hx, k1, and64 ha hb hc hd he hf hg hi (by decide)]
  unfold bc2
  rw [un_add (by rw [m1, m2]; unfold b8; omega), m1, m2]
  unfold b8
  omega
theorem bc_3 (x : Int64) {a b c d e f g i : Nat} (ha : a ≤ 68) (na : a % 16 ≤ 4) (hb : b ≤ 68) (nb : b % 16 ≤ 4) (hc : c ≤ 68) (nc : c % 16 ≤ 4) (hd : d ≤ 68) (nd : d % 16 ≤ 4) (he : e ≤ 68) (ne : e % 16 ≤ 4) (hf : f ≤ 68) (nf : f % 16 ≤ 4) (hg : g ≤ 68) (ng : g % 16 ≤ 4) (hi : i ≤ 68) (ni : i % 16 ≤ 4) (hx : un x = b8 a b c d e f g i) : un (bc3 x) = b8 ((a + a / 16) &&& 15) ((b + b / 16) &&& 15) ((c + c / 16) &&& 15) ((d + d / 16) &&& 15) ((e + e / 16) &&& 15) ((f + f / 16) &&& 15) ((g + g / 16) &&& 15) ((i + i / 16) &&& 15) := by
  have s1 : un ((x.toUInt64 >>> ((4 : Int32).toInt64.toUInt64 &&& Int64.toUInt64 63)).toInt64) = b8 (a / 16 + 16 * (b % 16)) (b / 16 + 16 * (c % 16)) (c / 16 + 16 * (d % 16)) (d / 16 + 16 * (e % 16)) (e / 16 + 16 * (f % 16)) (f / 16 + 16 * (g % 16)) (g / 16 + 16 * (i % 16)) (i / 16) := by
    rw [un_sh (n := 4) _ _ (by decide), hx]
    unfold b8
    omega
  have k1 : un (1085102592571150095 : Int64) = b8 15 15 15 15 15 15 15 15 := by decide
  unfold bc3
  have m1 : un (x + (x.toUInt64 >>> ((4 : Int32).toInt64.toUInt64 &&& Int64.toUInt64 63)).toInt64) = b8 (a + a / 16 + 16 * (b % 16)) (b + b / 16 + 16 * (c % 16)) (c + c / 16 + 16 * (d % 16)) (d + d / 16 + 16 * (e % 16)) (e + e / 16 + 16 * (f % 16)) (f + f / 16 + 16 * (g % 16)) (g + g / 16 + 16 * (i % 16)) (i + i / 16) := by
    rw [un_add (by rw [s1, hx]; unfold b8; omega), s1, hx]
    unfold b8
    omega
  rw [un_and, m1, k1, and64 (by omega) (by omega) (by omega) (by omega) (by omega) (by omega) (by omega) (by omega) (by omega), fa3 (a + a / 16) (by omega) _ (by omega), fa3 (b + b / 16) (by omega) _ (by omega), fa3 (c + c / 16) (by omega) _ (by omega), fa3 (d + d / 16) (by omega) _ (by omega), fa3 (e + e / 16) (by omega) _ (by omega), fa3 (f + f / 16) (by omega) _ (by omega), fa3 (g + g / 16) (by omega) _ (by omega)]
theorem bc_4 (x : Int64) {a b c d e f g i : Nat} (ha : a ≤ 8) (hb : b ≤ 8) (hc : c ≤ 8) (hd : d ≤ 8) (he : e ≤ 8) (hf : f ≤ 8) (hg : g ≤ 8) (hi : i ≤ 8) (hx : un x = b8 a b c d e f g i) : un (bc6 (bc5 (bc4 x))) % 256 = a + b + c + d + e + f + g + i := by
  have m4 : un (bc4 x) = b8 a b c d e f g i + b8 b c d e f g i 0 := by
    unfold bc4
    have s1 : un ((x.toUInt64 >>> ((8 : Int32).toInt64.toUInt64 &&& Int64.toUInt64 63)).toInt64) = b8 b c d e f g i 0 := by
      rw [un_sh (n := 8) _ _ (by decide), hx]
      unfold b8
      omega
    rw [un_add (by rw [s1, hx]; unfold b8; omega), s1, hx]
  have n4 : un (bc4 x) = b8 (a + b) (b + c) (c + d) (d + e) (e + f) (f + g) (g + i) (i) := by
    rw [m4]
    unfold b8
    omega
  have q4 : un (bc4 x) / 2 ^ 16 = b8 (c + d) (d + e) (e + f) (f + g) (g + i) (i) 0 0 := by
    rw [n4]
    unfold b8
    omega
  have n5 : un (bc5 (bc4 x)) = b8 (a + b + c + d) (b + c + d + e) (c + d + e + f) (d + e + f + g) (e + f + g + i) (f + g + i) (g + i) (i) := by
    unfold bc5
    rw [un_add (by rw [un_sh (n := 16) _ _ (by decide), q4, n4]; unfold b8; omega), un_sh (n := 16) _ _ (by decide), q4, n4]
    unfold b8
    omega
  have q5 : un (bc5 (bc4 x)) / 2 ^ 32 = b8 (e + f + g + i) (f + g + i) (g + i) (i) 0 0 0 0 := by
    rw [n5]
    unfold b8
    omega
  have n6 : un (bc6 (bc5 (bc4 x))) = b8 (a + b + c + d + e + f + g + i) (b + c + d + e + f + g + i) (c + d + e + f + g + i) (d + e + f + g + i) (e + f + g + i) (f + g + i) (g + i) (i) := by
    unfold bc6
    rw [un_add (by rw [un_sh (n := 32) _ _ (by decide), q5, n5]; unfold b8; omega), un_sh (n := 32) _ _ (by decide), q5, n5]
    unfold b8
    omega
  rw [n6]
  unfold b8
  omega
theorem un_127 (z : Int64) : (z.toInt32 &&& 127).toInt = ((un z % 128 : Nat) : Int) := by
  have h1 : (z.toInt32 &&& 127).toBitVec.toNat = un z % 128 := by
    rw [Int32.toBitVec_and, BitVec.toNat_and]
    show (z.toBitVec.signExtend 32).toNat &&& 127 = un z % 128
    rw [BitVec.signExtend_eq_setWidth_of_le _ (by decide), BitVec.toNat_setWidth, Nat.and_two_pow_sub_one_eq_mod _ 7]
    show un z % 4294967296 % 128 = un z % 128
    omega
  have h2 : (z.toInt32 &&& 127).toInt = ((z.toInt32 &&& 127).toBitVec.toNat : Int) := by
    show (z.toInt32 &&& 127).toBitVec.toInt = _
    rw [BitVec.toInt_eq_toNat_bmod]
    exact Int.bmod_eq_of_le (by show -_ ≤ ((z.toInt32 &&& 127).toBitVec.toNat : Int); omega) (by show ((z.toInt32 &&& 127).toBitVec.toNat : Int) < _; omega)
  rw [h2, h1]
theorem bc_val (x : Int64) {a b c d e f g i : Nat} (ha : a < 256) (hb : b < 256) (hc : c < 256) (hd : d < 256) (he : e < 256) (hf : f < 256) (hg : g < 256) (hi : i < 256) (hx : un x = b8 a b c d e f g i) : (bcn x).toInt = ((pop a + pop b + pop c + pop d + pop e + pop f + pop g + pop i : Nat) : Int) := by
  have qa := fb a ha
  have qb := fb b hb
  have qc := fb c hc
  have qd := fb d hd
  have qe := fb e he
  have qf := fb f hf
  have qg := fb g hg
  have qi := fb i hi
  have h3 := bc_3 _ qa.2.2.1 qa.2.2.2.1 qb.2.2.1 qb.2.2.2.1 qc.2.2.1 qc.2.2.2.1 qd.2.2.1 qd.2.2.2.1 qe.2.2.1 qe.2.2.2.1 qf.2.2.1 qf.2.2.2.1 qg.2.2.1 qg.2.2.2.1 qi.2.2.1 qi.2.2.2.1 (bc_2 _ qa.2.1 qb.2.1 qc.2.1 qd.2.1 qe.2.1 qf.2.1 qg.2.1 qi.2.1 (bc_1 x ha hb hc hd he hf hg hi hx))
  have h4 := bc_4 (bc3 (bc2 (bc1 x))) qa.2.2.2.2 qb.2.2.2.2 qc.2.2.2.2 qd.2.2.2.2 qe.2.2.2.2 qf.2.2.2.2 qg.2.2.2.2 qi.2.2.2.2 h3
  unfold bcn
  rw [un_127]
  have h5 : (pop a + pop b + pop c + pop d + pop e + pop f + pop g + pop i) ≤ 64 := by omega
  congr 1
  have h6 : un (bc6 (bc5 (bc4 (bc3 (bc2 (bc1 x)))))) % 256 = pop a + pop b + pop c + pop d + pop e + pop f + pop g + pop i := h4
  omega
/-- a model among the words: with all of Y and none of N -/
def hm (h : ax_H) (Y N w k : Nat) : Bool := pb (hw h 148 w) k && ma Y N 6 k
theorem p_c147 (hH : hy_H 0 h) : ∃ vs, h[147]? = some (5, vs) := by
  obtain ⟨vs, e1, -⟩ := hy_cell hH (q := 147) (by decide)
  rw [show (ty_tab 147).1 = 5 from by decide +kernel] at e1
  exact ⟨vs, e1⟩
theorem p_and7 (a : Int32) : 0 ≤ (a &&& 127).toInt ∧ (a &&& 127).toInt ≤ 127 := by
  have h1 : (a &&& 127).toBitVec.toNat ≤ 127 := by
    rw [Int32.toBitVec_and, BitVec.toNat_and]
    exact Nat.and_le_right
  have h2 : (a &&& 127).toInt = ((a &&& 127).toBitVec.toNat : Int) := by
    show (a &&& 127).toBitVec.toInt = _
    rw [BitVec.toInt_eq_toNat_bmod]
    exact Int.bmod_eq_of_le (by show -_ ≤ ((a &&& 127).toBitVec.toNat : Int); omega) (by show ((a &&& 127).toBitVec.toNat : Int) < _; omega)
  omega
theorem AR.mulk {i d pc : Nat} {P : ax_P} {X : ax_PX} {lv : List (Nat × Value)} {st : List Value} {bc bs : Nat} {v : Value} {ws : List Nat} {w : Nat × Nat × Nat} {x y : Int32} {c : Int} (hl : ax_look i pc = some (.imul, w, v, ws)) (hy : y.toInt = c) (h1 : -2147483648 ≤ x.toInt * c) (h2 : x.toInt * c ≤ 2147483647) (k : ∀ z : Int32, z.toInt = x.toInt * c → AR ax_ns l (ax_mm i) d ty_R P X (pc + 1) lv (.int z :: st) h bc bs) : AR ax_ns l (ax_mm i) d ty_R P X pc lv (.int y :: .int x :: st) h bc bs :=
  AR.mulA hl (fun z hz => k z (by rw [hy] at hz; exact hz h1 h2))
theorem AR.idivT {i d pc : Nat} {P : ax_P} {X : ax_PX} {lv : List (Nat × Value)} {st : List Value} {bc bs : Nat} {v : Value} {ws : List Nat} {w : Nat × Nat × Nat} {x y : Int32} (hl : ax_look i pc = some (.idiv, w, v, ws)) (hx : x.toInt = 0) (hy : y.toInt = 64) (k : ∀ z : Int32, z.toInt = 0 → AR ax_ns l (ax_mm i) d ty_R P X (pc + 1) lv (.int z :: st) h bc bs) : AR ax_ns l (ax_mm i) d ty_R P X pc lv (.int y :: .int x :: st) h bc bs := by
  have ex : x = 0 := Int32.toInt_inj.mp hx
  have ey : y = 64 := Int32.toInt_inj.mp (hy.trans (by decide))
  subst ex ey
  exact AR.idiv (z := .int (0 / 64)) (ax_look_ok hl).1 rfl (k _ (by decide))
theorem AR.irem0 {i d pc : Nat} {P : ax_P} {X : ax_PX} {lv : List (Nat × Value)} {st : List Value} {bc bs : Nat} {v : Value} {ws : List Nat} {w : Nat × Nat × Nat} {x y : Int32} (hl : ax_look i pc = some (.irem, w, v, ws)) (hx : x.toInt = 0) (hy : y.toInt = 64) (k : ∀ z : Int32, z = 0 → AR ax_ns l (ax_mm i) d ty_R P X (pc + 1) lv (.int z :: st) h bc bs) : AR ax_ns l (ax_mm i) d ty_R P X pc lv (.int y :: .int x :: st) h bc bs := by
  have ex : x = 0 := Int32.toInt_inj.mp hx
  have ey : y = 64 := Int32.toInt_inj.mp (hy.trans (by decide))
  subst ex ey
  exact AR.irem (z := .int (0 - 0 / 64 * 64)) (ax_look_ok hl).1 rfl (k _ (by decide))
def pq_44 (h : ax_H) (Y N : Nat) : ax_Q := fun res g => g = h ∧ ∃ z : Int32, res = .inl (some (.int z)) ∧ ((0 ≤ z.toInt ∧ ∃ w k, w < 64 ∧ k < 64 ∧ hm h Y N w k = true) ∨ (z.toInt < 0 ∧ ∀ w, w < 64 → ∀ k, k < 64 → hm h Y N w k = false))
theorem p44_L (hlst : l.stackTraces = false) {X : ax_PX} {Y N : Nat} (hH : hy_H 0 h) (hu : u.toInt = 0) (hx : x.toInt = Y) (hY : Y < 64) (hy : y.toInt = N) (hN : N < 64) : ∀ (n : Nat) (i : Int32), i.toInt + n = 64 → 0 ≤ i.toInt → (∀ w : Nat, (w : Int) < i.toInt → ∀ k, k < 64 → hm h Y N w k = false) → AR ax_ns l (ax_mm 44) 1 ty_R (ax_ret ax_ns (ax_mm 44) (pq_44 h Y N)) X 10 [(4, .int i), (3, .int y), (2, .int x), (1, .int u), (0, .ref 147)] [] h 0 0 := by
  intro n
  induction n with
  | zero =>
    intro i hn i0 hv
    show AR _ _ _ _ _ _ _ 10 [(4, .int i), (3, .int y), (2, .int x), (1, .int u), (0, .ref 147)] [] h _ _
    refine AR.s (pc' := 12) (lv' := [(4, .int i), (3, .int y), (2, .int x), (1, .int u), (0, .ref 147)]) (st' := [.int i]) (h' := h) _ hn_44 hk_44_10 rfl ?_
    refine AR.bipushT hk_44_12 (by decide) (fun z501 ez501 => ?_)
    show AR _ _ _ _ _ _ _ 14 [(4, .int i), (3, .int y), (2, .int x), (1, .int u), (0, .ref 147)] [.int z501, .int i] h _ _
    refine AR.jge hk_44_14 (tgt := 84) (by decide) (fun p1 => ?_) (fun p2 => ?_)
    · refine AR.iconstT hk_44_84 (by decide) (fun z502 ez502 => ?_)
      show AR _ _ _ _ _ _ _ 85 [(4, .int i), (3, .int y), (2, .int x), (1, .int u), (0, .ref 147)] [.int z502] h _ _
      exact AR.iret hk_44_85 hr_44 ⟨rfl, _, rfl, Or.inr ⟨by omega, fun w hw0 => hv w (by omega)⟩⟩
    · exact absurd p2 (by omega)
  | succ n ih =>
    intro i hn i0 hv
    show AR _ _ _ _ _ _ _ 10 [(4, .int i), (3, .int y), (2, .int x), (1, .int u), (0, .ref 147)] [] h _ _
    refine AR.s (pc' := 12) (lv' := [(4, .int i), (3, .int y), (2, .int x), (1, .int u), (0, .ref 147)]) (st' := [.int i]) (h' := h) _ hn_44 hk_44_10 rfl ?_
    refine AR.bipushT hk_44_12 (by decide) (fun z503 ez503 => ?_)
    show AR _ _ _ _ _ _ _ 14 [(4, .int i), (3, .int y), (2, .int x), (1, .int u), (0, .ref 147)] [.int z503, .int i] h _ _
    refine AR.jge hk_44_14 (tgt := 84) (by decide) (fun p1 => ?_) (fun p2 => ?_)
    · exact absurd p1 (by omega)
    · refine AR.s (pc' := 18) (lv' := [(4, .int i), (3, .int y), (2, .int x), (1, .int u), (0, .ref 147)]) (st' := [.ref 147]) (h' := h) _ hn_44 hk_44_17 rfl ?_
      refine AR.s (pc' := 20) (lv' := [(4, .int i), (3, .int y), (2, .int x), (1, .int u), (0, .ref 147)]) (st' := [.int i, .ref 147]) (h' := h) _ hn_44 hk_44_18 rfl ?_
      refine AR.s (pc' := 21) (lv' := [(4, .int i), (3, .int y), (2, .int x), (1, .int u), (0, .ref 147)]) (st' := [.int x, .int i, .ref 147]) (h' := h) _ hn_44 hk_44_20 rfl ?_
      refine AR.s (pc' := 22) (lv' := [(4, .int i), (3, .int y), (2, .int x), (1, .int u), (0, .ref 147)]) (st' := [.int y, .int x, .int i, .ref 147]) (h' := h) _ hn_44 hk_44_21 rfl ?_
      obtain ⟨v7, c7⟩ := p_c147 hH
      refine AR.jr (r := 147) (as := [.int i, .int x, .int y]) (rest := []) hk_44_22 (by decide) (by decide +kernel) (by decide) c7 rfl rfl (Nat.le_of_ble_eq_true rfl) (p_47 hlst (W := i.toInt.toNat) hH (by omega) (by omega) hx hY hy hN) (by decide) (Nat.zero_le _) (Nat.zero_le _) ?_ (fun E h' q => by obtain ⟨-, _, e, -⟩ := q; cases e)
      rintro w g2 ⟨eg, r, er, hr⟩
      cases er
      obtain rfl := eg.symm
      show AR _ _ _ _ _ _ _ 25 [(4, .int i), (3, .int y), (2, .int x), (1, .int u), (0, .ref 147)] [.long r] h _ _
      refine AR.s (pc' := 27) (lv' := [(5, .long r), (4, .int i), (3, .int y), (2, .int x), (1, .int u), (0, .ref 147)]) (st' := []) (h' := h) _ hn_44 hk_44_25 rfl ?_
      refine AR.s (pc' := 29) (lv' := [(5, .long r), (4, .int i), (3, .int y), (2, .int x), (1, .int u), (0, .ref 147)]) (st' := [.int i]) (h' := h) _ hn_44 hk_44_27 rfl ?_
      refine AR.s (pc' := 30) (lv' := [(5, .long r), (4, .int i), (3, .int y), (2, .int x), (1, .int u), (0, .ref 147)]) (st' := [.int u, .int i]) (h' := h) _ hn_44 hk_44_29 rfl ?_
      refine AR.bipushT hk_44_30 (by decide) (fun z504 ez504 => ?_)
      show AR _ _ _ _ _ _ _ 32 [(5, .long r), (4, .int i), (3, .int y), (2, .int x), (1, .int u), (0, .ref 147)] [.int z504, .int u, .int i] h _ _
      refine AR.idivT hk_44_32 hu ez504 (fun d505 ed505 => ?_)
      show AR _ _ _ _ _ _ _ 33 [(5, .long r), (4, .int i), (3, .int y), (2, .int x), (1, .int u), (0, .ref 147)] [.int d505, .int i] h _ _
      refine AR.jne hk_44_33 (tgt := 49) (by decide) (fun q1 => ?_) (fun q2 => ?_)
      · refine AR.s (pc' := 51) (lv' := [(5, .long r), (4, .int i), (3, .int y), (2, .int x), (1, .int u), (0, .ref 147)]) (st' := [.long r]) (h' := h) _ hn_44 hk_44_49 rfl ?_
        refine AR.lconstT hk_44_51 (fun z506 ez506 => ?_)
        have kz506 : z506 = 0 := Int64.toInt_inj.mp (ez506.trans rfl)
        show AR _ _ _ _ _ _ _ 52 [(5, .long r), (4, .int i), (3, .int y), (2, .int x), (1, .int u), (0, .ref 147)] [.long z506, .long r] h _ _
        refine AR.lcmpT hk_44_52 (fun c cc => ?_)
        obtain ⟨cc1, cc2, cc3⟩ := cc
        have zz : z506.toInt = 0 := by rw [kz506]; rfl
        show AR _ _ _ _ _ _ _ 53 [(5, .long r), (4, .int i), (3, .int y), (2, .int x), (1, .int u), (0, .ref 147)] [.int c] h _ _
        refine AR.zeq hk_44_53 (tgt := 78) (by decide) (fun r1 => ?_) (fun r2 => ?_)
        · have y0 : r.toInt = 0 := by rcases Int.lt_trichotomy r.toInt 0 with w | w | w; have := cc1 (by omega); omega; exact w; have := cc3 (by omega); omega
          have yz := p_zero.mp y0
          refine AR.iincT hk_44_78 (x := i) rfl (by rw [hn_44]; decide) (by decide) (by omega) (by omega) (fun z507 ez507 => ?_)
          show AR _ _ _ _ _ _ _ 81 [(4, .int z507), (5, .long r), (3, .int y), (2, .int x), (1, .int u), (0, .ref 147)] [] h _ _
          refine AR.gotoT hk_44_81 (tgt := 10) (by decide) ?_
          refine AR.lessL (lv' := [(4, .int z507), (3, .int y), (2, .int x), (1, .int u), (0, .ref 147)]) (List.forall_mem_cons.mpr ⟨⟨_, by simp, ax_le_rfl rfl⟩, (List.forall_mem_cons.mpr ⟨⟨_, by simp, ax_le_rfl rfl⟩, (List.forall_mem_cons.mpr ⟨⟨_, by simp, ax_le_rfl rfl⟩, (List.forall_mem_cons.mpr ⟨⟨_, by simp, ax_le_rfl rfl⟩, (List.forall_mem_cons.mpr ⟨⟨_, by simp, ax_le_rfl rfl⟩, (fun _ h => absurd h List.not_mem_nil)⟩)⟩)⟩)⟩)⟩) ?_
          refine ih z507 (by omega) (by omega) (fun w hw0 k hk => ?_)
          by_cases ew : (w : Int) = i.toInt
          · have ek : w = i.toInt.toNat := by omega
            unfold hm
            rw [ek, ← hr k hk]
            exact yz k hk
          · exact hv w (by omega) k hk
        · have y0 : ¬ (r.toInt = 0) := fun e => absurd (cc2 (by omega)) (by omega)
          have yn : ∃ k, k < 64 ∧ pb r k = true := Classical.byContradiction (fun c => y0 (p_zero.mpr (fun k hk => by
            cases h2 : pb r k with
            | false => rfl
            | true => exact absurd ⟨k, hk, h2⟩ c)))
          obtain ⟨k, hk, ek⟩ := yn
          rw [hr k hk] at ek
          refine AR.s (pc' := 58) (lv' := [(5, .long r), (4, .int i), (3, .int y), (2, .int x), (1, .int u), (0, .ref 147)]) (st' := [.long r]) (h' := h) _ hn_44 hk_44_56 rfl ?_
          refine AR.s (pc' := 60) (lv' := [(5, .long r), (4, .int i), (3, .int y), (2, .int x), (1, .int u), (0, .ref 147)]) (st' := [.long r, .long r]) (h' := h) _ hn_44 hk_44_58 rfl ?_
          refine AR.lneg (z := .long (-r)) (ax_look_ok hk_44_60).1 rfl ?_
          generalize -r = z508
          show AR _ _ _ _ _ _ _ 61 [(5, .long r), (4, .int i), (3, .int y), (2, .int x), (1, .int u), (0, .ref 147)] [.long z508, .long r] h _ _
          refine AR.land (z := .long (r &&& z508)) (ax_look_ok hk_44_61).1 rfl ?_
          generalize hz509 : r &&& z508 = z509
          show AR _ _ _ _ _ _ _ 62 [(5, .long r), (4, .int i), (3, .int y), (2, .int x), (1, .int u), (0, .ref 147)] [.long z509] h _ _
          refine AR.s (pc' := 64) (lv' := [(7, .long z509), (5, .long r), (4, .int i), (3, .int y), (2, .int x), (1, .int u), (0, .ref 147)]) (st' := []) (h' := h) _ hn_44 hk_44_62 rfl ?_
          refine AR.s (pc' := 66) (lv' := [(7, .long z509), (5, .long r), (4, .int i), (3, .int y), (2, .int x), (1, .int u), (0, .ref 147)]) (st' := [.int i]) (h' := h) _ hn_44 hk_44_64 rfl ?_
          refine AR.bipushT hk_44_66 (by decide) (fun z510 ez510 => ?_)
          show AR _ _ _ _ _ _ _ 68 [(7, .long z509), (5, .long r), (4, .int i), (3, .int y), (2, .int x), (1, .int u), (0, .ref 147)] [.int z510, .int i] h _ _
          refine AR.mulk hk_44_68 ez510 (by omega) (by omega) (fun z511 ez511 => ?_)
          show AR _ _ _ _ _ _ _ 69 [(7, .long z509), (5, .long r), (4, .int i), (3, .int y), (2, .int x), (1, .int u), (0, .ref 147)] [.int z511] h _ _
          refine AR.s (pc' := 71) (lv' := [(7, .long z509), (5, .long r), (4, .int i), (3, .int y), (2, .int x), (1, .int u), (0, .ref 147)]) (st' := [.long z509, .int z511]) (h' := h) _ hn_44 hk_44_69 rfl ?_
          refine AR.lconstT hk_44_71 (fun z512 ez512 => ?_)
          have kz512 : z512 = 1 := Int64.toInt_inj.mp (ez512.trans rfl)
          show AR _ _ _ _ _ _ _ 72 [(7, .long z509), (5, .long r), (4, .int i), (3, .int y), (2, .int x), (1, .int u), (0, .ref 147)] [.long z512, .long z509, .int z511] h _ _
          refine AR.lsub (z := .long (z509 - z512)) (ax_look_ok hk_44_72).1 rfl ?_
          generalize gz513 : z509 - z512 = z513
          show AR _ _ _ _ _ _ _ 73 [(7, .long z509), (5, .long r), (4, .int i), (3, .int y), (2, .int x), (1, .int u), (0, .ref 147)] [.long z513, .int z511] h _ _
          refine AR.cs (as := [.long z513]) (rest := [.int z511]) hk_44_73 (by decide +kernel) rfl rfl (Nat.le_of_ble_eq_true rfl) (p_255 hlst) (by decide) (Nat.zero_le _) (Nat.zero_le _) (fun E h' q => by cases q.2) ?_
          rintro w g3 ⟨eg, er⟩
          cases er
          obtain rfl := eg.symm
          have bb : 0 ≤ (bcn z513).toInt ∧ (bcn z513).toInt ≤ 127 := p_and7 _
          show AR _ _ _ _ _ _ _ 76 [(7, .long z509), (5, .long r), (4, .int i), (3, .int y), (2, .int x), (1, .int u), (0, .ref 147)] [.int (bcn z513), .int z511] h _ _
          refine AR.addT hk_44_76 (by omega) (by omega) (fun z514 ez514 => ?_)
          show AR _ _ _ _ _ _ _ 77 [(7, .long z509), (5, .long r), (4, .int i), (3, .int y), (2, .int x), (1, .int u), (0, .ref 147)] [.int z514] h _ _
          exact AR.iret hk_44_77 hr_44 ⟨rfl, _, rfl, Or.inl ⟨by omega, _, k, by omega, hk, ek⟩⟩
      · refine AR.s (pc' := 38) (lv' := [(5, .long r), (4, .int i), (3, .int y), (2, .int x), (1, .int u), (0, .ref 147)]) (st' := [.long r]) (h' := h) _ hn_44 hk_44_36 rfl ?_
        refine AR.ldc2T hk_44_38 (fun z515 ez515 => ?_)
        have kz515 : z515 = (-1) := Int64.toInt_inj.mp (ez515.trans (by decide))
        show AR _ _ _ _ _ _ _ 41 [(5, .long r), (4, .int i), (3, .int y), (2, .int x), (1, .int u), (0, .ref 147)] [.long z515, .long r] h _ _
        refine AR.s (pc' := 42) (lv' := [(5, .long r), (4, .int i), (3, .int y), (2, .int x), (1, .int u), (0, .ref 147)]) (st' := [.int u, .long z515, .long r]) (h' := h) _ hn_44 hk_44_41 rfl ?_
        refine AR.bipushT hk_44_42 (by decide) (fun z516 ez516 => ?_)
        show AR _ _ _ _ _ _ _ 44 [(5, .long r), (4, .int i), (3, .int y), (2, .int x), (1, .int u), (0, .ref 147)] [.int z516, .int u, .long z515, .long r] h _ _
        refine AR.irem0 hk_44_44 hu ez516 (fun d517 ed517 => ?_)
        show AR _ _ _ _ _ _ _ 45 [(5, .long r), (4, .int i), (3, .int y), (2, .int x), (1, .int u), (0, .ref 147)] [.int d517, .long z515, .long r] h _ _
        refine AR.lshl (z := .long (z515 <<< (d517.toInt64 &&& 63))) (ax_look_ok hk_44_45).1 rfl ?_
        generalize hz518 : z515 <<< (d517.toInt64 &&& 63) = z518
        show AR _ _ _ _ _ _ _ 46 [(5, .long r), (4, .int i), (3, .int y), (2, .int x), (1, .int u), (0, .ref 147)] [.long z518, .long r] h _ _
        refine AR.land (z := .long (r &&& z518)) (ax_look_ok hk_44_46).1 rfl ?_
        generalize hz519 : r &&& z518 = z519
        show AR _ _ _ _ _ _ _ 47 [(5, .long r), (4, .int i), (3, .int y), (2, .int x), (1, .int u), (0, .ref 147)] [.long z519] h _ _
        have fr : z519 = r := by
          rw [← hz519, ← hz518, kz515, ed517]
          exact pb_ext (fun k hk => by rw [pb_and, show ((-1 : Int64) <<< ((0 : Int32).toInt64 &&& 63)) = -1 from by decide, pb_m1 k hk, Bool.and_true])
        rw [fr]
        show AR _ _ _ _ _ _ _ 47 [(5, .long r), (4, .int i), (3, .int y), (2, .int x), (1, .int u), (0, .ref 147)] [.long r] h _ _
        refine AR.s (pc' := 49) (lv' := [(5, .long r), (4, .int i), (3, .int y), (2, .int x), (1, .int u), (0, .ref 147)]) (st' := []) (h' := h) _ hn_44 hk_44_47 rfl ?_
        refine AR.lessL (lv' := [(5, .long r), (4, .int i), (3, .int y), (2, .int x), (1, .int u), (0, .ref 147)]) (List.forall_mem_cons.mpr ⟨⟨_, by simp, ax_le_rfl rfl⟩, (List.forall_mem_cons.mpr ⟨⟨_, by simp, ax_le_rfl rfl⟩, (List.forall_mem_cons.mpr ⟨⟨_, by simp, ax_le_rfl rfl⟩, (List.forall_mem_cons.mpr ⟨⟨_, by simp, ax_le_rfl rfl⟩, (List.forall_mem_cons.mpr ⟨⟨_, by simp, ax_le_rfl rfl⟩, (List.forall_mem_cons.mpr ⟨⟨_, by simp, ax_le_rfl rfl⟩, (fun _ h => absurd h List.not_mem_nil)⟩)⟩)⟩)⟩)⟩)⟩) ?_
        refine AR.s (pc' := 51) (lv' := [(5, .long r), (4, .int i), (3, .int y), (2, .int x), (1, .int u), (0, .ref 147)]) (st' := [.long r]) (h' := h) _ hn_44 hk_44_49 rfl ?_
        refine AR.lconstT hk_44_51 (fun z520 ez520 => ?_)
        have kz520 : z520 = 0 := Int64.toInt_inj.mp (ez520.trans rfl)
        show AR _ _ _ _ _ _ _ 52 [(5, .long r), (4, .int i), (3, .int y), (2, .int x), (1, .int u), (0, .ref 147)] [.long z520, .long r] h _ _
        refine AR.lcmpT hk_44_52 (fun c cc => ?_)
        obtain ⟨cc1, cc2, cc3⟩ := cc
        have zz : z520.toInt = 0 := by rw [kz520]; rfl
        show AR _ _ _ _ _ _ _ 53 [(5, .long r), (4, .int i), (3, .int y), (2, .int x), (1, .int u), (0, .ref 147)] [.int c] h _ _
        refine AR.zeq hk_44_53 (tgt := 78) (by decide) (fun r1 => ?_) (fun r2 => ?_)
        · have y0 : r.toInt = 0 := by rcases Int.lt_trichotomy r.toInt 0 with w | w | w; have := cc1 (by omega); omega; exact w; have := cc3 (by omega); omega
          have yz := p_zero.mp y0
          refine AR.iincT hk_44_78 (x := i) rfl (by rw [hn_44]; decide) (by decide) (by omega) (by omega) (fun z521 ez521 => ?_)
          show AR _ _ _ _ _ _ _ 81 [(4, .int z521), (5, .long r), (3, .int y), (2, .int x), (1, .int u), (0, .ref 147)] [] h _ _
          refine AR.gotoT hk_44_81 (tgt := 10) (by decide) ?_
          refine AR.lessL (lv' := [(4, .int z521), (3, .int y), (2, .int x), (1, .int u), (0, .ref 147)]) (List.forall_mem_cons.mpr ⟨⟨_, by simp, ax_le_rfl rfl⟩, (List.forall_mem_cons.mpr ⟨⟨_, by simp, ax_le_rfl rfl⟩, (List.forall_mem_cons.mpr ⟨⟨_, by simp, ax_le_rfl rfl⟩, (List.forall_mem_cons.mpr ⟨⟨_, by simp, ax_le_rfl rfl⟩, (List.forall_mem_cons.mpr ⟨⟨_, by simp, ax_le_rfl rfl⟩, (fun _ h => absurd h List.not_mem_nil)⟩)⟩)⟩)⟩)⟩) ?_
          refine ih z521 (by omega) (by omega) (fun w hw0 k hk => ?_)
          by_cases ew : (w : Int) = i.toInt
          · have ek : w = i.toInt.toNat := by omega
            unfold hm
            rw [ek, ← hr k hk]
            exact yz k hk
          · exact hv w (by omega) k hk
        · have y0 : ¬ (r.toInt = 0) := fun e => absurd (cc2 (by omega)) (by omega)
          have yn : ∃ k, k < 64 ∧ pb r k = true := Classical.byContradiction (fun c => y0 (p_zero.mpr (fun k hk => by
            cases h2 : pb r k with
            | false => rfl
            | true => exact absurd ⟨k, hk, h2⟩ c)))
          obtain ⟨k, hk, ek⟩ := yn
          rw [hr k hk] at ek
          refine AR.s (pc' := 58) (lv' := [(5, .long r), (4, .int i), (3, .int y), (2, .int x), (1, .int u), (0, .ref 147)]) (st' := [.long r]) (h' := h) _ hn_44 hk_44_56 rfl ?_
          refine AR.s (pc' := 60) (lv' := [(5, .long r), (4, .int i), (3, .int y), (2, .int x), (1, .int u), (0, .ref 147)]) (st' := [.long r, .long r]) (h' := h) _ hn_44 hk_44_58 rfl ?_
          refine AR.lneg (z := .long (-r)) (ax_look_ok hk_44_60).1 rfl ?_
          generalize -r = z522
          show AR _ _ _ _ _ _ _ 61 [(5, .long r), (4, .int i), (3, .int y), (2, .int x), (1, .int u), (0, .ref 147)] [.long z522, .long r] h _ _
          refine AR.land (z := .long (r &&& z522)) (ax_look_ok hk_44_61).1 rfl ?_
          generalize hz523 : r &&& z522 = z523
          show AR _ _ _ _ _ _ _ 62 [(5, .long r), (4, .int i), (3, .int y), (2, .int x), (1, .int u), (0, .ref 147)] [.long z523] h _ _
          refine AR.s (pc' := 64) (lv' := [(7, .long z523), (5, .long r), (4, .int i), (3, .int y), (2, .int x), (1, .int u), (0, .ref 147)]) (st' := []) (h' := h) _ hn_44 hk_44_62 rfl ?_
          refine AR.s (pc' := 66) (lv' := [(7, .long z523), (5, .long r), (4, .int i), (3, .int y), (2, .int x), (1, .int u), (0, .ref 147)]) (st' := [.int i]) (h' := h) _ hn_44 hk_44_64 rfl ?_
          refine AR.bipushT hk_44_66 (by decide) (fun z524 ez524 => ?_)
          show AR _ _ _ _ _ _ _ 68 [(7, .long z523), (5, .long r), (4, .int i), (3, .int y), (2, .int x), (1, .int u), (0, .ref 147)] [.int z524, .int i] h _ _
          refine AR.mulk hk_44_68 ez524 (by omega) (by omega) (fun z525 ez525 => ?_)
          show AR _ _ _ _ _ _ _ 69 [(7, .long z523), (5, .long r), (4, .int i), (3, .int y), (2, .int x), (1, .int u), (0, .ref 147)] [.int z525] h _ _
          refine AR.s (pc' := 71) (lv' := [(7, .long z523), (5, .long r), (4, .int i), (3, .int y), (2, .int x), (1, .int u), (0, .ref 147)]) (st' := [.long z523, .int z525]) (h' := h) _ hn_44 hk_44_69 rfl ?_
          refine AR.lconstT hk_44_71 (fun z526 ez526 => ?_)
          have kz526 : z526 = 1 := Int64.toInt_inj.mp (ez526.trans rfl)
          show AR _ _ _ _ _ _ _ 72 [(7, .long z523), (5, .long r), (4, .int i), (3, .int y), (2, .int x), (1, .int u), (0, .ref 147)] [.long z526, .long z523, .int z525] h _ _
          refine AR.lsub (z := .long (z523 - z526)) (ax_look_ok hk_44_72).1 rfl ?_
          generalize gz527 : z523 - z526 = z527
          show AR _ _ _ _ _ _ _ 73 [(7, .long z523), (5, .long r), (4, .int i), (3, .int y), (2, .int x), (1, .int u), (0, .ref 147)] [.long z527, .int z525] h _ _
          refine AR.cs (as := [.long z527]) (rest := [.int z525]) hk_44_73 (by decide +kernel) rfl rfl (Nat.le_of_ble_eq_true rfl) (p_255 hlst) (by decide) (Nat.zero_le _) (Nat.zero_le _) (fun E h' q => by cases q.2) ?_
          rintro w g3 ⟨eg, er⟩
          cases er
          obtain rfl := eg.symm
          have bb : 0 ≤ (bcn z527).toInt ∧ (bcn z527).toInt ≤ 127 := p_and7 _
          show AR _ _ _ _ _ _ _ 76 [(7, .long z523), (5, .long r), (4, .int i), (3, .int y), (2, .int x), (1, .int u), (0, .ref 147)] [.int (bcn z527), .int z525] h _ _
          refine AR.addT hk_44_76 (by omega) (by omega) (fun z528 ez528 => ?_)
          show AR _ _ _ _ _ _ _ 77 [(7, .long z523), (5, .long r), (4, .int i), (3, .int y), (2, .int x), (1, .int u), (0, .ref 147)] [.int z528] h _ _
          exact AR.iret hk_44_77 hr_44 ⟨rfl, _, rfl, Or.inl ⟨by omega, _, k, by omega, hk, ek⟩⟩
theorem p_44 (hlst : l.stackTraces = false) {Y N : Nat} (hH : hy_H 0 h) (hu : u.toInt = 0) (hx : x.toInt = Y) (hY : Y < 64) (hy : y.toInt = N) (hN : N < 64) : AM ax_ns l (ax_mm 44) 1 ty_R (0) (0) [.ref 147, .int u, .int x, .int y] h (pq_44 h Y N) := by
  refine AM.of (ax_mfacts (by decide +kernel : ax_has 44 = true)).2.2.2.2.2.2 hlst (by rw [hn_44]; exact Nat.le_of_ble_eq_true rfl) ?_
  show AR ax_ns l (ax_mm 44) 1 ty_R _ _ 0 [(0, .ref 147), (1, .int u), (2, .int x), (3, .int y)] [] h (0) (0)
  refine AR.iconstT hk_44_0 (by decide) (fun z529 ez529 => ?_)
  show AR _ _ _ _ _ _ _ 1 [(0, .ref 147), (1, .int u), (2, .int x), (3, .int y)] [.int z529] h _ _
  refine AR.s (pc' := 2) (lv' := [(0, .ref 147), (1, .int u), (2, .int x), (3, .int y)]) (st' := [.int u, .int z529]) (h' := h) _ hn_44 hk_44_1 rfl ?_
  refine AR.bipushT hk_44_2 (by decide) (fun z530 ez530 => ?_)
  show AR _ _ _ _ _ _ _ 4 [(0, .ref 147), (1, .int u), (2, .int x), (3, .int y)] [.int z530, .int u, .int z529] h _ _
  refine AR.idivT hk_44_4 hu ez530 (fun d531 ed531 => ?_)
  show AR _ _ _ _ _ _ _ 5 [(0, .ref 147), (1, .int u), (2, .int x), (3, .int y)] [.int d531, .int z529] h _ _
  have m0 : (if z529 < d531 then d531 else z529 : Int32).toInt = 0 := by split <;> omega
  refine AR.mmaxI (z := .int (if z529 < d531 then d531 else z529)) (ax_look_ok hk_44_5).1 (ax_wk_mem (ix := 5022) (by decide +kernel)) rfl (Nat.le_of_ble_eq_true rfl) ?_
  generalize (if z529 < d531 then d531 else z529 : Int32) = mz at m0
  show AR _ _ _ _ _ _ _ 8 [(0, .ref 147), (1, .int u), (2, .int x), (3, .int y)] [.int mz] h _ _
  refine AR.s (pc' := 10) (lv' := [(4, .int mz), (0, .ref 147), (1, .int u), (2, .int x), (3, .int y)]) (st' := []) (h' := h) _ hn_44 hk_44_8 rfl ?_
  refine AR.lessL (lv' := [(4, .int mz), (3, .int y), (2, .int x), (1, .int u), (0, .ref 147)]) (List.forall_mem_cons.mpr ⟨⟨_, by simp, ax_le_rfl rfl⟩, (List.forall_mem_cons.mpr ⟨⟨_, by simp, ax_le_rfl rfl⟩, (List.forall_mem_cons.mpr ⟨⟨_, by simp, ax_le_rfl rfl⟩, (List.forall_mem_cons.mpr ⟨⟨_, by simp, ax_le_rfl rfl⟩, (List.forall_mem_cons.mpr ⟨⟨_, by simp, ax_le_rfl rfl⟩, (fun _ h => absurd h List.not_mem_nil)⟩)⟩)⟩)⟩)⟩) ?_
  exact p44_L hlst hH hu hx hY hy hN 64 mz (by omega) (by omega) (fun w hw0 => absurd hw0 (by omega))
theorem ma_00 : ∀ k, k < 64 → ma 0 0 6 k = true := by decide +kernel
def cw (h : ax_H) : Nat → Int
  | 0 => 0
  | n + 1 => cw h n + (bcn (hw h 148 n)).toInt
theorem cw_bd (h : ax_H) : ∀ n, 0 ≤ cw h n ∧ cw h n ≤ 127 * (n : Int)
  | 0 => ⟨Int.le_refl _, Int.le_refl _⟩
  | n + 1 => by
    have a := cw_bd h n
    have b : 0 ≤ (bcn (hw h 148 n)).toInt ∧ (bcn (hw h 148 n)).toInt ≤ 127 := p_and7 _
    show 0 ≤ cw h n + _ ∧ cw h n + _ ≤ _
    omega
def pq_45 (h : ax_H) : ax_Q := fun res g => g = h ∧ ∃ z : Int32, res = .inl (some (.int z)) ∧ z.toInt = cw h 64
theorem p45_L (hlst : l.stackTraces = false) {X : ax_PX} (hH : hy_H 0 h) (hx : x.toInt = 0) (hy : y.toInt = 0) : ∀ (n v : Nat) (i t : Int32), v + n = 64 → i.toInt = v → t.toInt = cw h v → AR ax_ns l (ax_mm 45) 1 ty_R (ax_ret ax_ns (ax_mm 45) (pq_45 h)) X 5 [(4, .int i), (3, .int t), (2, .int y), (1, .int x), (0, .ref 147)] [] h 0 0 := by
  intro n
  induction n with
  | zero =>
    intro v i t hn hi ht
    show AR _ _ _ _ _ _ _ 5 [(4, .int i), (3, .int t), (2, .int y), (1, .int x), (0, .ref 147)] [] h _ _
    refine AR.s (pc' := 7) (lv' := [(4, .int i), (3, .int t), (2, .int y), (1, .int x), (0, .ref 147)]) (st' := [.int i]) (h' := h) _ hn_45 hk_45_5 rfl ?_
    refine AR.bipushT hk_45_7 (by decide) (fun z532 ez532 => ?_)
    show AR _ _ _ _ _ _ _ 9 [(4, .int i), (3, .int t), (2, .int y), (1, .int x), (0, .ref 147)] [.int z532, .int i] h _ _
    refine AR.jge hk_45_9 (tgt := 32) (by decide) (fun p1 => ?_) (fun p2 => ?_)
    · refine AR.s (pc' := 33) (lv' := [(4, .int i), (3, .int t), (2, .int y), (1, .int x), (0, .ref 147)]) (st' := [.int t]) (h' := h) _ hn_45 hk_45_32 rfl ?_
      have v6 : v = 64 := by omega
      subst v6
      exact AR.iret hk_45_33 hr_45 ⟨rfl, _, rfl, ht⟩
    · exact absurd p2 (by omega)
  | succ n ih =>
    intro v i t hn hi ht
    show AR _ _ _ _ _ _ _ 5 [(4, .int i), (3, .int t), (2, .int y), (1, .int x), (0, .ref 147)] [] h _ _
    refine AR.s (pc' := 7) (lv' := [(4, .int i), (3, .int t), (2, .int y), (1, .int x), (0, .ref 147)]) (st' := [.int i]) (h' := h) _ hn_45 hk_45_5 rfl ?_
    refine AR.bipushT hk_45_7 (by decide) (fun z533 ez533 => ?_)
    show AR _ _ _ _ _ _ _ 9 [(4, .int i), (3, .int t), (2, .int y), (1, .int x), (0, .ref 147)] [.int z533, .int i] h _ _
    refine AR.jge hk_45_9 (tgt := 32) (by decide) (fun p1 => ?_) (fun p2 => ?_)
    · exact absurd p1 (by omega)
    · refine AR.s (pc' := 13) (lv' := [(4, .int i), (3, .int t), (2, .int y), (1, .int x), (0, .ref 147)]) (st' := [.int t]) (h' := h) _ hn_45 hk_45_12 rfl ?_
      refine AR.s (pc' := 14) (lv' := [(4, .int i), (3, .int t), (2, .int y), (1, .int x), (0, .ref 147)]) (st' := [.ref 147, .int t]) (h' := h) _ hn_45 hk_45_13 rfl ?_
      refine AR.s (pc' := 16) (lv' := [(4, .int i), (3, .int t), (2, .int y), (1, .int x), (0, .ref 147)]) (st' := [.int i, .ref 147, .int t]) (h' := h) _ hn_45 hk_45_14 rfl ?_
      refine AR.s (pc' := 17) (lv' := [(4, .int i), (3, .int t), (2, .int y), (1, .int x), (0, .ref 147)]) (st' := [.int x, .int i, .ref 147, .int t]) (h' := h) _ hn_45 hk_45_16 rfl ?_
      refine AR.s (pc' := 18) (lv' := [(4, .int i), (3, .int t), (2, .int y), (1, .int x), (0, .ref 147)]) (st' := [.int y, .int x, .int i, .ref 147, .int t]) (h' := h) _ hn_45 hk_45_17 rfl ?_
      obtain ⟨v7, c7⟩ := p_c147 hH
      refine AR.jr (r := 147) (as := [.int i, .int x, .int y]) (rest := [.int t]) hk_45_18 (by decide) (by decide +kernel) (by decide) c7 rfl rfl (Nat.le_of_ble_eq_true rfl) (p_47 hlst (W := v) (Y := 0) (N := 0) hH (by omega) (by omega) (by omega) (by decide) (by omega) (by decide)) (by decide) (Nat.zero_le _) (Nat.zero_le _) ?_ (fun E h' q => by obtain ⟨-, _, e, -⟩ := q; cases e)
      rintro w g2 ⟨eg, r, er, hr⟩
      cases er
      obtain rfl := eg.symm
      have rw0 : r = hw h 148 v := pb_ext (fun k hk => by rw [hr k hk, ma_00 k hk, Bool.and_true])
      show AR _ _ _ _ _ _ _ 21 [(4, .int i), (3, .int t), (2, .int y), (1, .int x), (0, .ref 147)] [.long r, .int t] h _ _
      refine AR.cs (as := [.long r]) (rest := [.int t]) hk_45_21 (by decide +kernel) rfl rfl (Nat.le_of_ble_eq_true rfl) (p_255 hlst) (by decide) (Nat.zero_le _) (Nat.zero_le _) (fun E h' q => by cases q.2) ?_
      rintro w g3 ⟨eg, er⟩
      cases er
      obtain rfl := eg.symm
      have bb : 0 ≤ (bcn r).toInt ∧ (bcn r).toInt ≤ 127 := p_and7 _
      have cb := cw_bd h v
      show AR _ _ _ _ _ _ _ 24 [(4, .int i), (3, .int t), (2, .int y), (1, .int x), (0, .ref 147)] [.int (bcn r), .int t] h _ _
      refine AR.addT hk_45_24 (by omega) (by omega) (fun z534 ez534 => ?_)
      show AR _ _ _ _ _ _ _ 25 [(4, .int i), (3, .int t), (2, .int y), (1, .int x), (0, .ref 147)] [.int z534] h _ _
      refine AR.s (pc' := 26) (lv' := [(3, .int z534), (4, .int i), (2, .int y), (1, .int x), (0, .ref 147)]) (st' := []) (h' := h) _ hn_45 hk_45_25 rfl ?_
      refine AR.iincT hk_45_26 (x := i) rfl (by rw [hn_45]; decide) (by decide) (by omega) (by omega) (fun z535 ez535 => ?_)
      show AR _ _ _ _ _ _ _ 29 [(4, .int z535), (3, .int z534), (2, .int y), (1, .int x), (0, .ref 147)] [] h _ _
      refine AR.gotoT hk_45_29 (tgt := 5) (by decide) ?_
      refine AR.lessL (lv' := [(4, .int z535), (3, .int z534), (2, .int y), (1, .int x), (0, .ref 147)]) (List.forall_mem_cons.mpr ⟨⟨_, by simp, ax_le_rfl rfl⟩, (List.forall_mem_cons.mpr ⟨⟨_, by simp, ax_le_rfl rfl⟩, (List.forall_mem_cons.mpr ⟨⟨_, by simp, ax_le_rfl rfl⟩, (List.forall_mem_cons.mpr ⟨⟨_, by simp, ax_le_rfl rfl⟩, (List.forall_mem_cons.mpr ⟨⟨_, by simp, ax_le_rfl rfl⟩, (fun _ h => absurd h List.not_mem_nil)⟩)⟩)⟩)⟩)⟩) ?_
      refine ih (v + 1) z535 z534 (by omega) (by omega) ?_
      show _ = cw h v + (bcn (hw h 148 v)).toInt
      rw [← rw0]
      omega
theorem p_45 (hlst : l.stackTraces = false) (hH : hy_H 0 h) (hx : x.toInt = 0) (hy : y.toInt = 0) : AM ax_ns l (ax_mm 45) 1 ty_R (0) (0) [.ref 147, .int x, .int y] h (pq_45 h) := by
  refine AM.of (ax_mfacts (by decide +kernel : ax_has 45 = true)).2.2.2.2.2.2 hlst (by rw [hn_45]; exact Nat.le_of_ble_eq_true rfl) ?_
  show AR ax_ns l (ax_mm 45) 1 ty_R _ _ 0 [(0, .ref 147), (1, .int x), (2, .int y)] [] h (0) (0)
  refine AR.iconstT hk_45_0 (by decide) (fun z536 ez536 => ?_)
  show AR _ _ _ _ _ _ _ 1 [(0, .ref 147), (1, .int x), (2, .int y)] [.int z536] h _ _
  refine AR.s (pc' := 2) (lv' := [(3, .int z536), (0, .ref 147), (1, .int x), (2, .int y)]) (st' := []) (h' := h) _ hn_45 hk_45_1 rfl ?_
  refine AR.iconstT hk_45_2 (by decide) (fun z537 ez537 => ?_)
  show AR _ _ _ _ _ _ _ 3 [(3, .int z536), (0, .ref 147), (1, .int x), (2, .int y)] [.int z537] h _ _
  refine AR.s (pc' := 5) (lv' := [(4, .int z537), (3, .int z536), (0, .ref 147), (1, .int x), (2, .int y)]) (st' := []) (h' := h) _ hn_45 hk_45_3 rfl ?_
  refine AR.lessL (lv' := [(4, .int z537), (3, .int z536), (2, .int y), (1, .int x), (0, .ref 147)]) (List.forall_mem_cons.mpr ⟨⟨_, by simp, ax_le_rfl rfl⟩, (List.forall_mem_cons.mpr ⟨⟨_, by simp, ax_le_rfl rfl⟩, (List.forall_mem_cons.mpr ⟨⟨_, by simp, ax_le_rfl rfl⟩, (List.forall_mem_cons.mpr ⟨⟨_, by simp, ax_le_rfl rfl⟩, (List.forall_mem_cons.mpr ⟨⟨_, by simp, ax_le_rfl rfl⟩, (fun _ h => absurd h List.not_mem_nil)⟩)⟩)⟩)⟩)⟩) ?_
  exact p45_L hlst hH hx hy 64 0 z537 z536 (by omega) (by omega) (by show _ = (0 : Int); omega)
theorem AR.aaX {i d pc q t : Nat} {P : ax_P} {X : ax_PX} {lv : List (Nat × Value)} {st : List Value} {bc bs : Nat} {v a : Value} {ws : List Nat} {w : Nat × Nat × Nat} {j : Int32} {ty : FieldType} (hl : ax_look i pc = some (.aaload, w, v, ws)) (hH : hy_H 0 h) (hq : q < 181) (ht : (ty_tab q).1 = 100 + t) (hty : ax_tys[t]? = some ty) (hr : ty.isReference = true) (h0 : 0 ≤ j.toInt) (e : ty_fd h q j.toInt.toNat = some a) (k : AR ax_ns l (ax_mm i) d ty_R P X (pc + 1) lv (a :: st) h bc bs) : AR ax_ns l (ax_mm i) d ty_R P X pc lv (.int j :: .ref q :: st) h bc bs := by
  obtain ⟨vs, e1, e2, -⟩ := hy_cell hH hq
  rw [ht] at e1
  have e3 : vs[j.toNatClampNeg]? = some a := by
    have h1 : ty_fd h q j.toInt.toNat = vs[j.toInt.toNat]? := by unfold ty_fd; rw [e1]; rfl
    rw [h1] at e
    exact e
  exact AR.aaload (ax_look_ok hl).1 hty hr (by rw [ax_get_lt (by omega)]; exact e1) (hj_nn h0).1 e3 k
/-- no level open, nothing decided -/
def pI (h : ax_H) : Prop := ty_fd h 24 0 = some (.ref 147) ∧ hy_z h 0 17 = 0 ∧ hy_z h 15 1 = 0
theorem p_c8 (hH : hy_H 0 h) : ∃ vs, h[0]? = some (8, vs) := by
  obtain ⟨vs, e1, -⟩ := hy_cell hH (q := 0) (by decide)
  rw [show (ty_tab 0).1 = 8 from by decide +kernel] at e1
  exact ⟨vs, e1⟩
theorem p_c15 (hH : hy_H 0 h) : ∃ vs, h[15]? = some (3, vs) := by
  obtain ⟨vs, e1, -⟩ := hy_cell hH (q := 15) (by decide)
  rw [show (ty_tab 15).1 = 3 from by decide +kernel] at e1
  exact ⟨vs, e1⟩
theorem p_122 (hlst : l.stackTraces = false) (hH : hy_H 0 h) (hI : pI h) : AM ax_ns l (ax_mm 122) 0 ty_R (0) (0) [.ref 0] h (fun res g => g = h ∧ res = .inl (some (.ref 147))) := by
  refine AM.of (ax_mfacts (by decide +kernel : ax_has 122 = true)).2.2.2.2.2.2 hlst (by rw [hn_122]; exact Nat.le_of_ble_eq_true rfl) ?_
  show AR ax_ns l (ax_mm 122) 0 ty_R _ _ 0 [(0, .ref 0)] [] h (0) (0)
  refine AR.s (pc' := 1) (lv' := [(0, .ref 0)]) (st' := [.ref 0]) (h' := h) _ hn_122 hk_122_0 rfl ?_
  refine AR.gR hk_122_1 (by decide) hH (q := 0) (n := 18) (by decide) (by decide +kernel) (by decide +kernel) (by decide) hy_t0_14 ?_
  show AR _ _ _ _ _ _ _ 4 [(0, .ref 0)] [.ref 24] h _ _
  refine AR.s (pc' := 5) (lv' := [(0, .ref 0)]) (st' := [.ref 0, .ref 24]) (h' := h) _ hn_122 hk_122_4 rfl ?_
  refine AR.gI hk_122_5 (by decide) hH (q := 0) (n := 18) (by decide) (by decide +kernel) (by decide +kernel) (by decide) hy_t0_17 (fun x538 dx538 lx538 ux538 => ?_)
  show AR _ _ _ _ _ _ _ 8 [(0, .ref 0)] [.int x538, .ref 24] h _ _
  have sx538 := hy_zi dx538
  have jz : x538.toInt = 0 := by have := hI.2.1; omega
  refine AR.aaX (t := 5) (a := .ref 147) hk_122_8 hH (by decide) (by decide +kernel) rfl rfl (by omega) (by rw [jz]; exact hI.1) ?_
  show AR _ _ _ _ _ _ _ 9 [(0, .ref 0)] [.ref 147] h _ _
  exact AR.aret hk_122_9 hr_122 (Or.inl ⟨_, rfl⟩) ⟨rfl, rfl⟩
theorem p_33 (hlst : l.stackTraces = false) (hH : hy_H 0 h) (hI : pI h) : AM ax_ns l (ax_mm 33) 0 ty_R (0) (0) [.ref 15, .int x] h (fun res g => g = h ∧ ∃ z : Int32, res = .inl (some (.int z)) ∧ z.toInt = 0) := by
  refine AM.of (ax_mfacts (by decide +kernel : ax_has 33 = true)).2.2.2.2.2.2 hlst (by rw [hn_33]; exact Nat.le_of_ble_eq_true rfl) ?_
  show AR ax_ns l (ax_mm 33) 0 ty_R _ _ 0 [(0, .ref 15), (1, .int x)] [] h (0) (0)
  have h15 := hI.2.2
  refine AR.iconstT hk_33_0 (by decide) (fun z539 ez539 => ?_)
  show AR _ _ _ _ _ _ _ 1 [(0, .ref 15), (1, .int x)] [.int z539] h _ _
  refine AR.s (pc' := 2) (lv' := [(2, .int z539), (0, .ref 15), (1, .int x)]) (st' := []) (h' := h) _ hn_33 hk_33_1 rfl ?_
  refine AR.iconstT hk_33_2 (by decide) (fun z540 ez540 => ?_)
  show AR _ _ _ _ _ _ _ 3 [(2, .int z539), (0, .ref 15), (1, .int x)] [.int z540] h _ _
  refine AR.s (pc' := 4) (lv' := [(3, .int z540), (2, .int z539), (0, .ref 15), (1, .int x)]) (st' := []) (h' := h) _ hn_33 hk_33_3 rfl ?_
  refine AR.s (pc' := 5) (lv' := [(3, .int z540), (2, .int z539), (0, .ref 15), (1, .int x)]) (st' := [.int z540]) (h' := h) _ hn_33 hk_33_4 rfl ?_
  refine AR.s (pc' := 6) (lv' := [(3, .int z540), (2, .int z539), (0, .ref 15), (1, .int x)]) (st' := [.ref 15, .int z540]) (h' := h) _ hn_33 hk_33_5 rfl ?_
  refine AR.gI hk_33_6 (by decide) hH (q := 15) (n := 2) (by decide) (by decide +kernel) (by decide +kernel) (by decide) hy_t15_1 (fun x541 dx541 lx541 ux541 => ?_)
  show AR _ _ _ _ _ _ _ 9 [(3, .int z540), (2, .int z539), (0, .ref 15), (1, .int x)] [.int x541, .int z540] h _ _
  have sx541 := hy_zi dx541
  refine AR.jge hk_33_9 (tgt := 43) (by decide) (fun p1 => ?_) (fun p2 => ?_)
  · refine AR.s (pc' := 44) (lv' := [(3, .int z540), (2, .int z539), (0, .ref 15), (1, .int x)]) (st' := [.int z539]) (h' := h) _ hn_33 hk_33_43 rfl ?_
    exact AR.iret hk_33_44 hr_33 ⟨rfl, _, rfl, by omega⟩
  · exact absurd p2 (by omega)
theorem p_123 (hlst : l.stackTraces = false) (hH : hy_H 0 h) (hI : pI h) : AM ax_ns l (ax_mm 123) 1 ty_R (0) (0) [.ref 0] h (fun res g => g = h ∧ ∃ z : Int32, res = .inl (some (.int z)) ∧ z.toInt = 0) := by
  refine AM.of (ax_mfacts (by decide +kernel : ax_has 123 = true)).2.2.2.2.2.2 hlst (by rw [hn_123]; exact Nat.le_of_ble_eq_true rfl) ?_
  show AR ax_ns l (ax_mm 123) 1 ty_R _ _ 0 [(0, .ref 0)] [] h (0) (0)
  refine AR.s (pc' := 1) (lv' := [(0, .ref 0)]) (st' := [.ref 0]) (h' := h) _ hn_123 hk_123_0 rfl ?_
  refine AR.gR hk_123_1 (by decide) hH (q := 0) (n := 18) (by decide) (by decide +kernel) (by decide +kernel) (by decide) hy_t0_9 ?_
  show AR _ _ _ _ _ _ _ 4 [(0, .ref 0)] [.ref 15] h _ _
  refine AR.iconstT hk_123_4 (by decide) (fun z542 ez542 => ?_)
  show AR _ _ _ _ _ _ _ 5 [(0, .ref 0)] [.int z542, .ref 15] h _ _
  obtain ⟨vc, cc⟩ := p_c15 hH
  refine AR.jr (r := 15) (as := [.int z542]) (rest := []) hk_123_5 (by decide) (by decide +kernel) (by decide) cc rfl rfl (Nat.le_of_ble_eq_true rfl) (p_33 hlst hH hI) (by decide) (Nat.zero_le _) (Nat.zero_le _) ?_ (fun E h' q => by obtain ⟨-, _, e, -⟩ := q; cases e)
  rintro w g ⟨eg, r, er, hr⟩
  cases er
  obtain rfl := eg.symm
  show AR _ _ _ _ _ _ _ 8 [(0, .ref 0)] [.int r] h _ _
  exact AR.iret hk_123_8 hr_123 ⟨rfl, _, rfl, hr⟩
theorem p_124 (hlst : l.stackTraces = false) (hH : hy_H 0 h) (hI : pI h) : AM ax_ns l (ax_mm 124) 1 ty_R (0) (0) [.ref 0] h (fun res g => g = h ∧ ∃ z : Int32, res = .inl (some (.int z)) ∧ z.toInt = 0) := by
  refine AM.of (ax_mfacts (by decide +kernel : ax_has 124 = true)).2.2.2.2.2.2 hlst (by rw [hn_124]; exact Nat.le_of_ble_eq_true rfl) ?_
  show AR ax_ns l (ax_mm 124) 1 ty_R _ _ 0 [(0, .ref 0)] [] h (0) (0)
  refine AR.s (pc' := 1) (lv' := [(0, .ref 0)]) (st' := [.ref 0]) (h' := h) _ hn_124 hk_124_0 rfl ?_
  refine AR.gR hk_124_1 (by decide) hH (q := 0) (n := 18) (by decide) (by decide +kernel) (by decide +kernel) (by decide) hy_t0_9 ?_
  show AR _ _ _ _ _ _ _ 4 [(0, .ref 0)] [.ref 15] h _ _
  refine AR.iconstT hk_124_4 (by decide) (fun z543 ez543 => ?_)
  show AR _ _ _ _ _ _ _ 5 [(0, .ref 0)] [.int z543, .ref 15] h _ _
  obtain ⟨vc, cc⟩ := p_c15 hH
  refine AR.jr (r := 15) (as := [.int z543]) (rest := []) hk_124_5 (by decide) (by decide +kernel) (by decide) cc rfl rfl (Nat.le_of_ble_eq_true rfl) (p_33 hlst hH hI) (by decide) (Nat.zero_le _) (Nat.zero_le _) ?_ (fun E h' q => by obtain ⟨-, _, e, -⟩ := q; cases e)
  rintro w g ⟨eg, r, er, hr⟩
  cases er
  obtain rfl := eg.symm
  show AR _ _ _ _ _ _ _ 8 [(0, .ref 0)] [.int r] h _ _
  exact AR.iret hk_124_8 hr_124 ⟨rfl, _, rfl, hr⟩
theorem p_125 (hlst : l.stackTraces = false) {Y N : Nat} (hH : hy_H 0 h) (hI : pI h) (hx : x.toInt = Y) (hY : Y < 64) (hy : y.toInt = N) (hN : N < 64) : AM ax_ns l (ax_mm 125) 2 ty_R (0) (0) [.ref 0, .int x, .int y] h (fun res g => g = h ∧ ∃ z : Int32, res = .inl (some (.int z)) ∧ ((z.toInt = 1 ∧ ∃ w k, w < 64 ∧ k < 64 ∧ hm h Y N w k = true) ∨ (z.toInt = 0 ∧ ∀ w, w < 64 → ∀ k, k < 64 → hm h Y N w k = false))) := by
  refine AM.of (ax_mfacts (by decide +kernel : ax_has 125 = true)).2.2.2.2.2.2 hlst (by rw [hn_125]; exact Nat.le_of_ble_eq_true rfl) ?_
  show AR ax_ns l (ax_mm 125) 2 ty_R _ _ 0 [(0, .ref 0), (1, .int x), (2, .int y)] [] h (0) (0)
  refine AR.s (pc' := 1) (lv' := [(0, .ref 0), (1, .int x), (2, .int y)]) (st' := [.ref 0]) (h' := h) _ hn_125 hk_125_0 rfl ?_
  obtain ⟨v544, c544⟩ := p_c8 hH
  refine AR.jr (r := 0) (as := []) (rest := []) hk_125_1 (by decide) (by decide +kernel) (by decide) c544 rfl rfl (Nat.le_of_ble_eq_true rfl) (p_122 hlst hH hI) (by decide) (Nat.zero_le _) (Nat.zero_le _) ?_ (fun E h' q => by cases q.2)
  rintro w g ⟨eg, er⟩
  cases er
  obtain rfl := eg.symm
  show AR _ _ _ _ _ _ _ 4 [(0, .ref 0), (1, .int x), (2, .int y)] [.ref 147] h _ _
  refine AR.iconstT hk_125_4 (by decide) (fun z545 ez545 => ?_)
  show AR _ _ _ _ _ _ _ 5 [(0, .ref 0), (1, .int x), (2, .int y)] [.int z545, .ref 147] h _ _
  refine AR.s (pc' := 6) (lv' := [(0, .ref 0), (1, .int x), (2, .int y)]) (st' := [.ref 0, .int z545, .ref 147]) (h' := h) _ hn_125 hk_125_5 rfl ?_
  obtain ⟨v546, c546⟩ := p_c8 hH
  refine AR.jr (r := 0) (as := []) (rest := [.int z545, .ref 147]) hk_125_6 (by decide) (by decide +kernel) (by decide) c546 rfl rfl (Nat.le_of_ble_eq_true rfl) (p_123 hlst hH hI) (by decide) (Nat.zero_le _) (Nat.zero_le _) ?_ (fun E h' q => by obtain ⟨-, _, e, -⟩ := q; cases e)
  rintro w g ⟨eg, r547, er, hr547⟩
  cases er
  obtain rfl := eg.symm
  show AR _ _ _ _ _ _ _ 9 [(0, .ref 0), (1, .int x), (2, .int y)] [.int r547, .int z545, .ref 147] h _ _
  refine AR.s (pc' := 10) (lv' := [(0, .ref 0), (1, .int x), (2, .int y)]) (st' := [.int x, .int r547, .int z545, .ref 147]) (h' := h) _ hn_125 hk_125_9 rfl ?_
  refine AR.ior (z := .int (r547 ||| x)) (ax_look_ok hk_125_10).1 rfl ?_
  rw [show r547 = 0 from Int32.toInt_inj.mp hr547, Int32.zero_or]
  show AR _ _ _ _ _ _ _ 11 [(0, .ref 0), (1, .int x), (2, .int y)] [.int x, .int z545, .ref 147] h _ _
  refine AR.s (pc' := 12) (lv' := [(0, .ref 0), (1, .int x), (2, .int y)]) (st' := [.ref 0, .int x, .int z545, .ref 147]) (h' := h) _ hn_125 hk_125_11 rfl ?_
  obtain ⟨v548, c548⟩ := p_c8 hH
  refine AR.jr (r := 0) (as := []) (rest := [.int x, .int z545, .ref 147]) hk_125_12 (by decide) (by decide +kernel) (by decide) c548 rfl rfl (Nat.le_of_ble_eq_true rfl) (p_124 hlst hH hI) (by decide) (Nat.zero_le _) (Nat.zero_le _) ?_ (fun E h' q => by obtain ⟨-, _, e, -⟩ := q; cases e)
  rintro w g ⟨eg, r549, er, hr549⟩
  cases er
  obtain rfl := eg.symm
  show AR _ _ _ _ _ _ _ 15 [(0, .ref 0), (1, .int x), (2, .int y)] [.int r549, .int x, .int z545, .ref 147] h _ _
  refine AR.s (pc' := 16) (lv' := [(0, .ref 0), (1, .int x), (2, .int y)]) (st' := [.int y, .int r549, .int x, .int z545, .ref 147]) (h' := h) _ hn_125 hk_125_15 rfl ?_
  refine AR.ior (z := .int (r549 ||| y)) (ax_look_ok hk_125_16).1 rfl ?_
  rw [show r549 = 0 from Int32.toInt_inj.mp hr549, Int32.zero_or]
  show AR _ _ _ _ _ _ _ 17 [(0, .ref 0), (1, .int x), (2, .int y)] [.int y, .int x, .int z545, .ref 147] h _ _
  obtain ⟨vm, cm⟩ := p_c147 hH
  refine AR.jr (r := 147) (as := [.int z545, .int x, .int y]) (rest := []) hk_125_17 (by decide) (by decide +kernel) (by decide) cm rfl rfl (Nat.le_of_ble_eq_true rfl) (p_44 hlst hH (by omega) hx hY hy hN) (by decide) (Nat.zero_le _) (Nat.zero_le _) ?_ (fun E h' q => by obtain ⟨-, _, e, -⟩ := q; cases e)
  rintro w g ⟨eg, r, er, hr⟩
  cases er
  obtain rfl := eg.symm
  show AR _ _ _ _ _ _ _ 20 [(0, .ref 0), (1, .int x), (2, .int y)] [.int r] h _ _
  refine AR.zlt hk_125_20 (tgt := 27) (by decide) (fun p1 => ?_) (fun p2 => ?_)
  · refine AR.iconstT hk_125_27 (by decide) (fun z550 ez550 => ?_)
    show AR _ _ _ _ _ _ _ 28 [(0, .ref 0), (1, .int x), (2, .int y)] [.int z550] h _ _
    exact AR.zret hk_125_28 hr_125 (Or.inl (by omega)) ⟨rfl, _, rfl, Or.inr ⟨by omega, by rcases hr with ⟨e, -⟩ | ⟨-, e⟩; exact absurd e (by omega); exact e⟩⟩
  · refine AR.iconstT hk_125_23 (by decide) (fun z551 ez551 => ?_)
    show AR _ _ _ _ _ _ _ 24 [(0, .ref 0), (1, .int x), (2, .int y)] [.int z551] h _ _
    refine AR.gotoT hk_125_24 (tgt := 28) (by decide) ?_
    exact AR.zret hk_125_28 hr_125 (Or.inr (by omega)) ⟨rfl, _, rfl, Or.inl ⟨by omega, by rcases hr with ⟨-, e⟩ | ⟨e, -⟩; exact e; exact absurd e (by omega)⟩⟩
theorem p_101 (hlst : l.stackTraces = false) (hH : hy_H 0 h) (hI : pI h) : AM ax_ns l (ax_mm 101) 2 ty_R (0) (0) [.ref 0] h (pq_45 h) := by
  refine AM.of (ax_mfacts (by decide +kernel : ax_has 101 = true)).2.2.2.2.2.2 hlst (by rw [hn_101]; exact Nat.le_of_ble_eq_true rfl) ?_
  show AR ax_ns l (ax_mm 101) 2 ty_R _ _ 0 [(0, .ref 0)] [] h (0) (0)
  refine AR.s (pc' := 1) (lv' := [(0, .ref 0)]) (st' := [.ref 0]) (h' := h) _ hn_101 hk_101_0 rfl ?_
  obtain ⟨v552, c552⟩ := p_c8 hH
  refine AR.jr (r := 0) (as := []) (rest := []) hk_101_1 (by decide) (by decide +kernel) (by decide) c552 rfl rfl (Nat.le_of_ble_eq_true rfl) (p_122 hlst hH hI) (by decide) (Nat.zero_le _) (Nat.zero_le _) ?_ (fun E h' q => by cases q.2)
  rintro w g ⟨eg, er⟩
  cases er
  obtain rfl := eg.symm
  show AR _ _ _ _ _ _ _ 4 [(0, .ref 0)] [.ref 147] h _ _
  refine AR.s (pc' := 5) (lv' := [(0, .ref 0)]) (st' := [.ref 0, .ref 147]) (h' := h) _ hn_101 hk_101_4 rfl ?_
  obtain ⟨v553, c553⟩ := p_c8 hH
  refine AR.jr (r := 0) (as := []) (rest := [.ref 147]) hk_101_5 (by decide) (by decide +kernel) (by decide) c553 rfl rfl (Nat.le_of_ble_eq_true rfl) (p_123 hlst hH hI) (by decide) (Nat.zero_le _) (Nat.zero_le _) ?_ (fun E h' q => by obtain ⟨-, _, e, -⟩ := q; cases e)
  rintro w g ⟨eg, r554, er, hr554⟩
  cases er
  obtain rfl := eg.symm
  show AR _ _ _ _ _ _ _ 8 [(0, .ref 0)] [.int r554, .ref 147] h _ _
  refine AR.s (pc' := 9) (lv' := [(0, .ref 0)]) (st' := [.ref 0, .int r554, .ref 147]) (h' := h) _ hn_101 hk_101_8 rfl ?_
  obtain ⟨v555, c555⟩ := p_c8 hH
  refine AR.jr (r := 0) (as := []) (rest := [.int r554, .ref 147]) hk_101_9 (by decide) (by decide +kernel) (by decide) c555 rfl rfl (Nat.le_of_ble_eq_true rfl) (p_124 hlst hH hI) (by decide) (Nat.zero_le _) (Nat.zero_le _) ?_ (fun E h' q => by obtain ⟨-, _, e, -⟩ := q; cases e)
  rintro w g ⟨eg, r556, er, hr556⟩
  cases er
  obtain rfl := eg.symm
  show AR _ _ _ _ _ _ _ 12 [(0, .ref 0)] [.int r556, .int r554, .ref 147] h _ _
  obtain ⟨vm, cm⟩ := p_c147 hH
  refine AR.jr (r := 147) (as := [.int r554, .int r556]) (rest := []) hk_101_12 (by decide) (by decide +kernel) (by decide) cm rfl rfl (Nat.le_of_ble_eq_true rfl) (p_45 hlst hH hr554 hr556) (by decide) (Nat.zero_le _) (Nat.zero_le _) ?_ (fun E h' q => by obtain ⟨-, _, e, -⟩ := q; cases e)
  rintro w g ⟨eg, r, er, hr⟩
  cases er
  obtain rfl := eg.symm
  show AR _ _ _ _ _ _ _ 15 [(0, .ref 0)] [.int r] h _ _
  exact AR.iret hk_101_15 hr_101 ⟨rfl, _, rfl, hr⟩
theorem AR.alT {i d pc q n : Nat} {P : ax_P} {X : ax_PX} {lv : List (Nat × Value)} {st : List Value} {bc bs : Nat} {v : Value} {ws : List Nat} {w : Nat × Nat × Nat} (hl : ax_look i pc = some (.arraylength, w, v, ws)) (hH : hy_H 0 h) (hq : q < 181) (ht : (ty_tab q).1 = 101) (hn : (ty_tab q).2.1 = n) (hn2 : n < 1000) (k : ∀ z : Int32, z.toInt = n → AR ax_ns l (ax_mm i) d ty_R P X (pc + 1) lv (.int z :: st) h bc bs) : AR ax_ns l (ax_mm i) d ty_R P X pc lv (.ref q :: st) h bc bs := by
  obtain ⟨vs, e1, e2, -⟩ := hy_cell hH hq
  rw [ht] at e1
  refine AR.s (pc' := pc + 1) (lv' := lv) (st' := .int vs.length.toInt32 :: st) (h' := h) _ rfl hl ?_ (k _ ?_)
  · simp only [ax_one, ax_get_lt (show q < 1000000000 by omega), e1]
    rfl
  · show (Int32.ofNat vs.length).toInt = _
    rw [Int32.toInt_ofNat_of_lt (by omega)]
    omega
def pq_254 (h : ax_H) (m : Int) : ax_Q := fun res g => res = .inl none ∧ hy_H 0 g ∧ pf [9] h g ∧ ∀ k, k < 24 → hy_z g 9 k = m
theorem p254_L (hlst : l.stackTraces = false) {X : ax_PX} {m : Int64} {u : Int32} (hu : u.toInt = 24) : ∀ (n : Nat) (g : ax_H) (i : Int32), i.toInt + n = 24 → 0 ≤ i.toInt → hy_H 0 g → pf [9] h g → (∀ k : Nat, (k : Int) < i.toInt → hy_z g 9 k = m.toInt) → AR ax_ns l (ax_mm 254) 0 ty_R (ax_ret ax_ns (ax_mm 254) (pq_254 h m.toInt)) X 6 [(4, .int u), (3, .int i), (1, .long m), (0, .ref 9)] [] g 0 0 := by
  intro n
  induction n with
  | zero =>
    intro g i hn i0 Hg Pg hv
    have Fg : ty_F pW g g := ty_F_refl _ _
    show AR _ _ _ _ _ _ _ 6 [(4, .int u), (3, .int i), (1, .long m), (0, .ref 9)] [] g _ _
    refine AR.s (pc' := 7) (lv' := [(4, .int u), (3, .int i), (1, .long m), (0, .ref 9)]) (st' := [.int i]) (h' := g) _ hn_254 hk_254_6 rfl ?_
    refine AR.s (pc' := 9) (lv' := [(4, .int u), (3, .int i), (1, .long m), (0, .ref 9)]) (st' := [.int u, .int i]) (h' := g) _ hn_254 hk_254_7 rfl ?_
    refine AR.jge hk_254_9 (tgt := 22) (by decide) (fun p1 => ?_) (fun p2 => ?_)
    · exact AR.vret hk_254_22 hr_254 ⟨rfl, Hg, Pg, fun k hk => hv k (by omega)⟩
    · exact absurd p2 (by omega)
  | succ n ih =>
    intro g i hn i0 Hg Pg hv
    have Fg : ty_F pW g g := ty_F_refl _ _
    show AR _ _ _ _ _ _ _ 6 [(4, .int u), (3, .int i), (1, .long m), (0, .ref 9)] [] g _ _
    refine AR.s (pc' := 7) (lv' := [(4, .int u), (3, .int i), (1, .long m), (0, .ref 9)]) (st' := [.int i]) (h' := g) _ hn_254 hk_254_6 rfl ?_
    refine AR.s (pc' := 9) (lv' := [(4, .int u), (3, .int i), (1, .long m), (0, .ref 9)]) (st' := [.int u, .int i]) (h' := g) _ hn_254 hk_254_7 rfl ?_
    refine AR.jge hk_254_9 (tgt := 22) (by decide) (fun p1 => ?_) (fun p2 => ?_)
    · exact absurd p1 (by omega)
    · refine AR.s (pc' := 13) (lv' := [(4, .int u), (3, .int i), (1, .long m), (0, .ref 9)]) (st' := [.ref 9]) (h' := g) _ hn_254 hk_254_12 rfl ?_
      refine AR.s (pc' := 14) (lv' := [(4, .int u), (3, .int i), (1, .long m), (0, .ref 9)]) (st' := [.int i, .ref 9]) (h' := g) _ hn_254 hk_254_13 rfl ?_
      refine AR.s (pc' := 15) (lv' := [(4, .int u), (3, .int i), (1, .long m), (0, .ref 9)]) (st' := [.long m, .int i, .ref 9]) (h' := g) _ hn_254 hk_254_14 rfl ?_
      have r557a := Int64.le_toInt m
      have r557b := Int64.toInt_lt m
      refine AR.lsT hk_254_15 Hg Fg (q := 9) (n := 24) (by decide) (by decide +kernel) (by decide +kernel) (by decide +kernel) hy_t9_0 (by omega) (by omega) (by omega) (by omega) (by decide +kernel) ?_
      rintro g558 ⟨Hg558, Fg558, Gg558, Eg558⟩
      show AR _ _ _ _ _ _ _ 16 [(4, .int u), (3, .int i), (1, .long m), (0, .ref 9)] [] g558 _ _
      have pg558 : pf [9] h g558 := pf_st Pg Gg558.1 Eg558 (by simp)
      have y1 := hz_put Eg558
      refine AR.iincT hk_254_16 (x := i) rfl (by rw [hn_254]; decide) (by decide) (by omega) (by omega) (fun z559 ez559 => ?_)
      show AR _ _ _ _ _ _ _ 19 [(3, .int z559), (4, .int u), (1, .long m), (0, .ref 9)] [] g558 _ _
      refine AR.gotoT hk_254_19 (tgt := 6) (by decide) ?_
      refine AR.lessL (lv' := [(4, .int u), (3, .int z559), (1, .long m), (0, .ref 9)]) (List.forall_mem_cons.mpr ⟨⟨_, by simp, ax_le_rfl rfl⟩, (List.forall_mem_cons.mpr ⟨⟨_, by simp, ax_le_rfl rfl⟩, (List.forall_mem_cons.mpr ⟨⟨_, by simp, ax_le_rfl rfl⟩, (List.forall_mem_cons.mpr ⟨⟨_, by simp, ax_le_rfl rfl⟩, (fun _ h => absurd h List.not_mem_nil)⟩)⟩)⟩)⟩) ?_
      refine ih g558 z559 (by omega) (by omega) Hg558 pg558 (fun k hk => ?_)
      rw [y1]
      by_cases e : k = i.toInt.toNat
      · rw [if_pos e]
      · rw [if_neg e]; exact hv k (by omega)
theorem p_254 (hlst : l.stackTraces = false) {m : Int64} (hH : hy_H 0 h) : AM ax_ns l (ax_mm 254) 0 ty_R (0) (0) [.ref 9, .long m] h (pq_254 h m.toInt) := by
  refine AM.of (ax_mfacts (by decide +kernel : ax_has 254 = true)).2.2.2.2.2.2 hlst (by rw [hn_254]; exact Nat.le_of_ble_eq_true rfl) ?_
  show AR ax_ns l (ax_mm 254) 0 ty_R _ _ 0 [(0, .ref 9), (1, .long m)] [] h (0) (0)
  refine AR.iconstT hk_254_0 (by decide) (fun z560 ez560 => ?_)
  show AR _ _ _ _ _ _ _ 1 [(0, .ref 9), (1, .long m)] [.int z560] h _ _
  refine AR.s (pc' := 2) (lv' := [(3, .int z560), (0, .ref 9), (1, .long m)]) (st' := []) (h' := h) _ hn_254 hk_254_1 rfl ?_
  refine AR.s (pc' := 3) (lv' := [(3, .int z560), (0, .ref 9), (1, .long m)]) (st' := [.ref 9]) (h' := h) _ hn_254 hk_254_2 rfl ?_
  refine AR.alT hk_254_3 hH (q := 9) (n := 24) (by decide) (by decide +kernel) (by decide +kernel) (by decide) (fun z561 ez561 => ?_)
  show AR _ _ _ _ _ _ _ 4 [(3, .int z560), (0, .ref 9), (1, .long m)] [.int z561] h _ _
  refine AR.s (pc' := 6) (lv' := [(4, .int z561), (3, .int z560), (0, .ref 9), (1, .long m)]) (st' := []) (h' := h) _ hn_254 hk_254_4 rfl ?_
  refine AR.lessL (lv' := [(4, .int z561), (3, .int z560), (1, .long m), (0, .ref 9)]) (List.forall_mem_cons.mpr ⟨⟨_, by simp, ax_le_rfl rfl⟩, (List.forall_mem_cons.mpr ⟨⟨_, by simp, ax_le_rfl rfl⟩, (List.forall_mem_cons.mpr ⟨⟨_, by simp, ax_le_rfl rfl⟩, (List.forall_mem_cons.mpr ⟨⟨_, by simp, ax_le_rfl rfl⟩, (fun _ h => absurd h List.not_mem_nil)⟩)⟩)⟩)⟩) ?_
  exact p254_L hlst (by omega) 24 h z560 (by omega) (by omega) hH (pf_r _ _) (fun k hk => absurd hk (by omega))
def pq_20 (h : ax_H) : ax_Q := fun res g => res = .inl none ∧ hy_H 0 g ∧ pf [8, 9] h g ∧ hy_z g 8 1 = 0 ∧ ∀ k, k < 24 → hy_z g 9 k = 0
theorem p_20 (hlst : l.stackTraces = false) (hH : hy_H 0 h) : AM ax_ns l (ax_mm 20) 1 ty_R (0) (0) [.ref 8] h (pq_20 h) := by
  refine AM.of (ax_mfacts (by decide +kernel : ax_has 20 = true)).2.2.2.2.2.2 hlst (by rw [hn_20]; exact Nat.le_of_ble_eq_true rfl) ?_
  show AR ax_ns l (ax_mm 20) 1 ty_R _ _ 0 [(0, .ref 8)] [] h (0) (0)
  refine AR.s (pc' := 1) (lv' := [(0, .ref 8)]) (st' := [.ref 8]) (h' := h) _ hn_20 hk_20_0 rfl ?_
  refine AR.gR hk_20_1 (by decide) hH (q := 8) (n := 2) (by decide) (by decide +kernel) (by decide +kernel) (by decide) hy_t8_0 ?_
  show AR _ _ _ _ _ _ _ 4 [(0, .ref 8)] [.ref 9] h _ _
  refine AR.lconstT hk_20_4 (fun z562 ez562 => ?_)
  have kz562 : z562 = 0 := Int64.toInt_inj.mp (ez562.trans rfl)
  show AR _ _ _ _ _ _ _ 5 [(0, .ref 8)] [.long z562, .ref 9] h _ _
  refine AR.cs (as := [.ref 9, .long z562]) (rest := []) hk_20_5 (by decide +kernel) rfl rfl (Nat.le_of_ble_eq_true rfl) (p_254 hlst hH) (by decide) (Nat.zero_le _) (Nat.zero_le _) (fun E h' q => by cases q.1) ?_
  rintro w g ⟨e, Hg, Pg, hv⟩
  cases e
  have Fg : ty_F pW g g := ty_F_refl _ _
  have Qg : pf [8, 9] h g := pf.tr (pf_r _ _) Pg (by simp)
  show AR _ _ _ _ _ _ _ 8 [(0, .ref 8)] [] g _ _
  refine AR.s (pc' := 9) (lv' := [(0, .ref 8)]) (st' := [.ref 8]) (h' := g) _ hn_20 hk_20_8 rfl ?_
  refine AR.lconstT hk_20_9 (fun z563 ez563 => ?_)
  have kz563 : z563 = 0 := Int64.toInt_inj.mp (ez563.trans rfl)
  show AR _ _ _ _ _ _ _ 10 [(0, .ref 8)] [.long z563, .ref 8] g _ _
  have r564a := Int64.le_toInt z563
  have r564b := Int64.toInt_lt z563
  refine AR.pT hk_20_10 (by decide) Hg Fg (q := 8) (by decide) (by decide +kernel) (show ax_cls[2]? = some hy_c2 from rfl) (by decide +kernel) (by decide) rfl (by rw [hy_t8_1]; exact ⟨_, rfl, by omega, by omega, Or.inl rfl⟩) (by decide +kernel) (by decide +kernel) ?_
  rintro g565 ⟨Hg565, Fg565, Gg565, Eg565⟩
  show AR _ _ _ _ _ _ _ 13 [(0, .ref 8)] [] g565 _ _
  have pg565 : pf [8, 9] h g565 := pf_st Qg Gg565.1 Eg565 (by simp)
  have u8 : hy_z g565 8 1 = z563.toInt := hy_zl (i := z563) (by rw [Eg565, if_pos ⟨rfl, rfl⟩])
  have u9 : ∀ k, hy_z g565 9 k = hy_z g 9 k := fun k => hy_ze (by rw [Eg565, if_neg (fun c => absurd c.1 (by decide))])
  exact AR.vret hk_20_13 hr_20 ⟨rfl, Hg565, pg565, by omega, fun k hk => by rw [u9, hv k hk]; omega⟩
theorem p_x1a : ∀ n, n < 24 → Int32.ofNat n ^^^ 1 = Int32.ofNat (n ^^^ 1) ∧ n ^^^ 1 < 24 := by decide +kernel
theorem p_x1 {x z : Int32} {n : Nat} (hx : x.toInt = n) (hn : n < 24) (hz : z.toInt = 1) : (x ^^^ z).toInt = ((n ^^^ 1 : Nat) : Int) ∧ n ^^^ 1 < 24 := by
  have a := p_x1a n hn
  rw [p_of hx (by omega), show z = 1 from Int32.toInt_inj.mp (hz.trans (by decide)), a.1]
  exact ⟨Int32.toInt_ofNat_of_lt (by omega), a.2⟩
def pq_21 (h : ax_H) (n : Nat) (c : Int) : ax_Q := fun res g => res = .inl none ∧ hy_H 0 g ∧ pf [8, 9] h g ∧ hy_z g 8 1 = hy_z h 8 1 + max 0 (-c) ∧ ∀ k, hy_z g 9 k = if k = n then hy_z h 9 k + max 0 c else if k = n ^^^ 1 then hy_z h 9 k + max 0 (-c) else hy_z h 9 k
theorem p_xn : ∀ n, n < 24 → ¬ (n = n ^^^ 1) := by decide +kernel
theorem p_21 (hlst : l.stackTraces = false) {m : Int64} {n : Nat} (hH : hy_H 0 h) (hx : x.toInt = n) (hn : n < 24) (hm : -2000000000 ≤ m.toInt ∧ m.toInt ≤ 2000000000) (h9 : ∀ k, k < 24 → -1000000000000 ≤ hy_z h 9 k ∧ hy_z h 9 k ≤ 1000000000000) (h8 : -1000000000000 ≤ hy_z h 8 1 ∧ hy_z h 8 1 ≤ 1000000000000) : AM ax_ns l (ax_mm 21) 0 ty_R (0) (0) [.ref 8, .int x, .long m] h (pq_21 h n m.toInt) := by
  refine AM.of (ax_mfacts (by decide +kernel : ax_has 21 = true)).2.2.2.2.2.2 hlst (by rw [hn_21]; exact Nat.le_of_ble_eq_true rfl) ?_
  show AR ax_ns l (ax_mm 21) 0 ty_R _ _ 0 [(0, .ref 8), (1, .int x), (2, .long m)] [] h (0) (0)
  have F : ty_F pW h h := ty_F_refl _ _
  have P0 : pf [8, 9] h h := pf_r _ _
  have xn : ∀ k, k = n ^^^ 1 → k ≠ n := fun k e c => by rw [c] at e; exact absurd e (p_xn n hn)
  refine AR.s (pc' := 1) (lv' := [(0, .ref 8), (1, .int x), (2, .long m)]) (st' := [.long m]) (h' := h) _ hn_21 hk_21_0 rfl ?_
  refine AR.lconstT hk_21_1 (fun z566 ez566 => ?_)
  have kz566 : z566 = 0 := Int64.toInt_inj.mp (ez566.trans rfl)
  show AR _ _ _ _ _ _ _ 2 [(0, .ref 8), (1, .int x), (2, .long m)] [.long z566, .long m] h _ _
  refine AR.lcmpT hk_21_2 (fun c cc => ?_)
  obtain ⟨cc1, cc2, cc3⟩ := cc
  have zz : z566.toInt = 0 := by rw [kz566]; rfl
  show AR _ _ _ _ _ _ _ 3 [(0, .ref 8), (1, .int x), (2, .long m)] [.int c] h _ _
  refine AR.zge hk_21_3 (tgt := 31) (by decide) (fun p1 => ?_) (fun p2 => ?_)
  · have m0 : 0 ≤ m.toInt := by rcases Int.lt_or_le m.toInt 0 with w | w; have := cc1 (by omega); omega; exact w
    have xk : x.toNatClampNeg = n := by show x.toInt.toNat = n; omega
    have h91 := h9 n hn
    refine AR.s (pc' := 32) (lv' := [(0, .ref 8), (1, .int x), (2, .long m)]) (st' := [.ref 8]) (h' := h) _ hn_21 hk_21_31 rfl ?_
    refine AR.gR hk_21_32 (by decide) hH (q := 8) (n := 2) (by decide) (by decide +kernel) (by decide +kernel) (by decide) hy_t8_0 ?_
    show AR _ _ _ _ _ _ _ 35 [(0, .ref 8), (1, .int x), (2, .long m)] [.ref 9] h _ _
    refine AR.s (pc' := 36) (lv' := [(0, .ref 8), (1, .int x), (2, .long m)]) (st' := [.int x, .ref 9]) (h' := h) _ hn_21 hk_21_35 rfl ?_
    refine AR.dup2 (ax_look_ok hk_21_36).1 rfl rfl ?_
    show AR _ _ _ _ _ _ _ 37 [(0, .ref 8), (1, .int x), (2, .long m)] [.int x, .ref 9, .int x, .ref 9] h _ _
    refine AR.laI hk_21_37 hH (q := 9) (n := 24) (by decide) (by decide +kernel) (by decide +kernel) (by decide +kernel) hy_t9_0 (by omega) (by omega) (fun x567 dx567 lx567 ux567 => ?_)
    show AR _ _ _ _ _ _ _ 38 [(0, .ref 8), (1, .int x), (2, .long m)] [.long x567, .int x, .ref 9] h _ _
    rw [xk] at dx567
    have xe := hy_zl dx567
    show AR _ _ _ _ _ _ _ 38 [(0, .ref 8), (1, .int x), (2, .long m)] [.long x567, .int x, .ref 9] h _ _
    refine AR.s (pc' := 39) (lv' := [(0, .ref 8), (1, .int x), (2, .long m)]) (st' := [.long m, .long x567, .int x, .ref 9]) (h' := h) _ hn_21 hk_21_38 rfl ?_
    refine AR.laddT hk_21_39 (by omega) (by omega) (fun z568 ez568 => ?_)
    show AR _ _ _ _ _ _ _ 40 [(0, .ref 8), (1, .int x), (2, .long m)] [.long z568, .int x, .ref 9] h _ _
    have r569a := Int64.le_toInt z568
    have r569b := Int64.toInt_lt z568
    refine AR.lsT hk_21_40 hH F (q := 9) (n := 24) (by decide) (by decide +kernel) (by decide +kernel) (by decide +kernel) hy_t9_0 (by omega) (by omega) (by omega) (by omega) (by decide +kernel) ?_
    rintro g570 ⟨Hg570, Fg570, Gg570, Eg570⟩
    show AR _ _ _ _ _ _ _ 41 [(0, .ref 8), (1, .int x), (2, .long m)] [] g570 _ _
    have pg570 : pf [8, 9] h g570 := pf_st P0 Gg570.1 Eg570 (by simp)
    have y1 := hz_put Eg570
    have y8 : hy_z g570 8 1 = hy_z h 8 1 := hy_ze (by rw [Eg570, if_neg (fun c => absurd c.1 (by decide))])
    refine AR.vret hk_21_41 hr_21 ⟨rfl, Hg570, pg570, by omega, fun k => ?_⟩
    rw [y1]
    by_cases e : k = n
    · rw [if_pos (by omega), if_pos e, e]; omega
    · rw [if_neg (by omega), if_neg e]; split <;> omega
  · have m0 : m.toInt < 0 := by rcases Int.lt_trichotomy m.toInt 0 with w | w | w; exact w; have := cc2 (by omega); omega; have := cc3 (by omega); omega
    refine AR.s (pc' := 7) (lv' := [(0, .ref 8), (1, .int x), (2, .long m)]) (st' := [.ref 8]) (h' := h) _ hn_21 hk_21_6 rfl ?_
    refine AR.gR hk_21_7 (by decide) hH (q := 8) (n := 2) (by decide) (by decide +kernel) (by decide +kernel) (by decide) hy_t8_0 ?_
    show AR _ _ _ _ _ _ _ 10 [(0, .ref 8), (1, .int x), (2, .long m)] [.ref 9] h _ _
    refine AR.s (pc' := 11) (lv' := [(0, .ref 8), (1, .int x), (2, .long m)]) (st' := [.int x, .ref 9]) (h' := h) _ hn_21 hk_21_10 rfl ?_
    refine AR.iconstT hk_21_11 (by decide) (fun z571 ez571 => ?_)
    show AR _ _ _ _ _ _ _ 12 [(0, .ref 8), (1, .int x), (2, .long m)] [.int z571, .int x, .ref 9] h _ _
    obtain ⟨x1, x2⟩ := p_x1 hx hn ez571
    refine AR.ixor (z := .int (x ^^^ z571)) (ax_look_ok hk_21_12).1 rfl ?_
    generalize x ^^^ z571 = q at x1
    show AR _ _ _ _ _ _ _ 13 [(0, .ref 8), (1, .int x), (2, .long m)] [.int q, .ref 9] h _ _
    have xk : q.toNatClampNeg = n ^^^ 1 := by show q.toInt.toNat = _; omega
    have h91 := h9 (n ^^^ 1) x2
    show AR _ _ _ _ _ _ _ 13 [(0, .ref 8), (1, .int x), (2, .long m)] [.int q, .ref 9] h _ _
    refine AR.dup2 (ax_look_ok hk_21_13).1 rfl rfl ?_
    show AR _ _ _ _ _ _ _ 14 [(0, .ref 8), (1, .int x), (2, .long m)] [.int q, .ref 9, .int q, .ref 9] h _ _
    refine AR.laI hk_21_14 hH (q := 9) (n := 24) (by decide) (by decide +kernel) (by decide +kernel) (by decide +kernel) hy_t9_0 (by omega) (by omega) (fun x572 dx572 lx572 ux572 => ?_)
    show AR _ _ _ _ _ _ _ 15 [(0, .ref 8), (1, .int x), (2, .long m)] [.long x572, .int q, .ref 9] h _ _
    rw [xk] at dx572
    have xe := hy_zl dx572
    show AR _ _ _ _ _ _ _ 15 [(0, .ref 8), (1, .int x), (2, .long m)] [.long x572, .int q, .ref 9] h _ _
    refine AR.s (pc' := 16) (lv' := [(0, .ref 8), (1, .int x), (2, .long m)]) (st' := [.long m, .long x572, .int q, .ref 9]) (h' := h) _ hn_21 hk_21_15 rfl ?_
    refine AR.lsubT hk_21_16 (by omega) (by omega) (fun z573 ez573 => ?_)
    show AR _ _ _ _ _ _ _ 17 [(0, .ref 8), (1, .int x), (2, .long m)] [.long z573, .int q, .ref 9] h _ _
    have r574a := Int64.le_toInt z573
    have r574b := Int64.toInt_lt z573
    refine AR.lsT hk_21_17 hH F (q := 9) (n := 24) (by decide) (by decide +kernel) (by decide +kernel) (by decide +kernel) hy_t9_0 (by omega) (by omega) (by omega) (by omega) (by decide +kernel) ?_
    rintro g575 ⟨Hg575, Fg575, Gg575, Eg575⟩
    show AR _ _ _ _ _ _ _ 18 [(0, .ref 8), (1, .int x), (2, .long m)] [] g575 _ _
    have pg575 : pf [8, 9] h g575 := pf_st P0 Gg575.1 Eg575 (by simp)
    have y1 := hz_put Eg575
    have y8 : hy_z g575 8 1 = hy_z h 8 1 := hy_ze (by rw [Eg575, if_neg (fun c => absurd c.1 (by decide))])
    show AR _ _ _ _ _ _ _ 18 [(0, .ref 8), (1, .int x), (2, .long m)] [] g575 _ _
    refine AR.s (pc' := 19) (lv' := [(0, .ref 8), (1, .int x), (2, .long m)]) (st' := [.ref 8]) (h' := g575) _ hn_21 hk_21_18 rfl ?_
    refine AR.s (pc' := 20) (lv' := [(0, .ref 8), (1, .int x), (2, .long m)]) (st' := [.ref 8, .ref 8]) (h' := g575) _ hn_21 hk_21_19 rfl ?_
    refine AR.gL hk_21_20 (by decide) Hg575 (q := 8) (n := 2) (by decide) (by decide +kernel) (by decide +kernel) (by decide) hy_t8_1 (fun x576 dx576 lx576 ux576 => ?_)
    show AR _ _ _ _ _ _ _ 23 [(0, .ref 8), (1, .int x), (2, .long m)] [.long x576, .ref 8] g575 _ _
    have sx576 := hy_zl dx576
    refine AR.s (pc' := 24) (lv' := [(0, .ref 8), (1, .int x), (2, .long m)]) (st' := [.long m, .long x576, .ref 8]) (h' := g575) _ hn_21 hk_21_23 rfl ?_
    refine AR.lsubT hk_21_24 (by omega) (by omega) (fun z577 ez577 => ?_)
    show AR _ _ _ _ _ _ _ 25 [(0, .ref 8), (1, .int x), (2, .long m)] [.long z577, .ref 8] g575 _ _
    have r578a := Int64.le_toInt z577
    have r578b := Int64.toInt_lt z577
    refine AR.pT hk_21_25 (by decide) Hg575 Fg575 (q := 8) (by decide) (by decide +kernel) (show ax_cls[2]? = some hy_c2 from rfl) (by decide +kernel) (by decide) rfl (by rw [hy_t8_1]; exact ⟨_, rfl, by omega, by omega, Or.inl rfl⟩) (by decide +kernel) (by decide +kernel) ?_
    rintro g579 ⟨Hg579, Fg579, Gg579, Eg579⟩
    show AR _ _ _ _ _ _ _ 28 [(0, .ref 8), (1, .int x), (2, .long m)] [] g579 _ _
    have pg579 : pf [8, 9] h g579 := pf_st pg575 Gg579.1 Eg579 (by simp)
    have u8 : hy_z g579 8 1 = z577.toInt := hy_zl (i := z577) (by rw [Eg579, if_pos ⟨rfl, rfl⟩])
    have u9 : ∀ k, hy_z g579 9 k = hy_z g575 9 k := fun k => hy_ze (by rw [Eg579, if_neg (fun c => absurd c.1 (by decide))])
    refine AR.gotoT hk_21_28 (tgt := 41) (by decide) ?_
    refine AR.vret hk_21_41 hr_21 ⟨rfl, Hg579, pg579, by omega, fun k => ?_⟩
    rw [u9, y1]
    by_cases e : k = n ^^^ 1
    · rw [if_pos (by omega), if_neg (xn k e), if_pos e, e]; omega
    · rw [if_neg (by omega), if_neg e]; split <;> omega
abbrev hy_c0 : ax_Cl := (RX0, TX0, 2, tyX0)
theorem p_sr1a : ∀ n, n < 24 → Int32.ofNat n >>> ((1 : Int32) &&& 31) = Int32.ofNat (n / 2) := by decide +kernel
theorem p_sr1 {x o : Int32} (h0 : 0 ≤ x.toInt) (h1 : x.toInt ≤ 23) (ho : o.toInt = 1) : 0 ≤ (x >>> (o &&& 31)).toInt ∧ (x >>> (o &&& 31)).toInt ≤ 11 := by
  have e := p_sr1a x.toInt.toNat (by omega)
  rw [← p_of (i := x) (n := x.toInt.toNat) (by omega) (by omega)] at e
  rw [show o = 1 from Int32.toInt_inj.mp (ho.trans (by decide)), e]
  have := Int32.toInt_ofNat_of_lt (n := x.toInt.toNat / 2) (by omega)
  omega
theorem p_an1 {x o : Int32} (ho : o.toInt = 1) : 0 ≤ (x &&& o).toInt ∧ (x &&& o).toInt ≤ 1 := by
  rw [show o = 1 from Int32.toInt_inj.mp (ho.trans (by decide))]
  have h1 : (x &&& 1).toBitVec.toNat ≤ 1 := by
    rw [Int32.toBitVec_and, BitVec.toNat_and]
    exact Nat.and_le_right
  have h2 : (x &&& 1).toInt = ((x &&& 1).toBitVec.toNat : Int) := by
    show (x &&& 1).toBitVec.toInt = _
    rw [BitVec.toInt_eq_toNat_bmod]
    exact Int.bmod_eq_of_le (by show -_ ≤ ((x &&& 1).toBitVec.toNat : Int); omega) (by show ((x &&& 1).toBitVec.toNat : Int) < _; omega)
  omega
theorem p_c17 (hH : hy_H 0 h) : ∃ vs, h[17]? = some (0, vs) := by
  obtain ⟨vs, e1, -⟩ := hy_cell hH (q := 17) (by decide)
  rw [show (ty_tab 17).1 = 0 from by decide +kernel] at e1
  exact ⟨vs, e1⟩
theorem p_cp {p : Nat} (hH : hy_H 0 h) (PC : pc_ok p) : ∃ vs, h[p]? = some (1, vs) := by
  obtain ⟨vs, e1, -⟩ := hy_cell hH (q := p) (by have := PC.2.1; omega)
  rw [PC.2.2.1] at e1
  exact ⟨vs, e1⟩
/-- a truth value comes back, nothing has changed -/
def pq_b (h : ax_H) : ax_Q := fun res g => g = h ∧ ∃ z : Int32, res = .inl (some (.int z)) ∧ (z.toInt = 0 ∨ z.toInt = 1)
def pq_v (h : ax_H) : ax_Q := fun res g => res = .inl none ∧ hy_H 0 g ∧ pf [17, 18] h g
theorem AR.alI {i d pc q n : Nat} {P : ax_P} {X : ax_PX} {lv : List (Nat × Value)} {st : List Value} {bc bs : Nat} {v : Value} {ws : List Nat} {w : Nat × Nat × Nat} (hl : ax_look i pc = some (.arraylength, w, v, ws)) (hH : hy_H 0 h) (hq : q < 181) (ht : (ty_tab q).1 = 100) (hn : (ty_tab q).2.1 = n) (hn2 : n < 1000) (k : ∀ z : Int32, z.toInt = n → AR ax_ns l (ax_mm i) d ty_R P X (pc + 1) lv (.int z :: st) h bc bs) : AR ax_ns l (ax_mm i) d ty_R P X pc lv (.ref q :: st) h bc bs := by
  obtain ⟨vs, e1, e2, -⟩ := hy_cell hH hq
  rw [ht] at e1
  refine AR.s (pc' := pc + 1) (lv' := lv) (st' := .int vs.length.toInt32 :: st) (h' := h) _ rfl hl ?_ (k _ ?_)
  · simp only [ax_one, ax_get_lt (show q < 1000000000 by omega), e1]
    rfl
  · show (Int32.ofNat vs.length).toInt = _
    rw [Int32.toInt_ofNat_of_lt (by omega)]
    omega
theorem p253_L (hlst : l.stackTraces = false) {X : ax_PX} (hu : u.toInt = 12) (y1 : -1 ≤ y.toInt) (y2 : y.toInt ≤ 1) : ∀ (n : Nat) (g : ax_H) (i : Int32), i.toInt + n = 12 → 0 ≤ i.toInt → hy_H 0 g → pf [18] h g → AR ax_ns l (ax_mm 253) 0 ty_R (ax_ret ax_ns (ax_mm 253) (fun res g => res = .inl none ∧ hy_H 0 g ∧ pf [18] h g)) X 5 [(3, .int u), (2, .int i), (1, .int y), (0, .ref 18)] [] g 0 0 := by
  intro n
  induction n with
  | zero =>
    intro g i hn i0 Hg Pg
    have Fg : ty_F pW g g := ty_F_refl _ _
    show AR _ _ _ _ _ _ _ 5 [(3, .int u), (2, .int i), (1, .int y), (0, .ref 18)] [] g _ _
    refine AR.s (pc' := 6) (lv' := [(3, .int u), (2, .int i), (1, .int y), (0, .ref 18)]) (st' := [.int i]) (h' := g) _ hn_253 hk_253_5 rfl ?_
    refine AR.s (pc' := 7) (lv' := [(3, .int u), (2, .int i), (1, .int y), (0, .ref 18)]) (st' := [.int u, .int i]) (h' := g) _ hn_253 hk_253_6 rfl ?_
    refine AR.jge hk_253_7 (tgt := 20) (by decide) (fun p1 => ?_) (fun p2 => ?_)
    · exact AR.vret hk_253_20 hr_253 ⟨rfl, Hg, Pg⟩
    · exact absurd p2 (by omega)
  | succ n ih =>
    intro g i hn i0 Hg Pg
    have Fg : ty_F pW g g := ty_F_refl _ _
    show AR _ _ _ _ _ _ _ 5 [(3, .int u), (2, .int i), (1, .int y), (0, .ref 18)] [] g _ _
    refine AR.s (pc' := 6) (lv' := [(3, .int u), (2, .int i), (1, .int y), (0, .ref 18)]) (st' := [.int i]) (h' := g) _ hn_253 hk_253_5 rfl ?_
    refine AR.s (pc' := 7) (lv' := [(3, .int u), (2, .int i), (1, .int y), (0, .ref 18)]) (st' := [.int u, .int i]) (h' := g) _ hn_253 hk_253_6 rfl ?_
    refine AR.jge hk_253_7 (tgt := 20) (by decide) (fun p1 => ?_) (fun p2 => ?_)
    · exact absurd p1 (by omega)
    · refine AR.s (pc' := 11) (lv' := [(3, .int u), (2, .int i), (1, .int y), (0, .ref 18)]) (st' := [.ref 18]) (h' := g) _ hn_253 hk_253_10 rfl ?_
      refine AR.s (pc' := 12) (lv' := [(3, .int u), (2, .int i), (1, .int y), (0, .ref 18)]) (st' := [.int i, .ref 18]) (h' := g) _ hn_253 hk_253_11 rfl ?_
      refine AR.s (pc' := 13) (lv' := [(3, .int u), (2, .int i), (1, .int y), (0, .ref 18)]) (st' := [.int y, .int i, .ref 18]) (h' := g) _ hn_253 hk_253_12 rfl ?_
      refine AR.isT hk_253_13 Hg Fg (q := 18) (n := 12) (by decide) (by decide +kernel) (by decide +kernel) (by decide +kernel) hy_t18_0 (by omega) (by omega) (by omega) (by omega) (by decide +kernel) ?_
      rintro g580 ⟨Hg580, Fg580, Gg580, Eg580⟩
      show AR _ _ _ _ _ _ _ 14 [(3, .int u), (2, .int i), (1, .int y), (0, .ref 18)] [] g580 _ _
      have pg580 : pf [18] h g580 := pf_st Pg Gg580.1 Eg580 (by simp)
      refine AR.iincT hk_253_14 (x := i) rfl (by rw [hn_253]; decide) (by decide) (by omega) (by omega) (fun z581 ez581 => ?_)
      show AR _ _ _ _ _ _ _ 17 [(2, .int z581), (3, .int u), (1, .int y), (0, .ref 18)] [] g580 _ _
      refine AR.gotoT hk_253_17 (tgt := 5) (by decide) ?_
      refine AR.lessL (lv' := [(3, .int u), (2, .int z581), (1, .int y), (0, .ref 18)]) (List.forall_mem_cons.mpr ⟨⟨_, by simp, ax_le_rfl rfl⟩, (List.forall_mem_cons.mpr ⟨⟨_, by simp, ax_le_rfl rfl⟩, (List.forall_mem_cons.mpr ⟨⟨_, by simp, ax_le_rfl rfl⟩, (List.forall_mem_cons.mpr ⟨⟨_, by simp, ax_le_rfl rfl⟩, (fun _ h => absurd h List.not_mem_nil)⟩)⟩)⟩)⟩) ?_
      exact ih g580 z581 (by omega) (by omega) Hg580 pg580
theorem p_253 (hlst : l.stackTraces = false) (hH : hy_H 0 h) (y1 : -1 ≤ y.toInt) (y2 : y.toInt ≤ 1) : AM ax_ns l (ax_mm 253) 0 ty_R (0) (0) [.ref 18, .int y] h (fun res g => res = .inl none ∧ hy_H 0 g ∧ pf [18] h g) := by
  refine AM.of (ax_mfacts (by decide +kernel : ax_has 253 = true)).2.2.2.2.2.2 hlst (by rw [hn_253]; exact Nat.le_of_ble_eq_true rfl) ?_
  show AR ax_ns l (ax_mm 253) 0 ty_R _ _ 0 [(0, .ref 18), (1, .int y)] [] h (0) (0)
  refine AR.iconstT hk_253_0 (by decide) (fun z582 ez582 => ?_)
  show AR _ _ _ _ _ _ _ 1 [(0, .ref 18), (1, .int y)] [.int z582] h _ _
  refine AR.s (pc' := 2) (lv' := [(2, .int z582), (0, .ref 18), (1, .int y)]) (st' := []) (h' := h) _ hn_253 hk_253_1 rfl ?_
  refine AR.s (pc' := 3) (lv' := [(2, .int z582), (0, .ref 18), (1, .int y)]) (st' := [.ref 18]) (h' := h) _ hn_253 hk_253_2 rfl ?_
  refine AR.alI hk_253_3 hH (q := 18) (n := 12) (by decide) (by decide +kernel) (by decide +kernel) (by decide) (fun z583 ez583 => ?_)
  show AR _ _ _ _ _ _ _ 4 [(2, .int z582), (0, .ref 18), (1, .int y)] [.int z583] h _ _
  refine AR.s (pc' := 5) (lv' := [(3, .int z583), (2, .int z582), (0, .ref 18), (1, .int y)]) (st' := []) (h' := h) _ hn_253 hk_253_4 rfl ?_
  refine AR.lessL (lv' := [(3, .int z583), (2, .int z582), (1, .int y), (0, .ref 18)]) (List.forall_mem_cons.mpr ⟨⟨_, by simp, ax_le_rfl rfl⟩, (List.forall_mem_cons.mpr ⟨⟨_, by simp, ax_le_rfl rfl⟩, (List.forall_mem_cons.mpr ⟨⟨_, by simp, ax_le_rfl rfl⟩, (List.forall_mem_cons.mpr ⟨⟨_, by simp, ax_le_rfl rfl⟩, (fun _ h => absurd h List.not_mem_nil)⟩)⟩)⟩)⟩) ?_
  exact p253_L hlst (by omega) y1 y2 12 h z582 (by omega) (by omega) hH (pf_r _ _)
theorem p_1 (hlst : l.stackTraces = false) (hH : hy_H 0 h) : AM ax_ns l (ax_mm 1) 1 ty_R (0) (0) [.ref 17] h (pq_v h) := by
  refine AM.of (ax_mfacts (by decide +kernel : ax_has 1 = true)).2.2.2.2.2.2 hlst (by rw [hn_1]; exact Nat.le_of_ble_eq_true rfl) ?_
  show AR ax_ns l (ax_mm 1) 1 ty_R _ _ 0 [(0, .ref 17)] [] h (0) (0)
  refine AR.s (pc' := 1) (lv' := [(0, .ref 17)]) (st' := [.ref 17]) (h' := h) _ hn_1 hk_1_0 rfl ?_
  refine AR.gR hk_1_1 (by decide) hH (q := 17) (n := 2) (by decide) (by decide +kernel) (by decide +kernel) (by decide) hy_t17_0 ?_
  show AR _ _ _ _ _ _ _ 4 [(0, .ref 17)] [.ref 18] h _ _
  refine AR.iconstT hk_1_4 (by decide) (fun z584 ez584 => ?_)
  show AR _ _ _ _ _ _ _ 5 [(0, .ref 17)] [.int z584, .ref 18] h _ _
  refine AR.cs (as := [.ref 18, .int z584]) (rest := []) hk_1_5 (by decide +kernel) rfl rfl (Nat.le_of_ble_eq_true rfl) (p_253 hlst hH (by omega) (by omega)) (by decide) (Nat.zero_le _) (Nat.zero_le _) (fun E h' q => by cases q.1) ?_
  rintro w g ⟨e, Hg, Pg⟩
  cases e
  have Fg : ty_F pW g g := ty_F_refl _ _
  have Qg : pf [17, 18] h g := pf.tr (pf_r _ _) Pg (by simp)
  show AR _ _ _ _ _ _ _ 8 [(0, .ref 17)] [] g _ _
  refine AR.s (pc' := 9) (lv' := [(0, .ref 17)]) (st' := [.ref 17]) (h' := g) _ hn_1 hk_1_8 rfl ?_
  refine AR.iconstT hk_1_9 (by decide) (fun z585 ez585 => ?_)
  show AR _ _ _ _ _ _ _ 10 [(0, .ref 17)] [.int z585, .ref 17] g _ _
  refine AR.pT hk_1_10 (by decide) Hg Fg (q := 17) (by decide) (by decide +kernel) (show ax_cls[0]? = some hy_c0 from rfl) (by decide +kernel) (by decide) (hy_fz (by omega)) (by rw [hy_t17_1]; exact ⟨_, rfl, by omega, by omega, Or.inl rfl⟩) (by decide +kernel) (by decide +kernel) ?_
  rintro g586 ⟨Hg586, Fg586, Gg586, Eg586⟩
  show AR _ _ _ _ _ _ _ 13 [(0, .ref 17)] [] g586 _ _
  have pg586 : pf [17, 18] h g586 := pf_st Qg Gg586.1 Eg586 (by simp)
  exact AR.vret hk_1_13 hr_1 ⟨rfl, Hg586, pg586⟩
theorem p_2 (hlst : l.stackTraces = false) (hH : hy_H 0 h) (x0 : 0 ≤ x.toInt) (x1 : x.toInt ≤ 11) : AM ax_ns l (ax_mm 2) 0 ty_R (0) (0) [.ref 17, .int x] h (pq_b h) := by
  refine AM.of (ax_mfacts (by decide +kernel : ax_has 2 = true)).2.2.2.2.2.2 hlst (by rw [hn_2]; exact Nat.le_of_ble_eq_true rfl) ?_
  show AR ax_ns l (ax_mm 2) 0 ty_R _ _ 0 [(0, .ref 17), (1, .int x)] [] h (0) (0)
  refine AR.s (pc' := 1) (lv' := [(0, .ref 17), (1, .int x)]) (st' := [.ref 17]) (h' := h) _ hn_2 hk_2_0 rfl ?_
  refine AR.gR hk_2_1 (by decide) hH (q := 17) (n := 2) (by decide) (by decide +kernel) (by decide +kernel) (by decide) hy_t17_0 ?_
  show AR _ _ _ _ _ _ _ 4 [(0, .ref 17), (1, .int x)] [.ref 18] h _ _
  refine AR.s (pc' := 5) (lv' := [(0, .ref 17), (1, .int x)]) (st' := [.int x, .ref 18]) (h' := h) _ hn_2 hk_2_4 rfl ?_
  refine AR.iaI hk_2_5 hH (q := 18) (n := 12) (by decide) (by decide +kernel) (by decide +kernel) (by decide +kernel) hy_t18_0 (by omega) (by omega) (fun x587 dx587 lx587 ux587 => ?_)
  show AR _ _ _ _ _ _ _ 6 [(0, .ref 17), (1, .int x)] [.int x587] h _ _
  refine AR.zlt hk_2_6 (tgt := 13) (by decide) (fun p1 => ?_) (fun p2 => ?_)
  · refine AR.iconstT hk_2_13 (by decide) (fun z588 ez588 => ?_)
    show AR _ _ _ _ _ _ _ 14 [(0, .ref 17), (1, .int x)] [.int z588] h _ _
    exact AR.zret hk_2_14 hr_2 (Or.inl (by omega)) ⟨rfl, _, rfl, by omega⟩
  · refine AR.iconstT hk_2_9 (by decide) (fun z589 ez589 => ?_)
    show AR _ _ _ _ _ _ _ 10 [(0, .ref 17), (1, .int x)] [.int z589] h _ _
    refine AR.gotoT hk_2_10 (tgt := 14) (by decide) ?_
    exact AR.zret hk_2_14 hr_2 (Or.inr (by omega)) ⟨rfl, _, rfl, by omega⟩
theorem p_3 (hlst : l.stackTraces = false) (hH : hy_H 0 h) (x0 : 0 ≤ x.toInt) (x1 : x.toInt ≤ 23) : AM ax_ns l (ax_mm 3) 0 ty_R (0) (0) [.ref 17, .int x] h (pq_b h) := by
  refine AM.of (ax_mfacts (by decide +kernel : ax_has 3 = true)).2.2.2.2.2.2 hlst (by rw [hn_3]; exact Nat.le_of_ble_eq_true rfl) ?_
  show AR ax_ns l (ax_mm 3) 0 ty_R _ _ 0 [(0, .ref 17), (1, .int x)] [] h (0) (0)
  refine AR.s (pc' := 1) (lv' := [(0, .ref 17), (1, .int x)]) (st' := [.ref 17]) (h' := h) _ hn_3 hk_3_0 rfl ?_
  refine AR.gR hk_3_1 (by decide) hH (q := 17) (n := 2) (by decide) (by decide +kernel) (by decide +kernel) (by decide) hy_t17_0 ?_
  show AR _ _ _ _ _ _ _ 4 [(0, .ref 17), (1, .int x)] [.ref 18] h _ _
  refine AR.s (pc' := 5) (lv' := [(0, .ref 17), (1, .int x)]) (st' := [.int x, .ref 18]) (h' := h) _ hn_3 hk_3_4 rfl ?_
  refine AR.iconstT hk_3_5 (by decide) (fun z590 ez590 => ?_)
  show AR _ _ _ _ _ _ _ 6 [(0, .ref 17), (1, .int x)] [.int z590, .int x, .ref 18] h _ _
  refine AR.ishr (z := .int (x >>> (z590 &&& 31))) (ax_look_ok hk_3_6).1 rfl ?_
  obtain ⟨z591a, z591b⟩ := p_sr1 (x := x) (o := z590) (by omega) (by omega) ez590
  generalize x >>> (z590 &&& 31) = z591 at z591a z591b
  show AR _ _ _ _ _ _ _ 7 [(0, .ref 17), (1, .int x)] [.int z591, .ref 18] h _ _
  refine AR.iaI hk_3_7 hH (q := 18) (n := 12) (by decide) (by decide +kernel) (by decide +kernel) (by decide +kernel) hy_t18_0 (by omega) (by omega) (fun x592 dx592 lx592 ux592 => ?_)
  show AR _ _ _ _ _ _ _ 8 [(0, .ref 17), (1, .int x)] [.int x592] h _ _
  refine AR.s (pc' := 9) (lv' := [(0, .ref 17), (1, .int x)]) (st' := [.int x, .int x592]) (h' := h) _ hn_3 hk_3_8 rfl ?_
  refine AR.iconstT hk_3_9 (by decide) (fun z593 ez593 => ?_)
  show AR _ _ _ _ _ _ _ 10 [(0, .ref 17), (1, .int x)] [.int z593, .int x, .int x592] h _ _
  refine AR.iand (z := .int (x &&& z593)) (ax_look_ok hk_3_10).1 rfl ?_
  obtain ⟨z594a, z594b⟩ := p_an1 (x := x) (o := z593) ez593
  generalize x &&& z593 = z594 at z594a z594b
  show AR _ _ _ _ _ _ _ 11 [(0, .ref 17), (1, .int x)] [.int z594, .int x592] h _ _
  refine AR.jne hk_3_11 (tgt := 18) (by decide) (fun p1 => ?_) (fun p2 => ?_)
  · refine AR.iconstT hk_3_18 (by decide) (fun z595 ez595 => ?_)
    show AR _ _ _ _ _ _ _ 19 [(0, .ref 17), (1, .int x)] [.int z595] h _ _
    exact AR.zret hk_3_19 hr_3 (Or.inl (by omega)) ⟨rfl, _, rfl, by omega⟩
  · refine AR.iconstT hk_3_14 (by decide) (fun z596 ez596 => ?_)
    show AR _ _ _ _ _ _ _ 15 [(0, .ref 17), (1, .int x)] [.int z596] h _ _
    refine AR.gotoT hk_3_15 (tgt := 19) (by decide) ?_
    exact AR.zret hk_3_19 hr_3 (Or.inr (by omega)) ⟨rfl, _, rfl, by omega⟩
theorem p_4 (hlst : l.stackTraces = false) (hH : hy_H 0 h) (x0 : 0 ≤ x.toInt) (x1 : x.toInt ≤ 23) : AM ax_ns l (ax_mm 4) 0 ty_R (0) (0) [.ref 17, .int x] h (pq_v h) := by
  refine AM.of (ax_mfacts (by decide +kernel : ax_has 4 = true)).2.2.2.2.2.2 hlst (by rw [hn_4]; exact Nat.le_of_ble_eq_true rfl) ?_
  show AR ax_ns l (ax_mm 4) 0 ty_R _ _ 0 [(0, .ref 17), (1, .int x)] [] h (0) (0)
  have F : ty_F pW h h := ty_F_refl _ _
  have P0 : pf [17, 18] h h := pf_r _ _
  refine AR.s (pc' := 1) (lv' := [(0, .ref 17), (1, .int x)]) (st' := [.ref 17]) (h' := h) _ hn_4 hk_4_0 rfl ?_
  refine AR.gR hk_4_1 (by decide) hH (q := 17) (n := 2) (by decide) (by decide +kernel) (by decide +kernel) (by decide) hy_t17_0 ?_
  show AR _ _ _ _ _ _ _ 4 [(0, .ref 17), (1, .int x)] [.ref 18] h _ _
  refine AR.s (pc' := 5) (lv' := [(0, .ref 17), (1, .int x)]) (st' := [.int x, .ref 18]) (h' := h) _ hn_4 hk_4_4 rfl ?_
  refine AR.iconstT hk_4_5 (by decide) (fun z597 ez597 => ?_)
  show AR _ _ _ _ _ _ _ 6 [(0, .ref 17), (1, .int x)] [.int z597, .int x, .ref 18] h _ _
  refine AR.ishr (z := .int (x >>> (z597 &&& 31))) (ax_look_ok hk_4_6).1 rfl ?_
  obtain ⟨z598a, z598b⟩ := p_sr1 (x := x) (o := z597) (by omega) (by omega) ez597
  generalize x >>> (z597 &&& 31) = z598 at z598a z598b
  show AR _ _ _ _ _ _ _ 7 [(0, .ref 17), (1, .int x)] [.int z598, .ref 18] h _ _
  refine AR.iconstT hk_4_7 (by decide) (fun z599 ez599 => ?_)
  show AR _ _ _ _ _ _ _ 8 [(0, .ref 17), (1, .int x)] [.int z599, .int z598, .ref 18] h _ _
  refine AR.s (pc' := 9) (lv' := [(0, .ref 17), (1, .int x)]) (st' := [.int x, .int z599, .int z598, .ref 18]) (h' := h) _ hn_4 hk_4_8 rfl ?_
  refine AR.iconstT hk_4_9 (by decide) (fun z600 ez600 => ?_)
  show AR _ _ _ _ _ _ _ 10 [(0, .ref 17), (1, .int x)] [.int z600, .int x, .int z599, .int z598, .ref 18] h _ _
  refine AR.iand (z := .int (x &&& z600)) (ax_look_ok hk_4_10).1 rfl ?_
  obtain ⟨z601a, z601b⟩ := p_an1 (x := x) (o := z600) ez600
  generalize x &&& z600 = z601 at z601a z601b
  show AR _ _ _ _ _ _ _ 11 [(0, .ref 17), (1, .int x)] [.int z601, .int z599, .int z598, .ref 18] h _ _
  refine AR.subT hk_4_11 (by omega) (by omega) (fun z602 ez602 => ?_)
  show AR _ _ _ _ _ _ _ 12 [(0, .ref 17), (1, .int x)] [.int z602, .int z598, .ref 18] h _ _
  refine AR.isT hk_4_12 hH F (q := 18) (n := 12) (by decide) (by decide +kernel) (by decide +kernel) (by decide +kernel) hy_t18_0 (by omega) (by omega) (by omega) (by omega) (by decide +kernel) ?_
  rintro g603 ⟨Hg603, Fg603, Gg603, Eg603⟩
  show AR _ _ _ _ _ _ _ 13 [(0, .ref 17), (1, .int x)] [] g603 _ _
  have pg603 : pf [17, 18] h g603 := pf_st P0 Gg603.1 Eg603 (by simp)
  exact AR.vret hk_4_13 hr_4 ⟨rfl, Hg603, pg603⟩
def pq_11 (h : ax_H) : ax_Q := fun res g => g = h ∧ ∃ z : Int64, res = .inl (some (.long z))
theorem p11_L (hlst : l.stackTraces = false) {X : ax_PX} {p : Nat} (hH : hy_H 0 h) (PC : pc_ok p) : ∀ (n : Nat) (i : Int32) (s : Int64), i.toInt + n = 24 → 0 ≤ i.toInt → AR ax_ns l (ax_mm 11) 1 ty_R (ax_ret ax_ns (ax_mm 11) (pq_11 h)) X 8 [(4, .int i), (2, .long s), (1, .ref 17), (0, .ref p)] [] h 0 0 := by
  intro n
  induction n with
  | zero =>
    intro i s hn i0
    show AR _ _ _ _ _ _ _ 8 [(4, .int i), (2, .long s), (1, .ref 17), (0, .ref p)] [] h _ _
    refine AR.s (pc' := 10) (lv' := [(4, .int i), (2, .long s), (1, .ref 17), (0, .ref p)]) (st' := [.int i]) (h' := h) _ hn_11 hk_11_8 rfl ?_
    refine AR.bipushT hk_11_10 (by decide) (fun z604 ez604 => ?_)
    show AR _ _ _ _ _ _ _ 12 [(4, .int i), (2, .long s), (1, .ref 17), (0, .ref p)] [.int z604, .int i] h _ _
    refine AR.jge hk_11_12 (tgt := 41) (by decide) (fun p1 => ?_) (fun p2 => ?_)
    · refine AR.s (pc' := 42) (lv' := [(4, .int i), (2, .long s), (1, .ref 17), (0, .ref p)]) (st' := [.long s]) (h' := h) _ hn_11 hk_11_41 rfl ?_
      refine AR.s (pc' := 43) (lv' := [(4, .int i), (2, .long s), (1, .ref 17), (0, .ref p)]) (st' := [.ref p, .long s]) (h' := h) _ hn_11 hk_11_42 rfl ?_
      refine AR.gI hk_11_43 (by decide) hH (q := p) (n := 3) (by have := PC.2.1; omega) PC.2.2.1 PC.2.2.2.1 (by decide) PC.2.2.2.2.2.1 (fun x605 dx605 lx605 ux605 => ?_)
      have sx605 := hy_zi dx605
      show AR _ _ _ _ _ _ _ 46 [(4, .int i), (2, .long s), (1, .ref 17), (0, .ref p)] [.int x605, .long s] h _ _
      refine AR.i2lT hk_11_46 (fun z606 ez606 => ?_)
      show AR _ _ _ _ _ _ _ 47 [(4, .int i), (2, .long s), (1, .ref 17), (0, .ref p)] [.long z606, .long s] h _ _
      refine AR.lsub (z := .long (s - z606)) (ax_look_ok hk_11_47).1 rfl ?_
      generalize s - z606 = z607
      show AR _ _ _ _ _ _ _ 48 [(4, .int i), (2, .long s), (1, .ref 17), (0, .ref p)] [.long z607] h _ _
      exact AR.lret hk_11_48 hr_11 ⟨rfl, _, rfl⟩
    · exact absurd p2 (by omega)
  | succ n ih =>
    intro i s hn i0
    show AR _ _ _ _ _ _ _ 8 [(4, .int i), (2, .long s), (1, .ref 17), (0, .ref p)] [] h _ _
    refine AR.s (pc' := 10) (lv' := [(4, .int i), (2, .long s), (1, .ref 17), (0, .ref p)]) (st' := [.int i]) (h' := h) _ hn_11 hk_11_8 rfl ?_
    refine AR.bipushT hk_11_10 (by decide) (fun z608 ez608 => ?_)
    show AR _ _ _ _ _ _ _ 12 [(4, .int i), (2, .long s), (1, .ref 17), (0, .ref p)] [.int z608, .int i] h _ _
    refine AR.jge hk_11_12 (tgt := 41) (by decide) (fun p1 => ?_) (fun p2 => ?_)
    · exact absurd p1 (by omega)
    · refine AR.s (pc' := 16) (lv' := [(4, .int i), (2, .long s), (1, .ref 17), (0, .ref p)]) (st' := [.ref 17]) (h' := h) _ hn_11 hk_11_15 rfl ?_
      refine AR.s (pc' := 18) (lv' := [(4, .int i), (2, .long s), (1, .ref 17), (0, .ref p)]) (st' := [.int i, .ref 17]) (h' := h) _ hn_11 hk_11_16 rfl ?_
      obtain ⟨v609, cv609⟩ := p_c17 hH
      refine AR.jr (r := 17) (as := [.int i]) (rest := []) hk_11_18 (by decide) (by decide +kernel) (by decide) cv609 rfl rfl (Nat.le_of_ble_eq_true rfl) (p_3 hlst hH i0 (by omega)) (by decide) (Nat.zero_le _) (Nat.zero_le _) ?_ (fun E h' q => by obtain ⟨-, _, e, -⟩ := q; cases e)
      rintro w g9 ⟨eg, z610, er, hzz610⟩
      cases er
      obtain rfl := eg.symm
      show AR _ _ _ _ _ _ _ 21 [(4, .int i), (2, .long s), (1, .ref 17), (0, .ref p)] [.int z610] h _ _
      refine AR.zeq hk_11_21 (tgt := 35) (by decide) (fun q1 => ?_) (fun q2 => ?_)
      · refine AR.iincT hk_11_35 (x := i) rfl (by rw [hn_11]; decide) (by decide) (by omega) (by omega) (fun z611 ez611 => ?_)
        show AR _ _ _ _ _ _ _ 38 [(4, .int z611), (2, .long s), (1, .ref 17), (0, .ref p)] [] h _ _
        refine AR.gotoT hk_11_38 (tgt := 8) (by decide) ?_
        refine AR.lessL (lv' := [(4, .int z611), (2, .long s), (1, .ref 17), (0, .ref p)]) (List.forall_mem_cons.mpr ⟨⟨_, by simp, ax_le_rfl rfl⟩, (List.forall_mem_cons.mpr ⟨⟨_, by simp, ax_le_rfl rfl⟩, (List.forall_mem_cons.mpr ⟨⟨_, by simp, ax_le_rfl rfl⟩, (List.forall_mem_cons.mpr ⟨⟨_, by simp, ax_le_rfl rfl⟩, (fun _ h => absurd h List.not_mem_nil)⟩)⟩)⟩)⟩) ?_
        exact ih z611 s (by omega) (by omega)
      · refine AR.s (pc' := 25) (lv' := [(4, .int i), (2, .long s), (1, .ref 17), (0, .ref p)]) (st' := [.long s]) (h' := h) _ hn_11 hk_11_24 rfl ?_
        refine AR.s (pc' := 26) (lv' := [(4, .int i), (2, .long s), (1, .ref 17), (0, .ref p)]) (st' := [.ref p, .long s]) (h' := h) _ hn_11 hk_11_25 rfl ?_
        refine AR.gR hk_11_26 (by decide) hH (q := p) (n := 3) (by have := PC.2.1; omega) PC.2.2.1 PC.2.2.2.1 (by decide) PC.2.2.2.2.1 ?_
        show AR _ _ _ _ _ _ _ 29 [(4, .int i), (2, .long s), (1, .ref 17), (0, .ref p)] [.ref (p + 1), .long s] h _ _
        refine AR.s (pc' := 31) (lv' := [(4, .int i), (2, .long s), (1, .ref 17), (0, .ref p)]) (st' := [.int i, .ref (p + 1), .long s]) (h' := h) _ hn_11 hk_11_29 rfl ?_
        refine AR.iaI hk_11_31 hH (q := p + 1) (n := 24) PC.2.1 PC.2.2.2.2.2.2.2.1 PC.2.2.2.2.2.2.2.2.1 PC.2.2.2.2.2.2.2.2.2.1 PC.2.2.2.2.2.2.2.2.2.2.1 (by omega) (by omega) (fun x612 dx612 lx612 ux612 => ?_)
        show AR _ _ _ _ _ _ _ 32 [(4, .int i), (2, .long s), (1, .ref 17), (0, .ref p)] [.int x612, .long s] h _ _
        refine AR.i2lT hk_11_32 (fun z613 ez613 => ?_)
        show AR _ _ _ _ _ _ _ 33 [(4, .int i), (2, .long s), (1, .ref 17), (0, .ref p)] [.long z613, .long s] h _ _
        refine AR.lsub (z := .long (s - z613)) (ax_look_ok hk_11_33).1 rfl ?_
        generalize s - z613 = z614
        show AR _ _ _ _ _ _ _ 34 [(4, .int i), (2, .long s), (1, .ref 17), (0, .ref p)] [.long z614] h _ _
        refine AR.s (pc' := 35) (lv' := [(2, .long z614), (4, .int i), (1, .ref 17), (0, .ref p)]) (st' := []) (h' := h) _ hn_11 hk_11_34 rfl ?_
        refine AR.iincT hk_11_35 (x := i) rfl (by rw [hn_11]; decide) (by decide) (by omega) (by omega) (fun z615 ez615 => ?_)
        show AR _ _ _ _ _ _ _ 38 [(4, .int z615), (2, .long z614), (1, .ref 17), (0, .ref p)] [] h _ _
        refine AR.gotoT hk_11_38 (tgt := 8) (by decide) ?_
        refine AR.lessL (lv' := [(4, .int z615), (2, .long z614), (1, .ref 17), (0, .ref p)]) (List.forall_mem_cons.mpr ⟨⟨_, by simp, ax_le_rfl rfl⟩, (List.forall_mem_cons.mpr ⟨⟨_, by simp, ax_le_rfl rfl⟩, (List.forall_mem_cons.mpr ⟨⟨_, by simp, ax_le_rfl rfl⟩, (List.forall_mem_cons.mpr ⟨⟨_, by simp, ax_le_rfl rfl⟩, (fun _ h => absurd h List.not_mem_nil)⟩)⟩)⟩)⟩) ?_
        exact ih z615 z614 (by omega) (by omega)
theorem p_11 (hlst : l.stackTraces = false) {p : Nat} (hH : hy_H 0 h) (PC : pc_ok p) : AM ax_ns l (ax_mm 11) 1 ty_R (0) (0) [.ref p, .ref 17] h (pq_11 h) := by
  refine AM.of (ax_mfacts (by decide +kernel : ax_has 11 = true)).2.2.2.2.2.2 hlst (by rw [hn_11]; exact Nat.le_of_ble_eq_true rfl) ?_
  show AR ax_ns l (ax_mm 11) 1 ty_R _ _ 0 [(0, .ref p), (1, .ref 17)] [] h (0) (0)
  refine AR.s (pc' := 1) (lv' := [(0, .ref p), (1, .ref 17)]) (st' := [.ref p]) (h' := h) _ hn_11 hk_11_0 rfl ?_
  refine AR.gL hk_11_1 (by decide) hH (q := p) (n := 3) (by have := PC.2.1; omega) PC.2.2.1 PC.2.2.2.1 (by decide) PC.2.2.2.2.2.2.1 (fun x616 dx616 lx616 ux616 => ?_)
  have sx616 := hy_zl dx616
  show AR _ _ _ _ _ _ _ 4 [(0, .ref p), (1, .ref 17)] [.long x616] h _ _
  refine AR.s (pc' := 5) (lv' := [(2, .long x616), (0, .ref p), (1, .ref 17)]) (st' := []) (h' := h) _ hn_11 hk_11_4 rfl ?_
  refine AR.iconstT hk_11_5 (by decide) (fun z617 ez617 => ?_)
  show AR _ _ _ _ _ _ _ 6 [(2, .long x616), (0, .ref p), (1, .ref 17)] [.int z617] h _ _
  refine AR.s (pc' := 8) (lv' := [(4, .int z617), (2, .long x616), (0, .ref p), (1, .ref 17)]) (st' := []) (h' := h) _ hn_11 hk_11_6 rfl ?_
  refine AR.lessL (lv' := [(4, .int z617), (2, .long x616), (1, .ref 17), (0, .ref p)]) (List.forall_mem_cons.mpr ⟨⟨_, by simp, ax_le_rfl rfl⟩, (List.forall_mem_cons.mpr ⟨⟨_, by simp, ax_le_rfl rfl⟩, (List.forall_mem_cons.mpr ⟨⟨_, by simp, ax_le_rfl rfl⟩, (List.forall_mem_cons.mpr ⟨⟨_, by simp, ax_le_rfl rfl⟩, (fun _ h => absurd h List.not_mem_nil)⟩)⟩)⟩)⟩) ?_
  exact p11_L hlst hH PC 24 z617 x616 (by omega) (by omega)
def pq_13 (h : ax_H) : ax_Q := fun res g => hy_H 0 g ∧ pf [17, 18] h g ∧ ∃ z : Int32, res = .inl (some (.int z)) ∧ (z.toInt = 0 ∨ z.toInt = 1)
theorem p13_L (hlst : l.stackTraces = false) {X : ax_PX} {p : Nat} {s : Int64} (PC : pc_ok p) : ∀ (n : Nat) (g : ax_H) (i c : Int32), i.toInt + n = 24 → 0 ≤ i.toInt → (c.toInt = 0 ∨ c.toInt = 1) → hy_H 0 g → pf [17, 18] h g → AR ax_ns l (ax_mm 13) 2 ty_R (ax_ret ax_ns (ax_mm 13) (pq_13 h)) X 29 [(5, .int i), (4, .int c), (2, .long s), (1, .ref 17), (0, .ref p)] [] g 0 0 := by
  intro n
  induction n with
  | zero =>
    intro g i c hn i0 hc Hg Pg
    have Fg : ty_F pW g g := ty_F_refl _ _
    show AR _ _ _ _ _ _ _ 29 [(5, .int i), (4, .int c), (2, .long s), (1, .ref 17), (0, .ref p)] [] g _ _
    refine AR.s (pc' := 31) (lv' := [(5, .int i), (4, .int c), (2, .long s), (1, .ref 17), (0, .ref p)]) (st' := [.int i]) (h' := g) _ hn_13 hk_13_29 rfl ?_
    refine AR.bipushT hk_13_31 (by decide) (fun z618 ez618 => ?_)
    show AR _ _ _ _ _ _ _ 33 [(5, .int i), (4, .int c), (2, .long s), (1, .ref 17), (0, .ref p)] [.int z618, .int i] g _ _
    refine AR.jge hk_13_33 (tgt := 75) (by decide) (fun p1 => ?_) (fun p2 => ?_)
    · refine AR.s (pc' := 77) (lv' := [(5, .int i), (4, .int c), (2, .long s), (1, .ref 17), (0, .ref p)]) (st' := [.int c]) (h' := g) _ hn_13 hk_13_75 rfl ?_
      exact AR.zret hk_13_77 hr_13 hc ⟨Hg, Pg, _, rfl, hc⟩
    · exact absurd p2 (by omega)
  | succ n ih =>
    intro g i c hn i0 hc Hg Pg
    have Fg : ty_F pW g g := ty_F_refl _ _
    show AR _ _ _ _ _ _ _ 29 [(5, .int i), (4, .int c), (2, .long s), (1, .ref 17), (0, .ref p)] [] g _ _
    refine AR.s (pc' := 31) (lv' := [(5, .int i), (4, .int c), (2, .long s), (1, .ref 17), (0, .ref p)]) (st' := [.int i]) (h' := g) _ hn_13 hk_13_29 rfl ?_
    refine AR.bipushT hk_13_31 (by decide) (fun z619 ez619 => ?_)
    show AR _ _ _ _ _ _ _ 33 [(5, .int i), (4, .int c), (2, .long s), (1, .ref 17), (0, .ref p)] [.int z619, .int i] g _ _
    refine AR.jge hk_13_33 (tgt := 75) (by decide) (fun p1 => ?_) (fun p2 => ?_)
    · exact absurd p1 (by omega)
    · refine AR.s (pc' := 37) (lv' := [(5, .int i), (4, .int c), (2, .long s), (1, .ref 17), (0, .ref p)]) (st' := [.ref p]) (h' := g) _ hn_13 hk_13_36 rfl ?_
      refine AR.gR hk_13_37 (by decide) Hg (q := p) (n := 3) (by have := PC.2.1; omega) PC.2.2.1 PC.2.2.2.1 (by decide) PC.2.2.2.2.1 ?_
      show AR _ _ _ _ _ _ _ 40 [(5, .int i), (4, .int c), (2, .long s), (1, .ref 17), (0, .ref p)] [.ref (p + 1)] g _ _
      refine AR.s (pc' := 42) (lv' := [(5, .int i), (4, .int c), (2, .long s), (1, .ref 17), (0, .ref p)]) (st' := [.int i, .ref (p + 1)]) (h' := g) _ hn_13 hk_13_40 rfl ?_
      refine AR.iaI hk_13_42 Hg (q := p + 1) (n := 24) PC.2.1 PC.2.2.2.2.2.2.2.1 PC.2.2.2.2.2.2.2.2.1 PC.2.2.2.2.2.2.2.2.2.1 PC.2.2.2.2.2.2.2.2.2.2.1 (by omega) (by omega) (fun x620 dx620 lx620 ux620 => ?_)
      show AR _ _ _ _ _ _ _ 43 [(5, .int i), (4, .int c), (2, .long s), (1, .ref 17), (0, .ref p)] [.int x620] g _ _
      refine AR.i2lT hk_13_43 (fun z621 ez621 => ?_)
      show AR _ _ _ _ _ _ _ 44 [(5, .int i), (4, .int c), (2, .long s), (1, .ref 17), (0, .ref p)] [.long z621] g _ _
      refine AR.s (pc' := 45) (lv' := [(5, .int i), (4, .int c), (2, .long s), (1, .ref 17), (0, .ref p)]) (st' := [.long s, .long z621]) (h' := g) _ hn_13 hk_13_44 rfl ?_
      refine AR.lcmpT hk_13_45 (fun k _ => ?_)
      show AR _ _ _ _ _ _ _ 46 [(5, .int i), (4, .int c), (2, .long s), (1, .ref 17), (0, .ref p)] [.int k] g _ _
      refine AR.zle hk_13_46 (tgt := 69) (by decide) (fun q1 => ?_) (fun q2 => ?_)
      · refine AR.iincT hk_13_69 (x := i) rfl (by rw [hn_13]; decide) (by decide) (by omega) (by omega) (fun z622 ez622 => ?_)
        show AR _ _ _ _ _ _ _ 72 [(5, .int z622), (4, .int c), (2, .long s), (1, .ref 17), (0, .ref p)] [] g _ _
        refine AR.gotoT hk_13_72 (tgt := 29) (by decide) ?_
        refine AR.lessL (lv' := [(5, .int z622), (4, .int c), (2, .long s), (1, .ref 17), (0, .ref p)]) (List.forall_mem_cons.mpr ⟨⟨_, by simp, ax_le_rfl rfl⟩, (List.forall_mem_cons.mpr ⟨⟨_, by simp, ax_le_rfl rfl⟩, (List.forall_mem_cons.mpr ⟨⟨_, by simp, ax_le_rfl rfl⟩, (List.forall_mem_cons.mpr ⟨⟨_, by simp, ax_le_rfl rfl⟩, (List.forall_mem_cons.mpr ⟨⟨_, by simp, ax_le_rfl rfl⟩, (fun _ h => absurd h List.not_mem_nil)⟩)⟩)⟩)⟩)⟩) ?_
        exact ih g z622 c (by omega) (by omega) hc Hg Pg
      · refine AR.s (pc' := 50) (lv' := [(5, .int i), (4, .int c), (2, .long s), (1, .ref 17), (0, .ref p)]) (st' := [.ref 17]) (h' := g) _ hn_13 hk_13_49 rfl ?_
        refine AR.s (pc' := 52) (lv' := [(5, .int i), (4, .int c), (2, .long s), (1, .ref 17), (0, .ref p)]) (st' := [.int i, .ref 17]) (h' := g) _ hn_13 hk_13_50 rfl ?_
        refine AR.iconstT hk_13_52 (by decide) (fun z623 ez623 => ?_)
        show AR _ _ _ _ _ _ _ 53 [(5, .int i), (4, .int c), (2, .long s), (1, .ref 17), (0, .ref p)] [.int z623, .int i, .ref 17] g _ _
        refine AR.ishr (z := .int (i >>> (z623 &&& 31))) (ax_look_ok hk_13_53).1 rfl ?_
        obtain ⟨z624a, z624b⟩ := p_sr1 (x := i) (o := z623) (by omega) (by omega) ez623
        generalize i >>> (z623 &&& 31) = z624 at z624a z624b
        show AR _ _ _ _ _ _ _ 54 [(5, .int i), (4, .int c), (2, .long s), (1, .ref 17), (0, .ref p)] [.int z624, .ref 17] g _ _
        obtain ⟨v625, cv625⟩ := p_c17 Hg
        refine AR.jr (r := 17) (as := [.int z624]) (rest := []) hk_13_54 (by decide) (by decide +kernel) (by decide) cv625 rfl rfl (Nat.le_of_ble_eq_true rfl) (p_2 hlst Hg (by omega) (by omega)) (by decide) (Nat.zero_le _) (Nat.zero_le _) ?_ (fun E h' q => by obtain ⟨-, _, e, -⟩ := q; cases e)
        rintro w g9 ⟨eg, z626, er, hzz626⟩
        cases er
        obtain rfl := eg.symm
        show AR _ _ _ _ _ _ _ 57 [(5, .int i), (4, .int c), (2, .long s), (1, .ref 17), (0, .ref p)] [.int z626] g _ _
        refine AR.zne hk_13_57 (tgt := 69) (by decide) (fun r1 => ?_) (fun r2 => ?_)
        · refine AR.iincT hk_13_69 (x := i) rfl (by rw [hn_13]; decide) (by decide) (by omega) (by omega) (fun z627 ez627 => ?_)
          show AR _ _ _ _ _ _ _ 72 [(5, .int z627), (4, .int c), (2, .long s), (1, .ref 17), (0, .ref p)] [] g _ _
          refine AR.gotoT hk_13_72 (tgt := 29) (by decide) ?_
          refine AR.lessL (lv' := [(5, .int z627), (4, .int c), (2, .long s), (1, .ref 17), (0, .ref p)]) (List.forall_mem_cons.mpr ⟨⟨_, by simp, ax_le_rfl rfl⟩, (List.forall_mem_cons.mpr ⟨⟨_, by simp, ax_le_rfl rfl⟩, (List.forall_mem_cons.mpr ⟨⟨_, by simp, ax_le_rfl rfl⟩, (List.forall_mem_cons.mpr ⟨⟨_, by simp, ax_le_rfl rfl⟩, (List.forall_mem_cons.mpr ⟨⟨_, by simp, ax_le_rfl rfl⟩, (fun _ h => absurd h List.not_mem_nil)⟩)⟩)⟩)⟩)⟩) ?_
          exact ih g z627 c (by omega) (by omega) hc Hg Pg
        · refine AR.s (pc' := 61) (lv' := [(5, .int i), (4, .int c), (2, .long s), (1, .ref 17), (0, .ref p)]) (st' := [.ref 17]) (h' := g) _ hn_13 hk_13_60 rfl ?_
          refine AR.s (pc' := 63) (lv' := [(5, .int i), (4, .int c), (2, .long s), (1, .ref 17), (0, .ref p)]) (st' := [.int i, .ref 17]) (h' := g) _ hn_13 hk_13_61 rfl ?_
          obtain ⟨v628, cv628⟩ := p_c17 Hg
          refine AR.jr (r := 17) (as := [.int i]) (rest := []) hk_13_63 (by decide) (by decide +kernel) (by decide) cv628 rfl rfl (Nat.le_of_ble_eq_true rfl) (p_4 hlst Hg i0 (by omega)) (by decide) (Nat.zero_le _) (Nat.zero_le _) ?_ (fun E h' q => by cases q.1)
          rintro w g629 ⟨er, Hg629, Qg629⟩
          cases er
          have Fg629 : ty_F pW g629 g629 := ty_F_refl _ _
          have Pg629 : pf [17, 18] h g629 := pf.tr Pg Qg629 (by simp)
          show AR _ _ _ _ _ _ _ 66 [(5, .int i), (4, .int c), (2, .long s), (1, .ref 17), (0, .ref p)] [] g629 _ _
          refine AR.iconstT hk_13_66 (by decide) (fun z630 ez630 => ?_)
          show AR _ _ _ _ _ _ _ 67 [(5, .int i), (4, .int c), (2, .long s), (1, .ref 17), (0, .ref p)] [.int z630] g629 _ _
          refine AR.s (pc' := 69) (lv' := [(4, .int z630), (5, .int i), (2, .long s), (1, .ref 17), (0, .ref p)]) (st' := []) (h' := g629) _ hn_13 hk_13_67 rfl ?_
          refine AR.iincT hk_13_69 (x := i) rfl (by rw [hn_13]; decide) (by decide) (by omega) (by omega) (fun z631 ez631 => ?_)
          show AR _ _ _ _ _ _ _ 72 [(5, .int z631), (4, .int z630), (2, .long s), (1, .ref 17), (0, .ref p)] [] g629 _ _
          refine AR.gotoT hk_13_72 (tgt := 29) (by decide) ?_
          refine AR.lessL (lv' := [(5, .int z631), (4, .int z630), (2, .long s), (1, .ref 17), (0, .ref p)]) (List.forall_mem_cons.mpr ⟨⟨_, by simp, ax_le_rfl rfl⟩, (List.forall_mem_cons.mpr ⟨⟨_, by simp, ax_le_rfl rfl⟩, (List.forall_mem_cons.mpr ⟨⟨_, by simp, ax_le_rfl rfl⟩, (List.forall_mem_cons.mpr ⟨⟨_, by simp, ax_le_rfl rfl⟩, (List.forall_mem_cons.mpr ⟨⟨_, by simp, ax_le_rfl rfl⟩, (fun _ h => absurd h List.not_mem_nil)⟩)⟩)⟩)⟩)⟩) ?_
          exact ih g629 z631 z630 (by omega) (by omega) (by omega) Hg629 Pg629
theorem p_13 (hlst : l.stackTraces = false) {p : Nat} (hH : hy_H 0 h) (PC : pc_ok p) : AM ax_ns l (ax_mm 13) 2 ty_R (0) (0) [.ref p, .ref 17] h (pq_13 h) := by
  refine AM.of (ax_mfacts (by decide +kernel : ax_has 13 = true)).2.2.2.2.2.2 hlst (by rw [hn_13]; exact Nat.le_of_ble_eq_true rfl) ?_
  show AR ax_ns l (ax_mm 13) 2 ty_R _ _ 0 [(0, .ref p), (1, .ref 17)] [] h (0) (0)
  have P0 : pf [17, 18] h h := pf_r _ _
  refine AR.s (pc' := 1) (lv' := [(0, .ref p), (1, .ref 17)]) (st' := [.ref p]) (h' := h) _ hn_13 hk_13_0 rfl ?_
  refine AR.s (pc' := 2) (lv' := [(0, .ref p), (1, .ref 17)]) (st' := [.ref 17, .ref p]) (h' := h) _ hn_13 hk_13_1 rfl ?_
  obtain ⟨vp, cp⟩ := p_cp hH PC
  refine AR.jr (r := p) (as := [.ref 17]) (rest := []) hk_13_2 (by decide) (by decide +kernel) (by have := PC.2.1; omega) cp rfl rfl (Nat.le_of_ble_eq_true rfl) (p_11 hlst hH PC) (by decide) (Nat.zero_le _) (Nat.zero_le _) ?_ (fun E h' q => by obtain ⟨-, _, e⟩ := q; cases e)
  rintro w g9 ⟨eg, sl, er⟩
  cases er
  obtain rfl := eg.symm
  show AR _ _ _ _ _ _ _ 5 [(0, .ref p), (1, .ref 17)] [.long sl] h _ _
  refine AR.s (pc' := 6) (lv' := [(2, .long sl), (0, .ref p), (1, .ref 17)]) (st' := []) (h' := h) _ hn_13 hk_13_5 rfl ?_
  refine AR.s (pc' := 7) (lv' := [(2, .long sl), (0, .ref p), (1, .ref 17)]) (st' := [.long sl]) (h' := h) _ hn_13 hk_13_6 rfl ?_
  refine AR.lconstT hk_13_7 (fun z632 ez632 => ?_)
  have kz632 : z632 = 0 := Int64.toInt_inj.mp (ez632.trans rfl)
  show AR _ _ _ _ _ _ _ 8 [(2, .long sl), (0, .ref p), (1, .ref 17)] [.long z632, .long sl] h _ _
  refine AR.lcmpT hk_13_8 (fun k _ => ?_)
  show AR _ _ _ _ _ _ _ 9 [(2, .long sl), (0, .ref p), (1, .ref 17)] [.int k] h _ _
  refine AR.zge hk_13_9 (tgt := 23) (by decide) (fun p1 => ?_) (fun p2 => ?_)
  · refine AR.iconstT hk_13_23 (by decide) (fun z633 ez633 => ?_)
    show AR _ _ _ _ _ _ _ 24 [(2, .long sl), (0, .ref p), (1, .ref 17)] [.int z633] h _ _
    refine AR.s (pc' := 26) (lv' := [(4, .int z633), (2, .long sl), (0, .ref p), (1, .ref 17)]) (st' := []) (h' := h) _ hn_13 hk_13_24 rfl ?_
    refine AR.iconstT hk_13_26 (by decide) (fun z634 ez634 => ?_)
    show AR _ _ _ _ _ _ _ 27 [(4, .int z633), (2, .long sl), (0, .ref p), (1, .ref 17)] [.int z634] h _ _
    refine AR.s (pc' := 29) (lv' := [(5, .int z634), (4, .int z633), (2, .long sl), (0, .ref p), (1, .ref 17)]) (st' := []) (h' := h) _ hn_13 hk_13_27 rfl ?_
    refine AR.lessL (lv' := [(5, .int z634), (4, .int z633), (2, .long sl), (1, .ref 17), (0, .ref p)]) (List.forall_mem_cons.mpr ⟨⟨_, by simp, ax_le_rfl rfl⟩, (List.forall_mem_cons.mpr ⟨⟨_, by simp, ax_le_rfl rfl⟩, (List.forall_mem_cons.mpr ⟨⟨_, by simp, ax_le_rfl rfl⟩, (List.forall_mem_cons.mpr ⟨⟨_, by simp, ax_le_rfl rfl⟩, (List.forall_mem_cons.mpr ⟨⟨_, by simp, ax_le_rfl rfl⟩, (fun _ h => absurd h List.not_mem_nil)⟩)⟩)⟩)⟩)⟩) ?_
    exact p13_L hlst PC 24 h z634 z633 (by omega) (by omega) (by omega) hH P0
  · refine AR.s (pc' := 13) (lv' := [(2, .long sl), (0, .ref p), (1, .ref 17)]) (st' := [.ref 17]) (h' := h) _ hn_13 hk_13_12 rfl ?_
    obtain ⟨v635, cv635⟩ := p_c17 hH
    refine AR.jr (r := 17) (as := []) (rest := []) hk_13_13 (by decide) (by decide +kernel) (by decide) cv635 rfl rfl (Nat.le_of_ble_eq_true rfl) (p_1 hlst hH) (by decide) (Nat.zero_le _) (Nat.zero_le _) ?_ (fun E h' q => by cases q.1)
    rintro w g636 ⟨er, Hg636, Qg636⟩
    cases er
    have Fg636 : ty_F pW g636 g636 := ty_F_refl _ _
    have Pg636 : pf [17, 18] h g636 := pf.tr P0 Qg636 (by simp)
    show AR _ _ _ _ _ _ _ 16 [(2, .long sl), (0, .ref p), (1, .ref 17)] [] g636 _ _
    refine AR.s (pc' := 17) (lv' := [(2, .long sl), (0, .ref p), (1, .ref 17)]) (st' := [.ref 17]) (h' := g636) _ hn_13 hk_13_16 rfl ?_
    refine AR.iconstT hk_13_17 (by decide) (fun z637 ez637 => ?_)
    show AR _ _ _ _ _ _ _ 18 [(2, .long sl), (0, .ref p), (1, .ref 17)] [.int z637, .ref 17] g636 _ _
    refine AR.pT hk_13_18 (by decide) Hg636 Fg636 (q := 17) (by decide) (by decide +kernel) (show ax_cls[0]? = some hy_c0 from rfl) (by decide +kernel) (by decide) (hy_fz (by omega)) (by rw [hy_t17_1]; exact ⟨_, rfl, by omega, by omega, Or.inl rfl⟩) (by decide +kernel) (by decide +kernel) ?_
    rintro g638 ⟨Hg638, Fg638, Gg638, Eg638⟩
    show AR _ _ _ _ _ _ _ 21 [(2, .long sl), (0, .ref p), (1, .ref 17)] [] g638 _ _
    have pg638 : pf [17, 18] h g638 := pf_st Pg636 Gg638.1 Eg638 (by simp)
    refine AR.iconstT hk_13_21 (by decide) (fun z639 ez639 => ?_)
    show AR _ _ _ _ _ _ _ 22 [(2, .long sl), (0, .ref p), (1, .ref 17)] [.int z639] g638 _ _
    exact AR.zret hk_13_22 hr_13 (Or.inl (by omega)) ⟨Hg638, pg638, _, rfl, by omega⟩
/-- the constraints lie where the constructor put them -/
def pC (h : ax_H) : Prop := ∀ c, c < 60 → ty_fd h 7 c = some (.ref (27 + 2 * c))
theorem pc_aA : ∀ c, c < 60 → 10 ≤ 27 + 2 * c ∧ 27 + 2 * c + 1 < 181 ∧ (ty_tab (27 + 2 * c)).1 = 1 ∧ (ty_tab (27 + 2 * c)).2.1 = 3 := by decide +kernel
theorem ty_V_ext {t : ty_V} {a b : Nat} {c d e : Int} (h : t.1 = a ∧ t.2.1 = b ∧ t.2.2.1 = c ∧ t.2.2.2.1 = d ∧ t.2.2.2.2 = e) : t = (a, b, c, d, e) := by
  obtain ⟨t1, t2, t3, t4, t5⟩ := t
  obtain ⟨rfl, rfl, rfl, rfl, rfl⟩ := h
  rfl
theorem pc_aB0 : ∀ c, c < 60 → (ty_tt (27 + 2 * c) 0).1 = 2 ∧ (ty_tt (27 + 2 * c) 0).2.1 = 27 + 2 * c + 1 ∧ (ty_tt (27 + 2 * c) 0).2.2.1 = 0 ∧ (ty_tt (27 + 2 * c) 0).2.2.2.1 = 0 ∧ (ty_tt (27 + 2 * c) 0).2.2.2.2 = 0 := by decide +kernel
theorem pc_aB1 : ∀ c, c < 60 → (ty_tt (27 + 2 * c) 1).1 = 0 ∧ (ty_tt (27 + 2 * c) 1).2.1 = 0 ∧ (ty_tt (27 + 2 * c) 1).2.2.1 = 0 ∧ (ty_tt (27 + 2 * c) 1).2.2.2.1 = (-2147483648) ∧ (ty_tt (27 + 2 * c) 1).2.2.2.2 = 2147483647 := by decide +kernel
theorem pc_aB2 : ∀ c, c < 60 → (ty_tt (27 + 2 * c) 2).1 = 1 ∧ (ty_tt (27 + 2 * c) 2).2.1 = 0 ∧ (ty_tt (27 + 2 * c) 2).2.2.1 = 0 ∧ (ty_tt (27 + 2 * c) 2).2.2.2.1 = (-9223372036854775808) ∧ (ty_tt (27 + 2 * c) 2).2.2.2.2 = 9223372036854775807 := by decide +kernel
theorem pc_aB : ∀ c, c < 60 → ty_tt (27 + 2 * c) 0 = (2, 27 + 2 * c + 1, 0, 0, 0) ∧ ty_tt (27 + 2 * c) 1 = (0, 0, 0, (-2147483648), 2147483647) ∧ ty_tt (27 + 2 * c) 2 = (1, 0, 0, (-9223372036854775808), 9223372036854775807) := fun c hc => ⟨ty_V_ext (pc_aB0 c hc), ty_V_ext (pc_aB1 c hc), ty_V_ext (pc_aB2 c hc)⟩
theorem pc_aC : ∀ c, c < 60 → (ty_tab (27 + 2 * c + 1)).1 = 100 ∧ ty_ar (27 + 2 * c + 1) = true ∧ (ty_tab (27 + 2 * c + 1)).2.1 = 24 ∧ ty_tt (27 + 2 * c + 1) 0 = (0, 0, 0, (-2147483648), 2147483647) := by decide +kernel
theorem pc_aD : ∀ c, c < 60 → ty_ar (27 + 2 * c) = false ∧ ty_wr pW (27 + 2 * c) 1 = true ∧ ty_wr pW (27 + 2 * c) 2 = true ∧ ty_wr pW (27 + 2 * c + 1) 0 = true := by decide +kernel
theorem pc_all : ∀ c, c < 60 → pc_ok (27 + 2 * c) := fun c hc => by
  obtain ⟨a1, a2, a3, a4⟩ := pc_aA c hc
  obtain ⟨b1, b2, b3⟩ := pc_aB c hc
  obtain ⟨c1, c2, c3, c4⟩ := pc_aC c hc
  obtain ⟨d1, d2, d3, d4⟩ := pc_aD c hc
  exact ⟨a1, a2, a3, a4, b1, b2, b3, c1, c2, c3, c4, d1, d2, d3, d4⟩
theorem pI.go {g : ax_H} {c : List Nat} (hI : pI h) (P : pf c h g) (h1 : ¬ 24 ∈ c) (h2 : ¬ 0 ∈ c) (h3 : ¬ 15 ∈ c) : pI g := ⟨(P.2 24 0 h1).trans hI.1, (P.z h2 17).trans hI.2.1, (P.z h3 1).trans hI.2.2⟩
theorem pC.go {g : ax_H} {c : List Nat} (hC : pC h) (P : pf c h g) (h1 : ¬ 7 ∈ c) : pC g := fun k hk => (P.2 7 k h1).trans (hC k hk)
theorem p121_c (hlst : l.stackTraces = false) {X : ax_PX} {r : Int32} (hC : pC h) (K : ∀ (g : ax_H) (c : Int32), (c.toInt = 0 ∨ c.toInt = 1) → hy_H 0 g → pf [17, 18] h g → AR ax_ns l (ax_mm 121) 3 ty_R (ax_ret ax_ns (ax_mm 121) (pq_v h)) X 102 [(2, .int r), (1, .int c), (0, .ref 0)] [] g 0 0) : ∀ (n : Nat) (g : ax_H) (i c : Int32), i.toInt + n = 60 → 0 ≤ i.toInt → (c.toInt = 0 ∨ c.toInt = 1) → hy_H 0 g → pf [17, 18] h g → AR ax_ns l (ax_mm 121) 3 ty_R (ax_ret ax_ns (ax_mm 121) (pq_v h)) X 60 [(3, .int i), (2, .int r), (1, .int c), (0, .ref 0)] [] g 0 0 := by
  intro n
  induction n with
  | zero =>
    intro g i c hn i0 hc Hg Pg
    have Fg : ty_F pW g g := ty_F_refl _ _
    show AR _ _ _ _ _ _ _ 60 [(3, .int i), (2, .int r), (1, .int c), (0, .ref 0)] [] g _ _
    refine AR.s (pc' := 61) (lv' := [(3, .int i), (2, .int r), (1, .int c), (0, .ref 0)]) (st' := [.int i]) (h' := g) _ hn_121 hk_121_60 rfl ?_
    refine AR.s (pc' := 62) (lv' := [(3, .int i), (2, .int r), (1, .int c), (0, .ref 0)]) (st' := [.ref 0, .int i]) (h' := g) _ hn_121 hk_121_61 rfl ?_
    refine AR.gI hk_121_62 (by decide) Hg (q := 0) (n := 18) (by decide) (by decide +kernel) (by decide +kernel) (by decide) hy_t0_5 (fun x640 dx640 lx640 ux640 => ?_)
    show AR _ _ _ _ _ _ _ 65 [(3, .int i), (2, .int r), (1, .int c), (0, .ref 0)] [.int x640, .int i] g _ _
    have sx640 := hy_zi dx640
    refine AR.jge hk_121_65 (tgt := 102) (by decide) (fun p1 => ?_) (fun p2 => ?_)
    · refine AR.lessL (lv' := [(2, .int r), (1, .int c), (0, .ref 0)]) (List.forall_mem_cons.mpr ⟨⟨_, by simp, ax_le_rfl rfl⟩, (List.forall_mem_cons.mpr ⟨⟨_, by simp, ax_le_rfl rfl⟩, (List.forall_mem_cons.mpr ⟨⟨_, by simp, ax_le_rfl rfl⟩, (fun _ h => absurd h List.not_mem_nil)⟩)⟩)⟩) ?_
      exact K g c hc Hg Pg
    · exact absurd p2 (by omega)
  | succ n ih =>
    intro g i c hn i0 hc Hg Pg
    have Fg : ty_F pW g g := ty_F_refl _ _
    show AR _ _ _ _ _ _ _ 60 [(3, .int i), (2, .int r), (1, .int c), (0, .ref 0)] [] g _ _
    refine AR.s (pc' := 61) (lv' := [(3, .int i), (2, .int r), (1, .int c), (0, .ref 0)]) (st' := [.int i]) (h' := g) _ hn_121 hk_121_60 rfl ?_
    refine AR.s (pc' := 62) (lv' := [(3, .int i), (2, .int r), (1, .int c), (0, .ref 0)]) (st' := [.ref 0, .int i]) (h' := g) _ hn_121 hk_121_61 rfl ?_
    refine AR.gI hk_121_62 (by decide) Hg (q := 0) (n := 18) (by decide) (by decide +kernel) (by decide +kernel) (by decide) hy_t0_5 (fun x641 dx641 lx641 ux641 => ?_)
    show AR _ _ _ _ _ _ _ 65 [(3, .int i), (2, .int r), (1, .int c), (0, .ref 0)] [.int x641, .int i] g _ _
    have sx641 := hy_zi dx641
    refine AR.jge hk_121_65 (tgt := 102) (by decide) (fun p1 => ?_) (fun p2 => ?_)
    · refine AR.lessL (lv' := [(2, .int r), (1, .int c), (0, .ref 0)]) (List.forall_mem_cons.mpr ⟨⟨_, by simp, ax_le_rfl rfl⟩, (List.forall_mem_cons.mpr ⟨⟨_, by simp, ax_le_rfl rfl⟩, (List.forall_mem_cons.mpr ⟨⟨_, by simp, ax_le_rfl rfl⟩, (fun _ h => absurd h List.not_mem_nil)⟩)⟩)⟩) ?_
      exact K g c hc Hg Pg
    · refine AR.s (pc' := 69) (lv' := [(3, .int i), (2, .int r), (1, .int c), (0, .ref 0)]) (st' := [.ref 0]) (h' := g) _ hn_121 hk_121_68 rfl ?_
      refine AR.gR hk_121_69 (by decide) Hg (q := 0) (n := 18) (by decide) (by decide +kernel) (by decide +kernel) (by decide) hy_t0_10 ?_
      show AR _ _ _ _ _ _ _ 72 [(3, .int i), (2, .int r), (1, .int c), (0, .ref 0)] [.ref 17] g _ _
      refine AR.gI hk_121_72 (by decide) Hg (q := 17) (n := 2) (by decide) (by decide +kernel) (by decide +kernel) (by decide) hy_t17_1 (fun x642 dx642 lx642 ux642 => ?_)
      show AR _ _ _ _ _ _ _ 75 [(3, .int i), (2, .int r), (1, .int c), (0, .ref 0)] [.int x642] g _ _
      have sx642 := hy_zi dx642
      refine AR.zne hk_121_75 (tgt := 102) (by decide) (fun q1 => ?_) (fun q2 => ?_)
      · refine AR.lessL (lv' := [(2, .int r), (1, .int c), (0, .ref 0)]) (List.forall_mem_cons.mpr ⟨⟨_, by simp, ax_le_rfl rfl⟩, (List.forall_mem_cons.mpr ⟨⟨_, by simp, ax_le_rfl rfl⟩, (List.forall_mem_cons.mpr ⟨⟨_, by simp, ax_le_rfl rfl⟩, (fun _ h => absurd h List.not_mem_nil)⟩)⟩)⟩) ?_
        exact K g c hc Hg Pg
      · refine AR.s (pc' := 79) (lv' := [(3, .int i), (2, .int r), (1, .int c), (0, .ref 0)]) (st' := [.ref 0]) (h' := g) _ hn_121 hk_121_78 rfl ?_
        refine AR.gR hk_121_79 (by decide) Hg (q := 0) (n := 18) (by decide) (by decide +kernel) (by decide +kernel) (by decide) hy_t0_4 ?_
        show AR _ _ _ _ _ _ _ 82 [(3, .int i), (2, .int r), (1, .int c), (0, .ref 0)] [.ref 7] g _ _
        refine AR.s (pc' := 83) (lv' := [(3, .int i), (2, .int r), (1, .int c), (0, .ref 0)]) (st' := [.int i, .ref 7]) (h' := g) _ hn_121 hk_121_82 rfl ?_
        have PC := pc_all i.toInt.toNat (by omega)
        have ce : ty_fd g 7 i.toInt.toNat = some (.ref (27 + 2 * i.toInt.toNat)) := (Pg.2 7 _ (by decide)).trans (hC _ (by omega))
        refine AR.aaX (t := 4) hk_121_83 Hg (by decide) (by decide +kernel) rfl rfl i0 ce ?_
        generalize 27 + 2 * i.toInt.toNat = p at PC
        show AR _ _ _ _ _ _ _ 84 [(3, .int i), (2, .int r), (1, .int c), (0, .ref 0)] [.ref p] g _ _
        refine AR.s (pc' := 85) (lv' := [(3, .int i), (2, .int r), (1, .int c), (0, .ref 0)]) (st' := [.ref 0, .ref p]) (h' := g) _ hn_121 hk_121_84 rfl ?_
        refine AR.gR hk_121_85 (by decide) Hg (q := 0) (n := 18) (by decide) (by decide +kernel) (by decide +kernel) (by decide) hy_t0_10 ?_
        show AR _ _ _ _ _ _ _ 88 [(3, .int i), (2, .int r), (1, .int c), (0, .ref 0)] [.ref 17, .ref p] g _ _
        obtain ⟨vp, cp⟩ := p_cp Hg PC
        refine AR.jr (r := p) (as := [.ref 17]) (rest := []) hk_121_88 (by decide) (by decide +kernel) (by have := PC.2.1; omega) cp rfl rfl (Nat.le_of_ble_eq_true rfl) (p_13 hlst Hg PC) (by decide) (Nat.zero_le _) (Nat.zero_le _) ?_ (fun E h' q => by obtain ⟨-, -, _, e, -⟩ := q; cases e)
        rintro w g2 ⟨H2, Q2, z2, er, hz2⟩
        cases er
        have P2 : pf [17, 18] h g2 := pf.tr Pg Q2 (by simp)
        show AR _ _ _ _ _ _ _ 91 [(3, .int i), (2, .int r), (1, .int c), (0, .ref 0)] [.int z2] g2 _ _
        refine AR.zeq hk_121_91 (tgt := 96) (by decide) (fun r1 => ?_) (fun r2 => ?_)
        · refine AR.iincT hk_121_96 (x := i) rfl (by rw [hn_121]; decide) (by decide) (by omega) (by omega) (fun z643 ez643 => ?_)
          show AR _ _ _ _ _ _ _ 99 [(3, .int z643), (2, .int r), (1, .int c), (0, .ref 0)] [] g2 _ _
          refine AR.gotoT hk_121_99 (tgt := 60) (by decide) ?_
          refine AR.lessL (lv' := [(3, .int z643), (2, .int r), (1, .int c), (0, .ref 0)]) (List.forall_mem_cons.mpr ⟨⟨_, by simp, ax_le_rfl rfl⟩, (List.forall_mem_cons.mpr ⟨⟨_, by simp, ax_le_rfl rfl⟩, (List.forall_mem_cons.mpr ⟨⟨_, by simp, ax_le_rfl rfl⟩, (List.forall_mem_cons.mpr ⟨⟨_, by simp, ax_le_rfl rfl⟩, (fun _ h => absurd h List.not_mem_nil)⟩)⟩)⟩)⟩) ?_
          exact ih g2 z643 c (by omega) (by omega) (by omega) H2 P2
        · refine AR.iconstT hk_121_94 (by decide) (fun z644 ez644 => ?_)
          show AR _ _ _ _ _ _ _ 95 [(3, .int i), (2, .int r), (1, .int c), (0, .ref 0)] [.int z644] g2 _ _
          refine AR.s (pc' := 96) (lv' := [(1, .int z644), (3, .int i), (2, .int r), (0, .ref 0)]) (st' := []) (h' := g2) _ hn_121 hk_121_95 rfl ?_
          refine AR.iincT hk_121_96 (x := i) rfl (by rw [hn_121]; decide) (by decide) (by omega) (by omega) (fun z645 ez645 => ?_)
          show AR _ _ _ _ _ _ _ 99 [(3, .int z645), (1, .int z644), (2, .int r), (0, .ref 0)] [] g2 _ _
          refine AR.gotoT hk_121_99 (tgt := 60) (by decide) ?_
          refine AR.lessL (lv' := [(3, .int z645), (2, .int r), (1, .int z644), (0, .ref 0)]) (List.forall_mem_cons.mpr ⟨⟨_, by simp, ax_le_rfl rfl⟩, (List.forall_mem_cons.mpr ⟨⟨_, by simp, ax_le_rfl rfl⟩, (List.forall_mem_cons.mpr ⟨⟨_, by simp, ax_le_rfl rfl⟩, (List.forall_mem_cons.mpr ⟨⟨_, by simp, ax_le_rfl rfl⟩, (fun _ h => absurd h List.not_mem_nil)⟩)⟩)⟩)⟩) ?_
          exact ih g2 z645 z644 (by omega) (by omega) (by omega) H2 P2
theorem p121_r (hlst : l.stackTraces = false) {X : ax_PX} (hC : pC h) : ∀ (n : Nat) (g : ax_H) (r c : Int32), r.toInt + n = 13 → 0 ≤ r.toInt → (c.toInt = 0 ∨ c.toInt = 1) → hy_H 0 g → pf [17, 18] h g → AR ax_ns l (ax_mm 121) 3 ty_R (ax_ret ax_ns (ax_mm 121) (pq_v h)) X 46 [(2, .int r), (1, .int c), (0, .ref 0)] [] g 0 0 := by
  intro n
  induction n with
  | zero =>
    intro g r c hn r0 hc Hg Pg
    show AR _ _ _ _ _ _ _ 46 [(2, .int r), (1, .int c), (0, .ref 0)] [] g _ _
    refine AR.s (pc' := 47) (lv' := [(2, .int r), (1, .int c), (0, .ref 0)]) (st' := [.int r]) (h' := g) _ hn_121 hk_121_46 rfl ?_
    refine AR.bipushT hk_121_47 (by decide) (fun z646 ez646 => ?_)
    show AR _ _ _ _ _ _ _ 49 [(2, .int r), (1, .int c), (0, .ref 0)] [.int z646, .int r] g _ _
    refine AR.jgt hk_121_49 (tgt := 108) (by decide) (fun p1 => ?_) (fun p2 => ?_)
    · exact AR.vret hk_121_108 hr_121 ⟨rfl, Hg, Pg⟩
    · exact absurd p2 (by omega)
  | succ n ih =>
    intro g r c hn r0 hc Hg Pg
    show AR _ _ _ _ _ _ _ 46 [(2, .int r), (1, .int c), (0, .ref 0)] [] g _ _
    refine AR.s (pc' := 47) (lv' := [(2, .int r), (1, .int c), (0, .ref 0)]) (st' := [.int r]) (h' := g) _ hn_121 hk_121_46 rfl ?_
    refine AR.bipushT hk_121_47 (by decide) (fun z647 ez647 => ?_)
    show AR _ _ _ _ _ _ _ 49 [(2, .int r), (1, .int c), (0, .ref 0)] [.int z647, .int r] g _ _
    refine AR.jgt hk_121_49 (tgt := 108) (by decide) (fun p1 => ?_) (fun p2 => ?_)
    · exact AR.vret hk_121_108 hr_121 ⟨rfl, Hg, Pg⟩
    · refine AR.s (pc' := 53) (lv' := [(2, .int r), (1, .int c), (0, .ref 0)]) (st' := [.int c]) (h' := g) _ hn_121 hk_121_52 rfl ?_
      refine AR.zeq hk_121_53 (tgt := 108) (by decide) (fun q1 => ?_) (fun q2 => ?_)
      · exact AR.vret hk_121_108 hr_121 ⟨rfl, Hg, Pg⟩
      · refine AR.iconstT hk_121_56 (by decide) (fun z648 ez648 => ?_)
        show AR _ _ _ _ _ _ _ 57 [(2, .int r), (1, .int c), (0, .ref 0)] [.int z648] g _ _
        refine AR.s (pc' := 58) (lv' := [(1, .int z648), (2, .int r), (0, .ref 0)]) (st' := []) (h' := g) _ hn_121 hk_121_57 rfl ?_
        refine AR.iconstT hk_121_58 (by decide) (fun z649 ez649 => ?_)
        show AR _ _ _ _ _ _ _ 59 [(1, .int z648), (2, .int r), (0, .ref 0)] [.int z649] g _ _
        refine AR.s (pc' := 60) (lv' := [(3, .int z649), (1, .int z648), (2, .int r), (0, .ref 0)]) (st' := []) (h' := g) _ hn_121 hk_121_59 rfl ?_
        refine AR.lessL (lv' := [(3, .int z649), (2, .int r), (1, .int z648), (0, .ref 0)]) (List.forall_mem_cons.mpr ⟨⟨_, by simp, ax_le_rfl rfl⟩, (List.forall_mem_cons.mpr ⟨⟨_, by simp, ax_le_rfl rfl⟩, (List.forall_mem_cons.mpr ⟨⟨_, by simp, ax_le_rfl rfl⟩, (List.forall_mem_cons.mpr ⟨⟨_, by simp, ax_le_rfl rfl⟩, (fun _ h => absurd h List.not_mem_nil)⟩)⟩)⟩)⟩) ?_
        refine p121_c hlst hC (fun g2 c2 hc2 H2 P2 => ?_) 60 g z649 z648 (by omega) (by omega) (by omega) Hg Pg
        show AR _ _ _ _ _ _ _ 102 [(2, .int r), (1, .int c2), (0, .ref 0)] [] g2 _ _
        refine AR.iincT hk_121_102 (x := r) rfl (by rw [hn_121]; decide) (by decide) (by omega) (by omega) (fun z650 ez650 => ?_)
        show AR _ _ _ _ _ _ _ 105 [(2, .int z650), (1, .int c2), (0, .ref 0)] [] g2 _ _
        refine AR.gotoT hk_121_105 (tgt := 46) (by decide) ?_
        refine AR.lessL (lv' := [(2, .int z650), (1, .int c2), (0, .ref 0)]) (List.forall_mem_cons.mpr ⟨⟨_, by simp, ax_le_rfl rfl⟩, (List.forall_mem_cons.mpr ⟨⟨_, by simp, ax_le_rfl rfl⟩, (List.forall_mem_cons.mpr ⟨⟨_, by simp, ax_le_rfl rfl⟩, (fun _ h => absurd h List.not_mem_nil)⟩)⟩)⟩) ?_
        exact ih g2 z650 c2 (by omega) (by omega) hc2 H2 P2
theorem p_121 (hlst : l.stackTraces = false) (hH : hy_H 0 h) (hI : pI h) (hC : pC h) : AM ax_ns l (ax_mm 121) 3 ty_R (0) (0) [.ref 0] h (pq_v h) := by
  refine AM.of (ax_mfacts (by decide +kernel : ax_has 121 = true)).2.2.2.2.2.2 hlst (by rw [hn_121]; exact Nat.le_of_ble_eq_true rfl) ?_
  show AR ax_ns l (ax_mm 121) 3 ty_R _ _ 0 [(0, .ref 0)] [] h (0) (0)
  have P0 : pf [17, 18] h h := pf_r _ _
  refine AR.s (pc' := 1) (lv' := [(0, .ref 0)]) (st' := [.ref 0]) (h' := h) _ hn_121 hk_121_0 rfl ?_
  refine AR.gR hk_121_1 (by decide) hH (q := 0) (n := 18) (by decide) (by decide +kernel) (by decide +kernel) (by decide) hy_t0_10 ?_
  show AR _ _ _ _ _ _ _ 4 [(0, .ref 0)] [.ref 17] h _ _
  obtain ⟨v651, cv651⟩ := p_c17 hH
  refine AR.jr (r := 17) (as := []) (rest := []) hk_121_4 (by decide) (by decide +kernel) (by decide) cv651 rfl rfl (Nat.le_of_ble_eq_true rfl) (p_1 hlst hH) (by decide) (Nat.zero_le _) (Nat.zero_le _) ?_ (fun E h' q => by cases q.1)
  rintro w g652 ⟨er, Hg652, Qg652⟩
  cases er
  have Fg652 : ty_F pW g652 g652 := ty_F_refl _ _
  have Pg652 : pf [17, 18] h g652 := pf.tr P0 Qg652 (by simp)
  show AR _ _ _ _ _ _ _ 7 [(0, .ref 0)] [] g652 _ _
  have h15 : hy_z g652 15 1 = 0 := (Pg652.z (by decide) 1).trans hI.2.2
  refine AR.iconstT hk_121_7 (by decide) (fun z653 ez653 => ?_)
  show AR _ _ _ _ _ _ _ 8 [(0, .ref 0)] [.int z653] g652 _ _
  refine AR.s (pc' := 9) (lv' := [(1, .int z653), (0, .ref 0)]) (st' := []) (h' := g652) _ hn_121 hk_121_8 rfl ?_
  refine AR.s (pc' := 10) (lv' := [(1, .int z653), (0, .ref 0)]) (st' := [.int z653]) (h' := g652) _ hn_121 hk_121_9 rfl ?_
  refine AR.s (pc' := 11) (lv' := [(1, .int z653), (0, .ref 0)]) (st' := [.ref 0, .int z653]) (h' := g652) _ hn_121 hk_121_10 rfl ?_
  refine AR.gR hk_121_11 (by decide) Hg652 (q := 0) (n := 18) (by decide) (by decide +kernel) (by decide +kernel) (by decide) hy_t0_9 ?_
  show AR _ _ _ _ _ _ _ 14 [(1, .int z653), (0, .ref 0)] [.ref 15, .int z653] g652 _ _
  refine AR.gI hk_121_14 (by decide) Hg652 (q := 15) (n := 2) (by decide) (by decide +kernel) (by decide +kernel) (by decide) hy_t15_1 (fun x654 dx654 lx654 ux654 => ?_)
  show AR _ _ _ _ _ _ _ 17 [(1, .int z653), (0, .ref 0)] [.int x654, .int z653] g652 _ _
  have sx654 := hy_zi dx654
  refine AR.jge hk_121_17 (tgt := 42) (by decide) (fun p1 => ?_) (fun p2 => ?_)
  · refine AR.iconstT hk_121_42 (by decide) (fun z655 ez655 => ?_)
    show AR _ _ _ _ _ _ _ 43 [(1, .int z653), (0, .ref 0)] [.int z655] g652 _ _
    refine AR.s (pc' := 44) (lv' := [(1, .int z655), (0, .ref 0)]) (st' := []) (h' := g652) _ hn_121 hk_121_43 rfl ?_
    refine AR.iconstT hk_121_44 (by decide) (fun z656 ez656 => ?_)
    show AR _ _ _ _ _ _ _ 45 [(1, .int z655), (0, .ref 0)] [.int z656] g652 _ _
    refine AR.s (pc' := 46) (lv' := [(2, .int z656), (1, .int z655), (0, .ref 0)]) (st' := []) (h' := g652) _ hn_121 hk_121_45 rfl ?_
    refine AR.lessL (lv' := [(2, .int z656), (1, .int z655), (0, .ref 0)]) (List.forall_mem_cons.mpr ⟨⟨_, by simp, ax_le_rfl rfl⟩, (List.forall_mem_cons.mpr ⟨⟨_, by simp, ax_le_rfl rfl⟩, (List.forall_mem_cons.mpr ⟨⟨_, by simp, ax_le_rfl rfl⟩, (fun _ h => absurd h List.not_mem_nil)⟩)⟩)⟩) ?_
    exact p121_r hlst hC 13 g652 z656 z655 (by omega) (by omega) (by omega) Hg652 Pg652
  · exact absurd p2 (by omega)
theorem p_cell {q t : Nat} (hH : hy_H 0 h) (hq : q < 181) (ht : (ty_tab q).1 = t) : ∃ vs, h[q]? = some (t, vs) := by
  obtain ⟨vs, e1, -⟩ := hy_cell hH hq
  rw [ht] at e1
  exact ⟨vs, e1⟩
/-- the sum of the mask with the lower variables k and the upper ones w -/
def sm (c : Nat → Int) (w k : Nat) : Int := tb c 0 6 k + tb c 6 6 w
def pq_119 (h : ax_H) (n p : Nat) : ax_Q := fun res g => hy_H 0 g ∧ pI g ∧ pC g ∧ pf [0, 8, 9, 13, 14, 17, 18, 148, p, p + 1] h g ∧ (∃ z : Int32, res = .inl (some (.int z)) ∧ z.toInt = n) ∧ (∀ j, hy_z g 0 j = if j = 5 then (n : Int) + 1 else hy_z h 0 j) ∧ hy_z g p 1 = nd (hy_z h 9) (hy_z h 8 1) 12 ∧ (∀ k, k < 24 → hy_z g (p + 1) k = nf (hy_z h 9) k) ∧ ∀ w, w < 64 → ∀ k, k < 64 → pb (hw g 148 w) k = (pb (hw h 148 w) k && decide (nd (hy_z h 9) (hy_z h 8 1) 12 ≤ sm (hy_z g (p + 1)) w k))
theorem nd_b6 {f : Nat → Int} {d : Int} (hf : ∀ k, k < 24 → 0 ≤ f k ∧ f k ≤ 1000000) (hd : -1000000 ≤ d ∧ d ≤ 1000000) : ∀ n, n ≤ 12 → -1000000 ≤ nd f d n ∧ nd f d n ≤ 1000000
  | 0, _ => hd
  | n + 1, h => by
    have a := nd_b6 hf hd n (by omega)
    have b := hf (2 * n) (by omega)
    have c := hf (2 * n + 1) (by omega)
    show -1000000 ≤ max 0 (nd f d n - min (f (2 * n)) (f (2 * n + 1))) ∧ max 0 (nd f d n - min (f (2 * n)) (f (2 * n + 1))) ≤ 1000000
    omega
theorem p_119 (hlst : l.stackTraces = false) {n p : Nat} (hH : hy_H 0 h) (hI : pI h) (hC : pC h) (hn : hy_z h 0 5 = n) (hn2 : n < 60) (hp : p = 27 + 2 * n) (f9 : ∀ k, k < 24 → 0 ≤ hy_z h 9 k ∧ hy_z h 9 k ≤ 1000000) (f8 : -1000000 ≤ hy_z h 8 1 ∧ hy_z h 8 1 ≤ 1000000) : AM ax_ns l (ax_mm 119) 4 ty_R (0) (0) [.ref 0] h (pq_119 h n p) := by
  refine AM.of (ax_mfacts (by decide +kernel : ax_has 119 = true)).2.2.2.2.2.2 hlst (by rw [hn_119]; exact Nat.le_of_ble_eq_true rfl) ?_
  show AR ax_ns l (ax_mm 119) 4 ty_R _ _ 0 [(0, .ref 0)] [] h (0) (0)
  have PC : pc_ok p := by rw [hp]; exact pc_all n hn2
  have P27 : 27 ≤ p := by omega
  refine AR.s (pc' := 1) (lv' := [(0, .ref 0)]) (st' := [.ref 0]) (h' := h) _ hn_119 hk_119_0 rfl ?_
  refine AR.gR hk_119_1 (by decide) hH (q := 0) (n := 18) (by decide) (by decide +kernel) (by decide +kernel) (by decide) hy_t0_6 ?_
  show AR _ _ _ _ _ _ _ 4 [(0, .ref 0)] [.ref 8] h _ _
  obtain ⟨v657, cv657⟩ := p_cell hH (q := 8) (by decide) (by decide +kernel : (ty_tab 8).1 = 2)
  refine AR.jr (r := 8) (as := []) (rest := []) hk_119_4 (by decide) (by decide +kernel) (by decide) cv657 rfl rfl (Nat.le_of_ble_eq_true rfl) (p_26 hlst hH (fun k hk => by have := f9 k hk; omega) (by omega)) (by decide) (Nat.zero_le _) (Nat.zero_le _) ?_ (fun E h' q => by cases q.1)
  rintro w g1 ⟨e1, H1, P1, d1, v1⟩
  cases e1
  have Hg1 := H1
  show AR _ _ _ _ _ _ _ 7 [(0, .ref 0)] [] g1 _ _
  refine AR.s (pc' := 8) (lv' := [(0, .ref 0)]) (st' := [.ref 0]) (h' := g1) _ hn_119 hk_119_7 rfl ?_
  refine AR.gI hk_119_8 (by decide) Hg1 (q := 0) (n := 18) (by decide) (by decide +kernel) (by decide +kernel) (by decide) hy_t0_5 (fun x658 dx658 lx658 ux658 => ?_)
  show AR _ _ _ _ _ _ _ 11 [(0, .ref 0)] [.int x658] g1 _ _
  have sx658 := hy_zi dx658
  refine AR.s (pc' := 12) (lv' := [(1, .int x658), (0, .ref 0)]) (st' := []) (h' := g1) _ hn_119 hk_119_11 rfl ?_
  have nn : hy_z g1 0 5 = n := (P1.z (by decide) 5).trans hn
  have hI1 := hI.go P1 (by decide) (by decide) (by decide)
  have hC1 := hC.go P1 (by decide)
  have nb : ∀ k, k < 24 → 0 ≤ nf (hy_z h 9) k ∧ nf (hy_z h 9) k ≤ 1000000 := fun k hk => by
    have a := f9 k hk
    have b := f9 (2 * (k / 2)) (by omega)
    have c := f9 (2 * (k / 2) + 1) (by omega)
    unfold nf
    rcases (by omega : k = 2 * (k / 2) ∨ k = 2 * (k / 2) + 1) with e | e
    · rw [← e] at b c ⊢; omega
    · rw [← e] at c ⊢; omega
  have db : -1000000 ≤ nd (hy_z h 9) (hy_z h 8 1) 12 ∧ nd (hy_z h 9) (hy_z h 8 1) 12 ≤ 1000000 := nd_b6 f9 f8 12 (by decide)
  show AR _ _ _ _ _ _ _ 12 [(1, .int x658), (0, .ref 0)] [] g1 _ _
  refine AR.s (pc' := 13) (lv' := [(1, .int x658), (0, .ref 0)]) (st' := [.ref 0]) (h' := g1) _ hn_119 hk_119_12 rfl ?_
  refine AR.gR hk_119_13 (by decide) Hg1 (q := 0) (n := 18) (by decide) (by decide +kernel) (by decide +kernel) (by decide) hy_t0_4 ?_
  show AR _ _ _ _ _ _ _ 16 [(1, .int x658), (0, .ref 0)] [.ref 7] g1 _ _
  refine AR.s (pc' := 17) (lv' := [(1, .int x658), (0, .ref 0)]) (st' := [.int x658, .ref 7]) (h' := g1) _ hn_119 hk_119_16 rfl ?_
  have ce1 : ty_fd g1 7 x658.toInt.toNat = some (.ref p) := by rw [show x658.toInt.toNat = n from by omega, hp]; exact hC1 n hn2
  refine AR.aaX (t := 4) hk_119_17 H1 (by decide) (by decide +kernel) rfl rfl (by omega) ce1 ?_
  show AR _ _ _ _ _ _ _ 18 [(1, .int x658), (0, .ref 0)] [.ref p] g1 _ _
  refine AR.s (pc' := 19) (lv' := [(1, .int x658), (0, .ref 0)]) (st' := [.ref 0, .ref p]) (h' := g1) _ hn_119 hk_119_18 rfl ?_
  refine AR.gR hk_119_19 (by decide) Hg1 (q := 0) (n := 18) (by decide) (by decide +kernel) (by decide +kernel) (by decide) hy_t0_6 ?_
  show AR _ _ _ _ _ _ _ 22 [(1, .int x658), (0, .ref 0)] [.ref 8, .ref p] g1 _ _
  obtain ⟨vp, cp⟩ := p_cp H1 PC
  refine AR.jr (r := p) (as := [.ref 8]) (rest := []) hk_119_22 (by decide) (by decide +kernel) (by have := PC.2.1; omega) cp rfl rfl (Nat.le_of_ble_eq_true rfl) (p_7 hlst (p := p) H1 PC (fun k hk => by rw [v1 k hk]; have := nb k hk; omega) (by rw [d1]; omega)) (by decide) (Nat.zero_le _) (Nat.zero_le _) ?_ (fun E h' q => by cases q.1)
  rintro w g2 ⟨e2, H2, P2, d2, v2⟩
  cases e2
  have Hg2 := H2
  have nn2 : hy_z g2 0 5 = n := (P2.z (by simp; omega) 5).trans nn
  have hI2 := hI1.go P2 (by simp; omega) (by simp; omega) (by simp; omega)
  have hC2 := hC1.go P2 (by simp; omega)
  have Fg2 : ty_F pW g2 g2 := ty_F_refl _ _
  show AR _ _ _ _ _ _ _ 25 [(1, .int x658), (0, .ref 0)] [] g2 _ _
  refine AR.s (pc' := 26) (lv' := [(1, .int x658), (0, .ref 0)]) (st' := [.ref 0]) (h' := g2) _ hn_119 hk_119_25 rfl ?_
  refine AR.s (pc' := 27) (lv' := [(1, .int x658), (0, .ref 0)]) (st' := [.ref 0, .ref 0]) (h' := g2) _ hn_119 hk_119_26 rfl ?_
  refine AR.gI hk_119_27 (by decide) Hg2 (q := 0) (n := 18) (by decide) (by decide +kernel) (by decide +kernel) (by decide) hy_t0_5 (fun x659 dx659 lx659 ux659 => ?_)
  show AR _ _ _ _ _ _ _ 30 [(1, .int x658), (0, .ref 0)] [.int x659, .ref 0] g2 _ _
  have sx659 := hy_zi dx659
  refine AR.iconstT hk_119_30 (by decide) (fun z660 ez660 => ?_)
  show AR _ _ _ _ _ _ _ 31 [(1, .int x658), (0, .ref 0)] [.int z660, .int x659, .ref 0] g2 _ _
  refine AR.addT hk_119_31 (by omega) (by omega) (fun z661 ez661 => ?_)
  show AR _ _ _ _ _ _ _ 32 [(1, .int x658), (0, .ref 0)] [.int z661, .ref 0] g2 _ _
  refine AR.pT hk_119_32 (by decide) Hg2 Fg2 (q := 0) (by decide) (by decide +kernel) (show ax_cls[8]? = some hy_c8 from rfl) (by decide +kernel) (by decide) rfl (by rw [hy_t0_5]; exact ⟨_, rfl, by omega, by omega, Or.inl rfl⟩) (by decide +kernel) (by decide +kernel) ?_
  rintro g662 ⟨Hg662, Fg662, Gg662, Eg662⟩
  show AR _ _ _ _ _ _ _ 35 [(1, .int x658), (0, .ref 0)] [] g662 _ _
  have z3 : ∀ q j, hy_z g662 q j = if q = 0 ∧ j = 5 then z661.toInt else hy_z g2 q j := fun q j => by
    by_cases e : q = 0 ∧ j = 5
    · rw [if_pos e]; exact hy_zi (by rw [Eg662, if_pos e])
    · rw [if_neg e]; exact hy_ze (by rw [Eg662, if_neg e])
  have P3 : pf [0] g2 g662 := pf_st (pf_r _ _) Gg662.1 Eg662 (by simp)
  have hI3 : pI g662 := ⟨(P3.2 24 0 (by decide)).trans hI2.1, by rw [z3, if_neg (by decide)]; exact hI2.2.1, by rw [z3, if_neg (by decide)]; exact hI2.2.2⟩
  have hC3 := hC2.go P3 (by decide)
  show AR _ _ _ _ _ _ _ 35 [(1, .int x658), (0, .ref 0)] [] g662 _ _
  refine AR.s (pc' := 36) (lv' := [(1, .int x658), (0, .ref 0)]) (st' := [.ref 0]) (h' := g662) _ hn_119 hk_119_35 rfl ?_
  refine AR.gR hk_119_36 (by decide) Hg662 (q := 0) (n := 18) (by decide) (by decide +kernel) (by decide +kernel) (by decide) hy_t0_8 ?_
  show AR _ _ _ _ _ _ _ 39 [(1, .int x658), (0, .ref 0)] [.ref 12] g662 _ _
  refine AR.s (pc' := 40) (lv' := [(1, .int x658), (0, .ref 0)]) (st' := [.ref 0, .ref 12]) (h' := g662) _ hn_119 hk_119_39 rfl ?_
  refine AR.gR hk_119_40 (by decide) Hg662 (q := 0) (n := 18) (by decide) (by decide +kernel) (by decide +kernel) (by decide) hy_t0_4 ?_
  show AR _ _ _ _ _ _ _ 43 [(1, .int x658), (0, .ref 0)] [.ref 7, .ref 12] g662 _ _
  refine AR.s (pc' := 44) (lv' := [(1, .int x658), (0, .ref 0)]) (st' := [.int x658, .ref 7, .ref 12]) (h' := g662) _ hn_119 hk_119_43 rfl ?_
  have ce3 : ty_fd g662 7 x658.toInt.toNat = some (.ref p) := by rw [show x658.toInt.toNat = n from by omega, hp]; exact hC3 n hn2
  refine AR.aaX (t := 4) hk_119_44 Hg662 (by decide) (by decide +kernel) rfl rfl (by omega) ce3 ?_
  show AR _ _ _ _ _ _ _ 45 [(1, .int x658), (0, .ref 0)] [.ref p, .ref 12] g662 _ _
  obtain ⟨v663, cv663⟩ := p_cell Hg662 (q := 12) (by decide) (by decide +kernel : (ty_tab 12).1 = 4)
  refine AR.jr (r := 12) (as := [.ref p]) (rest := []) hk_119_45 (by decide) (by decide +kernel) (by decide) cv663 rfl rfl (Nat.le_of_ble_eq_true rfl) (p_37 hlst Hg662 PC (Or.inl (by omega))) (by decide) (Nat.zero_le _) (Nat.zero_le _) ?_ (fun E h' q => by cases q.1)
  rintro w g4 ⟨e4, H4, P4, lo4, up4⟩
  cases e4
  have Hg4 := H4
  have hI4 := hI3.go P4 (by decide) (by decide) (by decide)
  have hC4 := hC3.go P4 (by decide)
  show AR _ _ _ _ _ _ _ 48 [(1, .int x658), (0, .ref 0)] [] g4 _ _
  refine AR.s (pc' := 49) (lv' := [(1, .int x658), (0, .ref 0)]) (st' := [.ref 0]) (h' := g4) _ hn_119 hk_119_48 rfl ?_
  obtain ⟨v0, c0⟩ := p_c8 H4
  refine AR.jr (r := 0) (as := []) (rest := []) hk_119_49 (by decide) (by decide +kernel) (by decide) c0 rfl rfl (Nat.le_of_ble_eq_true rfl) (p_122 hlst H4 hI4) (by decide) (Nat.zero_le _) (Nat.zero_le _) ?_ (fun E h' q => by cases q.2)
  rintro w g9 ⟨eg, er⟩
  cases er
  obtain rfl := eg.symm
  show AR _ _ _ _ _ _ _ 52 [(1, .int x658), (0, .ref 0)] [.ref 147] g4 _ _
  refine AR.s (pc' := 53) (lv' := [(1, .int x658), (0, .ref 0)]) (st' := [.ref 0, .ref 147]) (h' := g4) _ hn_119 hk_119_52 rfl ?_
  refine AR.gR hk_119_53 (by decide) Hg4 (q := 0) (n := 18) (by decide) (by decide +kernel) (by decide +kernel) (by decide) hy_t0_8 ?_
  show AR _ _ _ _ _ _ _ 56 [(1, .int x658), (0, .ref 0)] [.ref 12, .ref 147] g4 _ _
  refine AR.s (pc' := 57) (lv' := [(1, .int x658), (0, .ref 0)]) (st' := [.ref 0, .ref 12, .ref 147]) (h' := g4) _ hn_119 hk_119_56 rfl ?_
  refine AR.gR hk_119_57 (by decide) Hg4 (q := 0) (n := 18) (by decide) (by decide +kernel) (by decide +kernel) (by decide) hy_t0_4 ?_
  show AR _ _ _ _ _ _ _ 60 [(1, .int x658), (0, .ref 0)] [.ref 7, .ref 12, .ref 147] g4 _ _
  refine AR.s (pc' := 61) (lv' := [(1, .int x658), (0, .ref 0)]) (st' := [.int x658, .ref 7, .ref 12, .ref 147]) (h' := g4) _ hn_119 hk_119_60 rfl ?_
  have ce4 : ty_fd g4 7 x658.toInt.toNat = some (.ref p) := by rw [show x658.toInt.toNat = n from by omega, hp]; exact hC4 n hn2
  refine AR.aaX (t := 4) hk_119_61 H4 (by decide) (by decide +kernel) rfl rfl (by omega) ce4 ?_
  show AR _ _ _ _ _ _ _ 62 [(1, .int x658), (0, .ref 0)] [.ref p, .ref 12, .ref 147] g4 _ _
  refine AR.gI hk_119_62 (by decide) Hg4 (q := p) (n := 3) (by have := PC.2.1; omega) PC.2.2.1 PC.2.2.2.1 (by decide) PC.2.2.2.2.2.1 (fun x664 dx664 lx664 ux664 => ?_)
  have sx664 := hy_zi dx664
  show AR _ _ _ _ _ _ _ 65 [(1, .int x658), (0, .ref 0)] [.int x664, .ref 12, .ref 147] g4 _ _
  refine AR.i2lT hk_119_65 (fun z665 ez665 => ?_)
  show AR _ _ _ _ _ _ _ 66 [(1, .int x658), (0, .ref 0)] [.long z665, .ref 12, .ref 147] g4 _ _
  have q4 : ∀ j, hy_z g4 p j = hy_z g2 p j := fun j => by rw [P4.z (by simp; omega), z3, if_neg (by omega)]
  have r4 : ∀ j, hy_z g4 (p + 1) j = hy_z g2 (p + 1) j := fun j => by rw [P4.z (by simp; omega), z3, if_neg (by omega)]
  have m4 : z665.toInt = nd (hy_z h 9) (hy_z h 8 1) 12 := by have := q4 1; omega
  have cz : ∀ k, k < 24 → -2147483648 ≤ hy_z g662 (p + 1) k ∧ hy_z g662 (p + 1) k ≤ 2147483647 := hy_cz Hg662 PC
  have ub : ∀ u, u < 64 → -1000000000000 ≤ hy_z g4 14 u ∧ hy_z g4 14 u ≤ 1000000000000 := fun u hu => by rw [up4 u hu]; have := tb_bd (o := 6) cz 6 u (by decide); omega
  obtain ⟨v666, cv666⟩ := p_cell Hg4 (q := 147) (by decide) (by decide +kernel : (ty_tab 147).1 = 5)
  refine AR.jr (r := 147) (as := [.ref 12, .long z665]) (rest := []) hk_119_66 (by decide) (by decide +kernel) (by decide) cv666 rfl rfl (Nat.le_of_ble_eq_true rfl) (p_42 hlst H4 (by omega) ub) (by decide) (Nat.zero_le _) (Nat.zero_le _) ?_ (fun E h' q => by cases q.1)
  rintro w g5 ⟨e5, H5, P5, w5⟩
  cases e5
  have Hg5 := H5
  have hI5 := hI4.go P5 (by decide) (by decide) (by decide)
  have hC5 := hC4.go P5 (by decide)
  show AR _ _ _ _ _ _ _ 69 [(1, .int x658), (0, .ref 0)] [] g5 _ _
  refine AR.s (pc' := 70) (lv' := [(1, .int x658), (0, .ref 0)]) (st' := [.ref 0]) (h' := g5) _ hn_119 hk_119_69 rfl ?_
  obtain ⟨v667, cv667⟩ := p_cell Hg5 (q := 0) (by decide) (by decide +kernel : (ty_tab 0).1 = 8)
  refine AR.jr (r := 0) (as := []) (rest := []) hk_119_70 (by decide) (by decide +kernel) (by decide) cv667 rfl rfl (Nat.le_of_ble_eq_true rfl) (p_121 hlst H5 hI5 hC5) (by decide) (Nat.zero_le _) (Nat.zero_le _) ?_ (fun E h' q => by cases q.1)
  rintro w g6 ⟨e6, H6, P6⟩
  cases e6
  have Hg6 := H6
  show AR _ _ _ _ _ _ _ 73 [(1, .int x658), (0, .ref 0)] [] g6 _ _
  refine AR.s (pc' := 74) (lv' := [(1, .int x658), (0, .ref 0)]) (st' := [.int x658]) (h' := g6) _ hn_119 hk_119_73 rfl ?_
  refine AR.iret hk_119_74 hr_119 ⟨H6, hI5.go P6 (by decide) (by decide) (by decide), hC5.go P6 (by decide), ?_, ⟨_, rfl, by omega⟩, fun j => ?_, ?_, fun k hk => ?_, fun w hw0 k hk => ?_⟩
  · exact pf.tr (pf.tr (pf.tr (pf.tr (pf.tr (pf.tr (pf_r _ h) P1 (by simp)) P2 (by simp)) P3 (by simp)) P4 (by simp)) P5 (by simp)) P6 (by simp)
  · rw [P6.z (by decide), P5.z (by decide), P4.z (by decide), z3]
    by_cases e : j = 5
    · rw [if_pos ⟨rfl, e⟩, if_pos e]; omega
    · rw [if_neg (fun c => e c.2), if_neg e, P2.z (by simp; omega), P1.z (by decide)]
  · rw [P6.z (by simp; omega), P5.z (by simp; omega), q4, d2, d1]
  · rw [P6.z (by simp; omega), P5.z (by simp; omega), r4, v2 k hk, v1 k hk]
  · have ec : hy_z g6 (p + 1) = hy_z g662 (p + 1) := funext fun j => by rw [P6.z (by simp; omega), P5.z (by simp; omega), P4.z (by simp; omega)]
    rw [P6.w (by decide), w5 w hw0 k hk, P4.w (by decide), P3.w (by decide), P2.w (by simp; omega), P1.w (by decide), ec]
    unfold pR sm
    rw [m4, lo4 k hk, up4 w hw0]
def pq_27 (h : ax_H) : ax_Q := fun res g => g = h ∧ ∃ z : Int32, res = .inl (some (.int z)) ∧ z.toInt = 1
theorem p27_L (hlst : l.stackTraces = false) {X : ax_PX} (hH : hy_H 0 h) (f9 : ∀ k, k < 24 → hy_z h 9 k ≤ 1000000000) (f8 : hy_z h 8 1 ≤ 1000000000) : ∀ (n : Nat) (i : Int32), i.toInt + n = 24 → 0 ≤ i.toInt → AR ax_ns l (ax_mm 27) 0 ty_R (ax_ret ax_ns (ax_mm 27) (pq_27 h)) X 2 [(1, .int i), (0, .ref 8)] [] h 0 0 := by
  intro n
  induction n with
  | zero =>
    intro i hn i0
    show AR _ _ _ _ _ _ _ 2 [(1, .int i), (0, .ref 8)] [] h _ _
    refine AR.s (pc' := 3) (lv' := [(1, .int i), (0, .ref 8)]) (st' := [.int i]) (h' := h) _ hn_27 hk_27_2 rfl ?_
    refine AR.bipushT hk_27_3 (by decide) (fun z668 ez668 => ?_)
    show AR _ _ _ _ _ _ _ 5 [(1, .int i), (0, .ref 8)] [.int z668, .int i] h _ _
    refine AR.jge hk_27_5 (tgt := 29) (by decide) (fun p1 => ?_) (fun p2 => ?_)
    · refine AR.s (pc' := 30) (lv' := [(1, .int i), (0, .ref 8)]) (st' := [.ref 8]) (h' := h) _ hn_27 hk_27_29 rfl ?_
      refine AR.gL hk_27_30 (by decide) hH (q := 8) (n := 2) (by decide) (by decide +kernel) (by decide +kernel) (by decide) hy_t8_1 (fun x669 dx669 lx669 ux669 => ?_)
      show AR _ _ _ _ _ _ _ 33 [(1, .int i), (0, .ref 8)] [.long x669] h _ _
      have sx669 := hy_zl dx669
      refine AR.ldc2T hk_27_33 (fun z670 ez670 => ?_)
      have kz670 : z670 = 1000000000 := Int64.toInt_inj.mp (ez670.trans (by decide))
      show AR _ _ _ _ _ _ _ 36 [(1, .int i), (0, .ref 8)] [.long z670, .long x669] h _ _
      have zz : z670.toInt = 1000000000 := by rw [kz670]; rfl
      refine AR.lcmpT hk_27_36 (fun c cc => ?_)
      obtain ⟨cc1, cc2, cc3⟩ := cc
      have c0 : c.toInt ≤ 0 := by rcases Int.lt_trichotomy x669.toInt z670.toInt with w | w | w; have := cc1 w; omega; have := cc2 w; omega; omega
      show AR _ _ _ _ _ _ _ 37 [(1, .int i), (0, .ref 8)] [.int c] h _ _
      refine AR.zgt hk_27_37 (tgt := 44) (by decide) (fun q1 => ?_) (fun q2 => ?_)
      · exact absurd q1 (by omega)
      · refine AR.iconstT hk_27_40 (by decide) (fun z671 ez671 => ?_)
        show AR _ _ _ _ _ _ _ 41 [(1, .int i), (0, .ref 8)] [.int z671] h _ _
        refine AR.gotoT hk_27_41 (tgt := 45) (by decide) ?_
        exact AR.zret hk_27_45 hr_27 (Or.inr (by omega)) ⟨rfl, _, rfl, by omega⟩
    · exact absurd p2 (by omega)
  | succ n ih =>
    intro i hn i0
    show AR _ _ _ _ _ _ _ 2 [(1, .int i), (0, .ref 8)] [] h _ _
    refine AR.s (pc' := 3) (lv' := [(1, .int i), (0, .ref 8)]) (st' := [.int i]) (h' := h) _ hn_27 hk_27_2 rfl ?_
    refine AR.bipushT hk_27_3 (by decide) (fun z672 ez672 => ?_)
    show AR _ _ _ _ _ _ _ 5 [(1, .int i), (0, .ref 8)] [.int z672, .int i] h _ _
    refine AR.jge hk_27_5 (tgt := 29) (by decide) (fun p1 => ?_) (fun p2 => ?_)
    · exact absurd p1 (by omega)
    · have xk : i.toNatClampNeg = i.toInt.toNat := rfl
      have h91 := f9 i.toInt.toNat (by omega)
      show AR _ _ _ _ _ _ _ 8 [(1, .int i), (0, .ref 8)] [] h _ _
      refine AR.s (pc' := 9) (lv' := [(1, .int i), (0, .ref 8)]) (st' := [.ref 8]) (h' := h) _ hn_27 hk_27_8 rfl ?_
      refine AR.gR hk_27_9 (by decide) hH (q := 8) (n := 2) (by decide) (by decide +kernel) (by decide +kernel) (by decide) hy_t8_0 ?_
      show AR _ _ _ _ _ _ _ 12 [(1, .int i), (0, .ref 8)] [.ref 9] h _ _
      refine AR.s (pc' := 13) (lv' := [(1, .int i), (0, .ref 8)]) (st' := [.int i, .ref 9]) (h' := h) _ hn_27 hk_27_12 rfl ?_
      refine AR.laI hk_27_13 hH (q := 9) (n := 24) (by decide) (by decide +kernel) (by decide +kernel) (by decide +kernel) hy_t9_0 (by omega) (by omega) (fun x673 dx673 lx673 ux673 => ?_)
      show AR _ _ _ _ _ _ _ 14 [(1, .int i), (0, .ref 8)] [.long x673] h _ _
      rw [xk] at dx673
      have xex673 := hy_zl dx673
      show AR _ _ _ _ _ _ _ 14 [(1, .int i), (0, .ref 8)] [.long x673] h _ _
      refine AR.ldc2T hk_27_14 (fun z674 ez674 => ?_)
      have kz674 : z674 = 1000000000 := Int64.toInt_inj.mp (ez674.trans (by decide))
      show AR _ _ _ _ _ _ _ 17 [(1, .int i), (0, .ref 8)] [.long z674, .long x673] h _ _
      have zz : z674.toInt = 1000000000 := by rw [kz674]; rfl
      refine AR.lcmpT hk_27_17 (fun c cc => ?_)
      obtain ⟨cc1, cc2, cc3⟩ := cc
      have c0 : c.toInt ≤ 0 := by rcases Int.lt_trichotomy x673.toInt z674.toInt with w | w | w; have := cc1 w; omega; have := cc2 w; omega; omega
      show AR _ _ _ _ _ _ _ 18 [(1, .int i), (0, .ref 8)] [.int c] h _ _
      refine AR.zle hk_27_18 (tgt := 23) (by decide) (fun q1 => ?_) (fun q2 => ?_)
      · refine AR.iincT hk_27_23 (x := i) rfl (by rw [hn_27]; decide) (by decide) (by omega) (by omega) (fun z675 ez675 => ?_)
        show AR _ _ _ _ _ _ _ 26 [(1, .int z675), (0, .ref 8)] [] h _ _
        refine AR.gotoT hk_27_26 (tgt := 2) (by decide) ?_
        refine AR.lessL (lv' := [(1, .int z675), (0, .ref 8)]) (List.forall_mem_cons.mpr ⟨⟨_, by simp, ax_le_rfl rfl⟩, (List.forall_mem_cons.mpr ⟨⟨_, by simp, ax_le_rfl rfl⟩, (fun _ h => absurd h List.not_mem_nil)⟩)⟩) ?_
        exact ih z675 (by omega) (by omega)
      · exact absurd q2 (by omega)
theorem p_27 (hlst : l.stackTraces = false) (hH : hy_H 0 h) (f9 : ∀ k, k < 24 → hy_z h 9 k ≤ 1000000000) (f8 : hy_z h 8 1 ≤ 1000000000) : AM ax_ns l (ax_mm 27) 0 ty_R (0) (0) [.ref 8] h (pq_27 h) := by
  refine AM.of (ax_mfacts (by decide +kernel : ax_has 27 = true)).2.2.2.2.2.2 hlst (by rw [hn_27]; exact Nat.le_of_ble_eq_true rfl) ?_
  show AR ax_ns l (ax_mm 27) 0 ty_R _ _ 0 [(0, .ref 8)] [] h (0) (0)
  refine AR.iconstT hk_27_0 (by decide) (fun z676 ez676 => ?_)
  show AR _ _ _ _ _ _ _ 1 [(0, .ref 8)] [.int z676] h _ _
  refine AR.s (pc' := 2) (lv' := [(1, .int z676), (0, .ref 8)]) (st' := []) (h' := h) _ hn_27 hk_27_1 rfl ?_
  refine AR.lessL (lv' := [(1, .int z676), (0, .ref 8)]) (List.forall_mem_cons.mpr ⟨⟨_, by simp, ax_le_rfl rfl⟩, (List.forall_mem_cons.mpr ⟨⟨_, by simp, ax_le_rfl rfl⟩, (fun _ h => absurd h List.not_mem_nil)⟩)⟩) ?_
  exact p27_L hlst hH f9 f8 24 z676 (by omega) (by omega)
theorem nd_c {f f' : Nat → Int} {d : Int} (e : ∀ k, k < 24 → f k = f' k) : ∀ n, n ≤ 12 → nd f d n = nd f' d n
  | 0, _ => rfl
  | n + 1, h => by
    show max 0 (nd f d n - min (f (2 * n)) (f (2 * n + 1))) = max 0 (nd f' d n - min (f' (2 * n)) (f' (2 * n + 1)))
    rw [nd_c e n (by omega), e _ (by omega), e _ (by omega)]
theorem nf_c {f f' : Nat → Int} (e : ∀ k, k < 24 → f k = f' k) {k : Nat} (hk : k < 24) : nf f k = nf f' k := by
  unfold nf
  rw [e k hk, e _ (by omega), e _ (by omega)]
theorem nf_0 (f : Nat → Int) (m : Nat) : min (nf f (2 * m)) (nf f (2 * m + 1)) = 0 := by
  unfold nf
  rw [show 2 * m / 2 = m from by omega, show (2 * m + 1) / 2 = m from by omega]
  omega
theorem nf_id (f : Nat → Int) (k : Nat) : nf (nf f) k = nf f k := by
  show nf f k - min (nf f (2 * (k / 2))) (nf f (2 * (k / 2) + 1)) = nf f k
  rw [nf_0]
  omega
theorem nd_0 (f : Nat → Int) (d : Int) : 0 ≤ nd f d 12 := by
  show 0 ≤ max 0 _
  omega
theorem nd_id {f : Nat → Int} {d : Int} (h : 0 ≤ d) : ∀ n, nd (nf f) d n = d
  | 0 => rfl
  | n + 1 => by
    show max 0 (nd (nf f) d n - min (nf f (2 * n)) (nf f (2 * n + 1))) = d
    rw [nd_id h n, nf_0]
    omega
def pN (h : ax_H) (n p : Nat) (f : Nat → Int) (d : Int) : ax_Q := fun res g => hy_H 0 g ∧ pI g ∧ pC g ∧ pf [0, 8, 9, 13, 14, 17, 18, 148, p, p + 1] h g ∧ (∃ z : Int32, res = .inl (some (.int z)) ∧ z.toInt = n) ∧ (∀ j, hy_z g 0 j = if j = 5 then (n : Int) + 1 else hy_z h 0 j) ∧ hy_z g p 1 = nd f d 12 ∧ (∀ k, k < 24 → hy_z g (p + 1) k = nf f k) ∧ ∀ w, w < 64 → ∀ k, k < 64 → pb (hw g 148 w) k = (pb (hw h 148 w) k && decide (nd f d 12 ≤ sm (hy_z g (p + 1)) w k))
theorem pN_of {h h1 : ax_H} {n p : Nat} {f f' : Nat → Int} {d d' : Int} {res : Option Value ⊕ String} {g : ax_H} (q : pN h1 n p f' d' res g) (P : pf [8, 9] h h1) (e : ∀ k, k < 24 → f' k = f k) (ed : d' = d) : pN h n p f d res g := by
  obtain ⟨a1, a2, a3, a4, a5, a6, a7, a8, a9⟩ := q
  have en : nd f' d' 12 = nd f d 12 := by rw [ed]; exact nd_c e 12 (by decide)
  refine ⟨a1, a2, a3, pf.tr (pf.tr (pf_r _ h) P (by simp)) a4 (fun _ q => q), a5, fun j => ?_, a7.trans en, fun k hk => (a8 k hk).trans (nf_c e hk), fun w hw0 k hk => ?_⟩
  · rw [a6 j, P.z (by decide)]
  · rw [a9 w hw0 k hk, P.w (by decide), en]
theorem pN_id {h : ax_H} {n p : Nat} {f : Nat → Int} {d : Int} {res : Option Value ⊕ String} {g : ax_H} (q : pN h n p (nf f) (nd f d 12) res g) : pN h n p f d res g := by
  obtain ⟨a1, a2, a3, a4, a5, a6, a7, a8, a9⟩ := q
  rw [nd_id (nd_0 f d) 12] at a7 a9
  exact ⟨a1, a2, a3, a4, a5, a6, a7, fun k hk => by rw [a8 k hk, nf_id], a9⟩
theorem p_118 (hlst : l.stackTraces = false) {n p : Nat} (hH : hy_H 0 h) (hI : pI h) (hC : pC h) (hn : hy_z h 0 5 = n) (hn2 : n < 60) (hp : p = 27 + 2 * n) (f9 : ∀ k, k < 24 → 0 ≤ hy_z h 9 k ∧ hy_z h 9 k ≤ 1000000) (f8 : -1000000 ≤ hy_z h 8 1 ∧ hy_z h 8 1 ≤ 1000000) : AM ax_ns l (ax_mm 118) 5 ty_R (0) (0) [.ref 0] h (pN h n p (hy_z h 9) (hy_z h 8 1)) := by
  refine AM.of (ax_mfacts (by decide +kernel : ax_has 118 = true)).2.2.2.2.2.2 hlst (by rw [hn_118]; exact Nat.le_of_ble_eq_true rfl) ?_
  show AR ax_ns l (ax_mm 118) 5 ty_R _ _ 0 [(0, .ref 0)] [] h (0) (0)
  have nb : ∀ k, k < 24 → 0 ≤ nf (hy_z h 9) k ∧ nf (hy_z h 9) k ≤ 1000000 := fun k hk => by
    have a := f9 k hk
    have b := f9 (2 * (k / 2)) (by omega)
    have c := f9 (2 * (k / 2) + 1) (by omega)
    unfold nf
    rcases (by omega : k = 2 * (k / 2) ∨ k = 2 * (k / 2) + 1) with e | e
    · rw [← e] at b c ⊢; omega
    · rw [← e] at c ⊢; omega
  have db : -1000000 ≤ nd (hy_z h 9) (hy_z h 8 1) 12 ∧ nd (hy_z h 9) (hy_z h 8 1) 12 ≤ 1000000 := nd_b6 f9 f8 12 (by decide)
  refine AR.s (pc' := 1) (lv' := [(0, .ref 0)]) (st' := [.ref 0]) (h' := h) _ hn_118 hk_118_0 rfl ?_
  refine AR.gR hk_118_1 (by decide) hH (q := 0) (n := 18) (by decide) (by decide +kernel) (by decide +kernel) (by decide) hy_t0_6 ?_
  show AR _ _ _ _ _ _ _ 4 [(0, .ref 0)] [.ref 8] h _ _
  obtain ⟨v677, cv677⟩ := p_cell hH (q := 8) (by decide) (by decide +kernel : (ty_tab 8).1 = 2)
  refine AR.jr (r := 8) (as := []) (rest := []) hk_118_4 (by decide) (by decide +kernel) (by decide) cv677 rfl rfl (Nat.le_of_ble_eq_true rfl) (p_26 hlst hH (fun k hk => by have := f9 k hk; omega) (by omega)) (by decide) (Nat.zero_le _) (Nat.zero_le _) ?_ (fun E h' q => by cases q.1)
  rintro w g1 ⟨e1, H1, P1, d1, v1⟩
  cases e1
  have Hg1 := H1
  show AR _ _ _ _ _ _ _ 7 [(0, .ref 0)] [] g1 _ _
  have nn : hy_z g1 0 5 = n := (P1.z (by decide) 5).trans hn
  have hI1 := hI.go P1 (by decide) (by decide) (by decide)
  have hC1 := hC.go P1 (by decide)
  show AR _ _ _ _ _ _ _ 7 [(0, .ref 0)] [] g1 _ _
  refine AR.s (pc' := 8) (lv' := [(0, .ref 0)]) (st' := [.ref 0]) (h' := g1) _ hn_118 hk_118_7 rfl ?_
  refine AR.gR hk_118_8 (by decide) Hg1 (q := 0) (n := 18) (by decide) (by decide +kernel) (by decide +kernel) (by decide) hy_t0_6 ?_
  show AR _ _ _ _ _ _ _ 11 [(0, .ref 0)] [.ref 8] g1 _ _
  obtain ⟨v678, cv678⟩ := p_cell Hg1 (q := 8) (by decide) (by decide +kernel : (ty_tab 8).1 = 2)
  refine AR.jr (r := 8) (as := []) (rest := []) hk_118_11 (by decide) (by decide +kernel) (by decide) cv678 rfl rfl (Nat.le_of_ble_eq_true rfl) (p_27 hlst H1 (fun k hk => by rw [v1 k hk]; have := nb k hk; omega) (by rw [d1]; omega)) (by decide) (Nat.zero_le _) (Nat.zero_le _) ?_ (fun E h' q => by obtain ⟨-, _, e, -⟩ := q; cases e)
  rintro w g3 ⟨eg, r, er, hr⟩
  cases er
  obtain rfl := eg.symm
  show AR _ _ _ _ _ _ _ 14 [(0, .ref 0)] [.int r] g1 _ _
  refine AR.zne hk_118_14 (tgt := 28) (by decide) (fun p1 => ?_) (fun p2 => ?_)
  · refine AR.s (pc' := 29) (lv' := [(0, .ref 0)]) (st' := [.ref 0]) (h' := g1) _ hn_118 hk_118_28 rfl ?_
    obtain ⟨v679, cv679⟩ := p_cell Hg1 (q := 0) (by decide) (by decide +kernel : (ty_tab 0).1 = 8)
    refine AR.jr (r := 0) (as := []) (rest := []) hk_118_29 (by decide) (by decide +kernel) (by decide) cv679 rfl rfl (Nat.le_of_ble_eq_true rfl) (p_119 hlst H1 hI1 hC1 nn hn2 hp (fun k hk => by rw [v1 k hk]; exact nb k hk) (by rw [d1]; exact db)) (by decide) (Nat.zero_le _) (Nat.zero_le _) ?_ (fun E h' q => by obtain ⟨-, -, -, -, ⟨_, e, -⟩, -⟩ := q; cases e)
    rintro w g9 q
    obtain ⟨z, er, ez⟩ := q.2.2.2.2.1
    cases er
    show AR _ _ _ _ _ _ _ 32 [(0, .ref 0)] [.int z] g9 _ _
    exact AR.iret hk_118_32 hr_118 (pN_id (pN_of q P1 v1 d1))
  · exact absurd p2 (by omega)
theorem p_111 (hlst : l.stackTraces = false) (hH : hy_H 0 h) (x0 : 0 ≤ x.toInt) (x1 : x.toInt < hy_z h 0 5) : AM ax_ns l (ax_mm 111) 1 ty_R (0) (0) [.ref 0, .int x] h (fun res g => res = .inl none ∧ g = h) := by
  refine AM.of (ax_mfacts (by decide +kernel : ax_has 111 = true)).2.2.2.2.2.2 hlst (by rw [hn_111]; exact Nat.le_of_ble_eq_true rfl) ?_
  show AR ax_ns l (ax_mm 111) 1 ty_R _ _ 0 [(0, .ref 0), (1, .int x)] [] h (0) (0)
  refine AR.s (pc' := 1) (lv' := [(0, .ref 0), (1, .int x)]) (st' := [.int x]) (h' := h) _ hn_111 hk_111_0 rfl ?_
  refine AR.zlt hk_111_1 (tgt := 12) (by decide) (fun p1 => ?_) (fun p2 => ?_)
  · exact absurd p1 (by omega)
  · refine AR.s (pc' := 5) (lv' := [(0, .ref 0), (1, .int x)]) (st' := [.int x]) (h' := h) _ hn_111 hk_111_4 rfl ?_
    refine AR.s (pc' := 6) (lv' := [(0, .ref 0), (1, .int x)]) (st' := [.ref 0, .int x]) (h' := h) _ hn_111 hk_111_5 rfl ?_
    refine AR.gI hk_111_6 (by decide) hH (q := 0) (n := 18) (by decide) (by decide +kernel) (by decide +kernel) (by decide) hy_t0_5 (fun x680 dx680 lx680 ux680 => ?_)
    show AR _ _ _ _ _ _ _ 9 [(0, .ref 0), (1, .int x)] [.int x680, .int x] h _ _
    have sx680 := hy_zi dx680
    refine AR.jlt hk_111_9 (tgt := 23) (by decide) (fun q1 => ?_) (fun q2 => ?_)
    · exact AR.vret hk_111_23 hr_111 ⟨rfl, rfl⟩
    · exact absurd q2 (by omega)
theorem p_115 (hlst : l.stackTraces = false) (hH : hy_H 0 h) (x0 : 0 ≤ x.toInt) (x1 : hy_z h 0 5 + x.toInt ≤ 60) : AM ax_ns l (ax_mm 115) 1 ty_R (0) (0) [.ref 0, .int x] h (fun res g => res = .inl none ∧ g = h) := by
  refine AM.of (ax_mfacts (by decide +kernel : ax_has 115 = true)).2.2.2.2.2.2 hlst (by rw [hn_115]; exact Nat.le_of_ble_eq_true rfl) ?_
  show AR ax_ns l (ax_mm 115) 1 ty_R _ _ 0 [(0, .ref 0), (1, .int x)] [] h (0) (0)
  refine AR.s (pc' := 1) (lv' := [(0, .ref 0), (1, .int x)]) (st' := [.ref 0]) (h' := h) _ hn_115 hk_115_0 rfl ?_
  refine AR.gI hk_115_1 (by decide) hH (q := 0) (n := 18) (by decide) (by decide +kernel) (by decide +kernel) (by decide) hy_t0_5 (fun x681 dx681 lx681 ux681 => ?_)
  show AR _ _ _ _ _ _ _ 4 [(0, .ref 0), (1, .int x)] [.int x681] h _ _
  have sx681 := hy_zi dx681
  refine AR.s (pc' := 5) (lv' := [(0, .ref 0), (1, .int x)]) (st' := [.int x, .int x681]) (h' := h) _ hn_115 hk_115_4 rfl ?_
  refine AR.addT hk_115_5 (by omega) (by omega) (fun z682 ez682 => ?_)
  show AR _ _ _ _ _ _ _ 6 [(0, .ref 0), (1, .int x)] [.int z682] h _ _
  refine AR.bipushT hk_115_6 (by decide) (fun z683 ez683 => ?_)
  show AR _ _ _ _ _ _ _ 8 [(0, .ref 0), (1, .int x)] [.int z683, .int z682] h _ _
  refine AR.jle hk_115_8 (tgt := 22) (by decide) (fun p1 => ?_) (fun p2 => ?_)
  · exact AR.vret hk_115_22 hr_115 ⟨rfl, rfl⟩
  · exact absurd p2 (by omega)
theorem p_83 (hlst : l.stackTraces = false) {n p : Nat} (hH : hy_H 0 h) (hI : pI h) (hC : pC h) (hn : hy_z h 0 5 = n) (hn2 : n < 60) (hp : p = 27 + 2 * n) {q a : Nat} (iq : q = 27 + 2 * a) (hq : x.toInt = a) (lq : a < n) (bq : ∀ k, k < 24 → 0 ≤ hy_z h (q + 1) k ∧ hy_z h (q + 1) k ≤ 400000) (dq : 0 ≤ hy_z h q 1 ∧ hy_z h q 1 ≤ 400000) {r f : Nat} (ir : r = 27 + 2 * f) (hr : y.toInt = f) (lr : f < n) (br : ∀ k, k < 24 → 0 ≤ hy_z h (r + 1) k ∧ hy_z h (r + 1) k ≤ 400000) (dr : 0 ≤ hy_z h r 1 ∧ hy_z h r 1 ≤ 400000) : AM ax_ns l (ax_mm 83) 6 ty_R (0) (0) [.ref 0, .int x, .int y] h (pN h n p (fun k => hy_z h (q + 1) k + hy_z h (r + 1) k) (hy_z h q 1 + hy_z h r 1)) := by
  refine AM.of (ax_mfacts (by decide +kernel : ax_has 83 = true)).2.2.2.2.2.2 hlst (by rw [hn_83]; exact Nat.le_of_ble_eq_true rfl) ?_
  show AR ax_ns l (ax_mm 83) 6 ty_R _ _ 0 [(0, .ref 0), (1, .int x), (2, .int y)] [] h (0) (0)
  have Pq : pc_ok q := by rw [iq]; exact pc_all a (by omega)
  have Pr : pc_ok r := by rw [ir]; exact pc_all f (by omega)
  show AR _ _ _ _ _ _ _ 0 [(0, .ref 0), (1, .int x), (2, .int y)] [] h _ _
  refine AR.s (pc' := 1) (lv' := [(0, .ref 0), (1, .int x), (2, .int y)]) (st' := [.ref 0]) (h' := h) _ hn_83 hk_83_0 rfl ?_
  refine AR.s (pc' := 2) (lv' := [(0, .ref 0), (1, .int x), (2, .int y)]) (st' := [.int x, .ref 0]) (h' := h) _ hn_83 hk_83_1 rfl ?_
  obtain ⟨v684, cv684⟩ := p_cell hH (q := 0) (by decide) (by decide +kernel : (ty_tab 0).1 = 8)
  refine AR.jr (r := 0) (as := [.int x]) (rest := []) hk_83_2 (by decide) (by decide +kernel) (by decide) cv684 rfl rfl (Nat.le_of_ble_eq_true rfl) (p_111 hlst hH (by omega) (by omega)) (by decide) (Nat.zero_le _) (Nat.zero_le _) ?_ (fun E h' q => by cases q.1)
  rintro w g3 ⟨er, eg⟩
  cases er
  obtain rfl := eg.symm
  show AR _ _ _ _ _ _ _ 5 [(0, .ref 0), (1, .int x), (2, .int y)] [] h _ _
  refine AR.s (pc' := 6) (lv' := [(0, .ref 0), (1, .int x), (2, .int y)]) (st' := [.ref 0]) (h' := h) _ hn_83 hk_83_5 rfl ?_
  refine AR.s (pc' := 7) (lv' := [(0, .ref 0), (1, .int x), (2, .int y)]) (st' := [.int y, .ref 0]) (h' := h) _ hn_83 hk_83_6 rfl ?_
  obtain ⟨v685, cv685⟩ := p_cell hH (q := 0) (by decide) (by decide +kernel : (ty_tab 0).1 = 8)
  refine AR.jr (r := 0) (as := [.int y]) (rest := []) hk_83_7 (by decide) (by decide +kernel) (by decide) cv685 rfl rfl (Nat.le_of_ble_eq_true rfl) (p_111 hlst hH (by omega) (by omega)) (by decide) (Nat.zero_le _) (Nat.zero_le _) ?_ (fun E h' q => by cases q.1)
  rintro w g3 ⟨er, eg⟩
  cases er
  obtain rfl := eg.symm
  show AR _ _ _ _ _ _ _ 10 [(0, .ref 0), (1, .int x), (2, .int y)] [] h _ _
  refine AR.s (pc' := 11) (lv' := [(0, .ref 0), (1, .int x), (2, .int y)]) (st' := [.ref 0]) (h' := h) _ hn_83 hk_83_10 rfl ?_
  refine AR.iconstT hk_83_11 (by decide) (fun z686 ez686 => ?_)
  show AR _ _ _ _ _ _ _ 12 [(0, .ref 0), (1, .int x), (2, .int y)] [.int z686, .ref 0] h _ _
  obtain ⟨v687, cv687⟩ := p_cell hH (q := 0) (by decide) (by decide +kernel : (ty_tab 0).1 = 8)
  refine AR.jr (r := 0) (as := [.int z686]) (rest := []) hk_83_12 (by decide) (by decide +kernel) (by decide) cv687 rfl rfl (Nat.le_of_ble_eq_true rfl) (p_115 hlst hH (by omega) (by omega)) (by decide) (Nat.zero_le _) (Nat.zero_le _) ?_ (fun E h' q => by cases q.1)
  rintro w g3 ⟨er, eg⟩
  cases er
  obtain rfl := eg.symm
  show AR _ _ _ _ _ _ _ 15 [(0, .ref 0), (1, .int x), (2, .int y)] [] h _ _
  refine AR.s (pc' := 16) (lv' := [(0, .ref 0), (1, .int x), (2, .int y)]) (st' := [.ref 0]) (h' := h) _ hn_83 hk_83_15 rfl ?_
  refine AR.gR hk_83_16 (by decide) hH (q := 0) (n := 18) (by decide) (by decide +kernel) (by decide +kernel) (by decide) hy_t0_6 ?_
  show AR _ _ _ _ _ _ _ 19 [(0, .ref 0), (1, .int x), (2, .int y)] [.ref 8] h _ _
  obtain ⟨v688, cv688⟩ := p_cell hH (q := 8) (by decide) (by decide +kernel : (ty_tab 8).1 = 2)
  refine AR.jr (r := 8) (as := []) (rest := []) hk_83_19 (by decide) (by decide +kernel) (by decide) cv688 rfl rfl (Nat.le_of_ble_eq_true rfl) (p_20 hlst hH) (by decide) (Nat.zero_le _) (Nat.zero_le _) ?_ (fun E h' q => by cases q.1)
  rintro w g1 ⟨e1, H1, P1, d1, v1⟩
  cases e1
  have Hg1 := H1
  show AR _ _ _ _ _ _ _ 22 [(0, .ref 0), (1, .int x), (2, .int y)] [] g1 _ _
  have hC1 := hC.go P1 (by decide)
  show AR _ _ _ _ _ _ _ 22 [(0, .ref 0), (1, .int x), (2, .int y)] [] g1 _ _
  refine AR.s (pc' := 23) (lv' := [(0, .ref 0), (1, .int x), (2, .int y)]) (st' := [.ref 0]) (h' := g1) _ hn_83 hk_83_22 rfl ?_
  refine AR.gR hk_83_23 (by decide) Hg1 (q := 0) (n := 18) (by decide) (by decide +kernel) (by decide +kernel) (by decide) hy_t0_6 ?_
  show AR _ _ _ _ _ _ _ 26 [(0, .ref 0), (1, .int x), (2, .int y)] [.ref 8] g1 _ _
  refine AR.s (pc' := 27) (lv' := [(0, .ref 0), (1, .int x), (2, .int y)]) (st' := [.ref 0, .ref 8]) (h' := g1) _ hn_83 hk_83_26 rfl ?_
  refine AR.gR hk_83_27 (by decide) Hg1 (q := 0) (n := 18) (by decide) (by decide +kernel) (by decide +kernel) (by decide) hy_t0_4 ?_
  show AR _ _ _ _ _ _ _ 30 [(0, .ref 0), (1, .int x), (2, .int y)] [.ref 7, .ref 8] g1 _ _
  refine AR.s (pc' := 31) (lv' := [(0, .ref 0), (1, .int x), (2, .int y)]) (st' := [.int x, .ref 7, .ref 8]) (h' := g1) _ hn_83 hk_83_30 rfl ?_
  have ceg131 : ty_fd g1 7 x.toInt.toNat = some (.ref q) := by rw [show x.toInt.toNat = a from by omega, show q = 27 + 2 * a from by omega]; exact hC1 a (by omega)
  refine AR.aaX (t := 4) hk_83_31 H1 (by decide) (by decide +kernel) rfl rfl (by omega) ceg131 ?_
  show AR _ _ _ _ _ _ _ 32 [(0, .ref 0), (1, .int x), (2, .int y)] [.ref q, .ref 8] g1 _ _
  refine AR.lconstT hk_83_32 (fun z689 ez689 => ?_)
  have kz689 : z689 = 1 := Int64.toInt_inj.mp (ez689.trans rfl)
  show AR _ _ _ _ _ _ _ 33 [(0, .ref 0), (1, .int x), (2, .int y)] [.long z689, .ref q, .ref 8] g1 _ _
  obtain ⟨v690, cv690⟩ := p_cell Hg1 (q := 8) (by decide) (by decide +kernel : (ty_tab 8).1 = 2)
  refine AR.jr (r := 8) (as := [.ref q, .long z689]) (rest := []) hk_83_33 (by decide) (by decide +kernel) (by decide) cv690 rfl rfl (Nat.le_of_ble_eq_true rfl) (p_22 hlst (p := q) H1 Pq (by rw [kz689]; rfl) (fun k hk => by rw [v1 k hk]; omega) (by rw [d1]; omega)) (by decide) (Nat.zero_le _) (Nat.zero_le _) ?_ (fun E h' q => by cases q.1)
  rintro w g2 ⟨eg2, Hg2, Pg2, dg2, vg2⟩
  cases eg2
  have Hgg2 := Hg2
  show AR _ _ _ _ _ _ _ 36 [(0, .ref 0), (1, .int x), (2, .int y)] [] g2 _ _
  have hC2 := hC1.go Pg2 (by decide)
  have Q2 : pf [8, 9] h g2 := pf.tr P1 Pg2 (fun _ q => q)
  have w2 : ∀ k, k < 24 → hy_z g2 9 k = hy_z h (q + 1) k := fun k hk => by rw [vg2 k hk, v1 k hk, P1.z (by simp; omega)]; omega
  have u2 : hy_z g2 8 1 = hy_z h q 1 := by rw [dg2, d1, P1.z (by simp; omega)]; omega
  show AR _ _ _ _ _ _ _ 36 [(0, .ref 0), (1, .int x), (2, .int y)] [] g2 _ _
  refine AR.s (pc' := 37) (lv' := [(0, .ref 0), (1, .int x), (2, .int y)]) (st' := [.ref 0]) (h' := g2) _ hn_83 hk_83_36 rfl ?_
  refine AR.gR hk_83_37 (by decide) Hg2 (q := 0) (n := 18) (by decide) (by decide +kernel) (by decide +kernel) (by decide) hy_t0_6 ?_
  show AR _ _ _ _ _ _ _ 40 [(0, .ref 0), (1, .int x), (2, .int y)] [.ref 8] g2 _ _
  refine AR.s (pc' := 41) (lv' := [(0, .ref 0), (1, .int x), (2, .int y)]) (st' := [.ref 0, .ref 8]) (h' := g2) _ hn_83 hk_83_40 rfl ?_
  refine AR.gR hk_83_41 (by decide) Hg2 (q := 0) (n := 18) (by decide) (by decide +kernel) (by decide +kernel) (by decide) hy_t0_4 ?_
  show AR _ _ _ _ _ _ _ 44 [(0, .ref 0), (1, .int x), (2, .int y)] [.ref 7, .ref 8] g2 _ _
  refine AR.s (pc' := 45) (lv' := [(0, .ref 0), (1, .int x), (2, .int y)]) (st' := [.int y, .ref 7, .ref 8]) (h' := g2) _ hn_83 hk_83_44 rfl ?_
  have ceg245 : ty_fd g2 7 y.toInt.toNat = some (.ref r) := by rw [show y.toInt.toNat = f from by omega, show r = 27 + 2 * f from by omega]; exact hC2 f (by omega)
  refine AR.aaX (t := 4) hk_83_45 Hg2 (by decide) (by decide +kernel) rfl rfl (by omega) ceg245 ?_
  show AR _ _ _ _ _ _ _ 46 [(0, .ref 0), (1, .int x), (2, .int y)] [.ref r, .ref 8] g2 _ _
  refine AR.lconstT hk_83_46 (fun z691 ez691 => ?_)
  have kz691 : z691 = 1 := Int64.toInt_inj.mp (ez691.trans rfl)
  show AR _ _ _ _ _ _ _ 47 [(0, .ref 0), (1, .int x), (2, .int y)] [.long z691, .ref r, .ref 8] g2 _ _
  obtain ⟨v692, cv692⟩ := p_cell Hg2 (q := 8) (by decide) (by decide +kernel : (ty_tab 8).1 = 2)
  refine AR.jr (r := 8) (as := [.ref r, .long z691]) (rest := []) hk_83_47 (by decide) (by decide +kernel) (by decide) cv692 rfl rfl (Nat.le_of_ble_eq_true rfl) (p_22 hlst (p := r) Hg2 Pr (by rw [kz691]; rfl) (fun k hk => by rw [w2 k hk]; have := bq k hk; omega) (by rw [u2]; omega)) (by decide) (Nat.zero_le _) (Nat.zero_le _) ?_ (fun E h' q => by cases q.1)
  rintro w g3 ⟨eg3, Hg3, Pg3, dg3, vg3⟩
  cases eg3
  have Hgg3 := Hg3
  show AR _ _ _ _ _ _ _ 50 [(0, .ref 0), (1, .int x), (2, .int y)] [] g3 _ _
  have hC3 := hC2.go Pg3 (by decide)
  have Q3 : pf [8, 9] h g3 := pf.tr Q2 Pg3 (fun _ q => q)
  have w3 : ∀ k, k < 24 → hy_z g3 9 k = hy_z h (q + 1) k + hy_z h (r + 1) k := fun k hk => by rw [vg3 k hk, w2 k hk, Q2.z (by simp; omega)]
  have u3 : hy_z g3 8 1 = hy_z h q 1 + hy_z h r 1 := by rw [dg3, u2, Q2.z (by simp; omega)]
  have hI3 := hI.go Q3 (by decide) (by decide) (by decide)
  have nn : hy_z g3 0 5 = n := (Q3.z (by decide) 5).trans hn
  show AR _ _ _ _ _ _ _ 50 [(0, .ref 0), (1, .int x), (2, .int y)] [] g3 _ _
  refine AR.s (pc' := 51) (lv' := [(0, .ref 0), (1, .int x), (2, .int y)]) (st' := [.ref 0]) (h' := g3) _ hn_83 hk_83_50 rfl ?_
  obtain ⟨v693, cv693⟩ := p_cell Hg3 (q := 0) (by decide) (by decide +kernel : (ty_tab 0).1 = 8)
  refine AR.jr (r := 0) (as := []) (rest := []) hk_83_51 (by decide) (by decide +kernel) (by decide) cv693 rfl rfl (Nat.le_of_ble_eq_true rfl) (p_118 hlst Hg3 hI3 hC3 nn hn2 hp (fun k hk => by rw [w3 k hk]; have := bq k hk; have := br k hk; omega) (by rw [u3]; omega)) (by decide) (Nat.zero_le _) (Nat.zero_le _) ?_ (fun E h' q => by obtain ⟨-, -, -, -, ⟨_, e, -⟩, -⟩ := q; cases e)
  rintro w g9 qq
  obtain ⟨z, er, ez⟩ := qq.2.2.2.2.1
  cases er
  show AR _ _ _ _ _ _ _ 54 [(0, .ref 0), (1, .int x), (2, .int y)] [.int z] g9 _ _
  exact AR.iret hk_83_54 hr_83 (pN_of qq Q3 w3 u3)
theorem p_85 (hlst : l.stackTraces = false) {n p : Nat} (hH : hy_H 0 h) (hI : pI h) (hC : pC h) (hn : hy_z h 0 5 = n) (hn2 : n < 60) (hp : p = 27 + 2 * n) {q a : Nat} (iq : q = 27 + 2 * a) (hq : x.toInt = a) (lq : a < n) (bq : ∀ k, k < 24 → 0 ≤ hy_z h (q + 1) k ∧ hy_z h (q + 1) k ≤ 400000) (dq : 0 ≤ hy_z h q 1 ∧ hy_z h q 1 ≤ 400000) (y1 : 1 ≤ y.toInt) (y2 : y.toInt ≤ 4) : AM ax_ns l (ax_mm 85) 5 ty_R (0) (0) [.ref 0, .int x, .int y] h (pN h n p (fun k => (hy_z h (q + 1) k + y.toInt - 1).tdiv y.toInt) ((hy_z h q 1 + y.toInt - 1).tdiv y.toInt)) := by
  refine AM.of (ax_mfacts (by decide +kernel : ax_has 85 = true)).2.2.2.2.2.2 hlst (by rw [hn_85]; exact Nat.le_of_ble_eq_true rfl) ?_
  show AR ax_ns l (ax_mm 85) 5 ty_R _ _ 0 [(0, .ref 0), (1, .int x), (2, .int y)] [] h (0) (0)
  have Pq : pc_ok q := by rw [iq]; exact pc_all a (by omega)
  have tdb : ∀ z : Int, 0 ≤ z → z ≤ 400000 → 0 ≤ (z + y.toInt - 1).tdiv y.toInt ∧ (z + y.toInt - 1).tdiv y.toInt ≤ 1000000 := fun z a b => by
    rw [Int.tdiv_eq_ediv_of_nonneg (by omega)]
    have a1 := Int.ediv_nonneg (a := z + y.toInt - 1) (b := y.toInt) (by omega) (by omega)
    have a2 := Int.ediv_le_self (a := z + y.toInt - 1) y.toInt (by omega)
    omega
  show AR _ _ _ _ _ _ _ 0 [(0, .ref 0), (1, .int x), (2, .int y)] [] h _ _
  refine AR.s (pc' := 1) (lv' := [(0, .ref 0), (1, .int x), (2, .int y)]) (st' := [.ref 0]) (h' := h) _ hn_85 hk_85_0 rfl ?_
  refine AR.s (pc' := 2) (lv' := [(0, .ref 0), (1, .int x), (2, .int y)]) (st' := [.int x, .ref 0]) (h' := h) _ hn_85 hk_85_1 rfl ?_
  obtain ⟨v694, cv694⟩ := p_cell hH (q := 0) (by decide) (by decide +kernel : (ty_tab 0).1 = 8)
  refine AR.jr (r := 0) (as := [.int x]) (rest := []) hk_85_2 (by decide) (by decide +kernel) (by decide) cv694 rfl rfl (Nat.le_of_ble_eq_true rfl) (p_111 hlst hH (by omega) (by omega)) (by decide) (Nat.zero_le _) (Nat.zero_le _) ?_ (fun E h' q => by cases q.1)
  rintro w g3 ⟨er, eg⟩
  cases er
  obtain rfl := eg.symm
  show AR _ _ _ _ _ _ _ 5 [(0, .ref 0), (1, .int x), (2, .int y)] [] h _ _
  refine AR.s (pc' := 6) (lv' := [(0, .ref 0), (1, .int x), (2, .int y)]) (st' := [.int y]) (h' := h) _ hn_85 hk_85_5 rfl ?_
  refine AR.iconstT hk_85_6 (by decide) (fun z695 ez695 => ?_)
  show AR _ _ _ _ _ _ _ 7 [(0, .ref 0), (1, .int x), (2, .int y)] [.int z695, .int y] h _ _
  refine AR.jge hk_85_7 (tgt := 20) (by decide) (fun p1 => ?_) (fun p2 => ?_)
  · refine AR.s (pc' := 21) (lv' := [(0, .ref 0), (1, .int x), (2, .int y)]) (st' := [.ref 0]) (h' := h) _ hn_85 hk_85_20 rfl ?_
    refine AR.iconstT hk_85_21 (by decide) (fun z696 ez696 => ?_)
    show AR _ _ _ _ _ _ _ 22 [(0, .ref 0), (1, .int x), (2, .int y)] [.int z696, .ref 0] h _ _
    obtain ⟨v697, cv697⟩ := p_cell hH (q := 0) (by decide) (by decide +kernel : (ty_tab 0).1 = 8)
    refine AR.jr (r := 0) (as := [.int z696]) (rest := []) hk_85_22 (by decide) (by decide +kernel) (by decide) cv697 rfl rfl (Nat.le_of_ble_eq_true rfl) (p_115 hlst hH (by omega) (by omega)) (by decide) (Nat.zero_le _) (Nat.zero_le _) ?_ (fun E h' q => by cases q.1)
    rintro w g3 ⟨er, eg⟩
    cases er
    obtain rfl := eg.symm
    show AR _ _ _ _ _ _ _ 25 [(0, .ref 0), (1, .int x), (2, .int y)] [] h _ _
    refine AR.s (pc' := 26) (lv' := [(0, .ref 0), (1, .int x), (2, .int y)]) (st' := [.ref 0]) (h' := h) _ hn_85 hk_85_25 rfl ?_
    refine AR.gR hk_85_26 (by decide) hH (q := 0) (n := 18) (by decide) (by decide +kernel) (by decide +kernel) (by decide) hy_t0_6 ?_
    show AR _ _ _ _ _ _ _ 29 [(0, .ref 0), (1, .int x), (2, .int y)] [.ref 8] h _ _
    obtain ⟨v698, cv698⟩ := p_cell hH (q := 8) (by decide) (by decide +kernel : (ty_tab 8).1 = 2)
    refine AR.jr (r := 8) (as := []) (rest := []) hk_85_29 (by decide) (by decide +kernel) (by decide) cv698 rfl rfl (Nat.le_of_ble_eq_true rfl) (p_20 hlst hH) (by decide) (Nat.zero_le _) (Nat.zero_le _) ?_ (fun E h' q => by cases q.1)
    rintro w g1 ⟨e1, H1, P1, d1, v1⟩
    cases e1
    have Hg1 := H1
    show AR _ _ _ _ _ _ _ 32 [(0, .ref 0), (1, .int x), (2, .int y)] [] g1 _ _
    have hC1 := hC.go P1 (by decide)
    show AR _ _ _ _ _ _ _ 32 [(0, .ref 0), (1, .int x), (2, .int y)] [] g1 _ _
    refine AR.s (pc' := 33) (lv' := [(0, .ref 0), (1, .int x), (2, .int y)]) (st' := [.ref 0]) (h' := g1) _ hn_85 hk_85_32 rfl ?_
    refine AR.gR hk_85_33 (by decide) Hg1 (q := 0) (n := 18) (by decide) (by decide +kernel) (by decide +kernel) (by decide) hy_t0_6 ?_
    show AR _ _ _ _ _ _ _ 36 [(0, .ref 0), (1, .int x), (2, .int y)] [.ref 8] g1 _ _
    refine AR.s (pc' := 37) (lv' := [(0, .ref 0), (1, .int x), (2, .int y)]) (st' := [.ref 0, .ref 8]) (h' := g1) _ hn_85 hk_85_36 rfl ?_
    refine AR.gR hk_85_37 (by decide) Hg1 (q := 0) (n := 18) (by decide) (by decide +kernel) (by decide +kernel) (by decide) hy_t0_4 ?_
    show AR _ _ _ _ _ _ _ 40 [(0, .ref 0), (1, .int x), (2, .int y)] [.ref 7, .ref 8] g1 _ _
    refine AR.s (pc' := 41) (lv' := [(0, .ref 0), (1, .int x), (2, .int y)]) (st' := [.int x, .ref 7, .ref 8]) (h' := g1) _ hn_85 hk_85_40 rfl ?_
    have ceg141 : ty_fd g1 7 x.toInt.toNat = some (.ref q) := by rw [show x.toInt.toNat = a from by omega, show q = 27 + 2 * a from by omega]; exact hC1 a (by omega)
    refine AR.aaX (t := 4) hk_85_41 H1 (by decide) (by decide +kernel) rfl rfl (by omega) ceg141 ?_
    show AR _ _ _ _ _ _ _ 42 [(0, .ref 0), (1, .int x), (2, .int y)] [.ref q, .ref 8] g1 _ _
    refine AR.lconstT hk_85_42 (fun z699 ez699 => ?_)
    have kz699 : z699 = 1 := Int64.toInt_inj.mp (ez699.trans rfl)
    show AR _ _ _ _ _ _ _ 43 [(0, .ref 0), (1, .int x), (2, .int y)] [.long z699, .ref q, .ref 8] g1 _ _
    obtain ⟨v700, cv700⟩ := p_cell Hg1 (q := 8) (by decide) (by decide +kernel : (ty_tab 8).1 = 2)
    refine AR.jr (r := 8) (as := [.ref q, .long z699]) (rest := []) hk_85_43 (by decide) (by decide +kernel) (by decide) cv700 rfl rfl (Nat.le_of_ble_eq_true rfl) (p_22 hlst (p := q) H1 Pq (by rw [kz699]; rfl) (fun k hk => by rw [v1 k hk]; omega) (by rw [d1]; omega)) (by decide) (Nat.zero_le _) (Nat.zero_le _) ?_ (fun E h' q => by cases q.1)
    rintro w g2 ⟨eg2, Hg2, Pg2, dg2, vg2⟩
    cases eg2
    have Hgg2 := Hg2
    show AR _ _ _ _ _ _ _ 46 [(0, .ref 0), (1, .int x), (2, .int y)] [] g2 _ _
    have hC2 := hC1.go Pg2 (by decide)
    have Q2 : pf [8, 9] h g2 := pf.tr P1 Pg2 (fun _ q => q)
    have w2 : ∀ k, k < 24 → hy_z g2 9 k = hy_z h (q + 1) k := fun k hk => by rw [vg2 k hk, v1 k hk, P1.z (by simp; omega)]; omega
    have u2 : hy_z g2 8 1 = hy_z h q 1 := by rw [dg2, d1, P1.z (by simp; omega)]; omega
    show AR _ _ _ _ _ _ _ 46 [(0, .ref 0), (1, .int x), (2, .int y)] [] g2 _ _
    refine AR.s (pc' := 47) (lv' := [(0, .ref 0), (1, .int x), (2, .int y)]) (st' := [.ref 0]) (h' := g2) _ hn_85 hk_85_46 rfl ?_
    refine AR.gR hk_85_47 (by decide) Hg2 (q := 0) (n := 18) (by decide) (by decide +kernel) (by decide +kernel) (by decide) hy_t0_6 ?_
    show AR _ _ _ _ _ _ _ 50 [(0, .ref 0), (1, .int x), (2, .int y)] [.ref 8] g2 _ _
    refine AR.s (pc' := 51) (lv' := [(0, .ref 0), (1, .int x), (2, .int y)]) (st' := [.int y, .ref 8]) (h' := g2) _ hn_85 hk_85_50 rfl ?_
    refine AR.i2lT hk_85_51 (fun z701 ez701 => ?_)
    show AR _ _ _ _ _ _ _ 52 [(0, .ref 0), (1, .int x), (2, .int y)] [.long z701, .ref 8] g2 _ _
    obtain ⟨v702, cv702⟩ := p_cell Hg2 (q := 8) (by decide) (by decide +kernel : (ty_tab 8).1 = 2)
    refine AR.jr (r := 8) (as := [.long z701]) (rest := []) hk_85_52 (by decide) (by decide +kernel) (by decide) cv702 rfl rfl (Nat.le_of_ble_eq_true rfl) (p_23 hlst (m := z701) Hg2 (by omega) (by omega) (fun k hk => by rw [w2 k hk]; have := bq k hk; omega) (by rw [u2]; omega)) (by decide) (Nat.zero_le _) (Nat.zero_le _) ?_ (fun E h' q => by cases q.1)
    rintro w g3 ⟨e3, Hg3, Pg3, dg3, vg3⟩
    cases e3
    show AR _ _ _ _ _ _ _ 55 [(0, .ref 0), (1, .int x), (2, .int y)] [] g3 _ _
    have my : z701.toInt = y.toInt := by omega
    rw [my] at dg3 vg3
    have hC3 := hC2.go Pg3 (by decide)
    have Q3 : pf [8, 9] h g3 := pf.tr Q2 Pg3 (fun _ q => q)
    have w3 : ∀ k, k < 24 → hy_z g3 9 k = (hy_z h (q + 1) k + y.toInt - 1).tdiv y.toInt := fun k hk => by rw [vg3 k hk, w2 k hk]
    have u3 : hy_z g3 8 1 = (hy_z h q 1 + y.toInt - 1).tdiv y.toInt := by rw [dg3, u2]
    have hI3 := hI.go Q3 (by decide) (by decide) (by decide)
    have nn : hy_z g3 0 5 = n := (Q3.z (by decide) 5).trans hn
    have ud := tdb (hy_z h q 1) dq.1 dq.2
    show AR _ _ _ _ _ _ _ 55 [(0, .ref 0), (1, .int x), (2, .int y)] [] g3 _ _
    refine AR.s (pc' := 56) (lv' := [(0, .ref 0), (1, .int x), (2, .int y)]) (st' := [.ref 0]) (h' := g3) _ hn_85 hk_85_55 rfl ?_
    obtain ⟨v703, cv703⟩ := p_cell Hg3 (q := 0) (by decide) (by decide +kernel : (ty_tab 0).1 = 8)
    refine AR.jr (r := 0) (as := []) (rest := []) hk_85_56 (by decide) (by decide +kernel) (by decide) cv703 rfl rfl (Nat.le_of_ble_eq_true rfl) (p_119 hlst Hg3 hI3 hC3 nn hn2 hp (fun k hk => by rw [w3 k hk]; exact tdb _ (bq k hk).1 (bq k hk).2) (by rw [u3]; omega)) (by decide) (Nat.zero_le _) (Nat.zero_le _) ?_ (fun E h' q => by obtain ⟨-, -, -, -, ⟨_, e, -⟩, -⟩ := q; cases e)
    rintro w g9 qq
    obtain ⟨z, er, ez⟩ := qq.2.2.2.2.1
    cases er
    show AR _ _ _ _ _ _ _ 59 [(0, .ref 0), (1, .int x), (2, .int y)] [.int z] g9 _ _
    exact AR.iret hk_85_59 hr_85 (pN_of qq Q3 w3 u3)
  · exact absurd p2 (by omega)
theorem p_86 (hlst : l.stackTraces = false) {n p : Nat} (hH : hy_H 0 h) (hI : pI h) (hC : pC h) (hn : hy_z h 0 5 = n) (hn2 : n < 60) (hp : p = 27 + 2 * n) {q a : Nat} (iq : q = 27 + 2 * a) (hq : x.toInt = a) (lq : a < n) (bq : ∀ k, k < 24 → 0 ≤ hy_z h (q + 1) k ∧ hy_z h (q + 1) k ≤ 400000) (dq : 0 ≤ hy_z h q 1 ∧ hy_z h q 1 ≤ 400000) : AM ax_ns l (ax_mm 86) 5 ty_R (0) (0) [.ref 0, .int x] h (pN h n p (fun k => min (hy_z h (q + 1) k) (hy_z h q 1)) (hy_z h q 1)) := by
  refine AM.of (ax_mfacts (by decide +kernel : ax_has 86 = true)).2.2.2.2.2.2 hlst (by rw [hn_86]; exact Nat.le_of_ble_eq_true rfl) ?_
  show AR ax_ns l (ax_mm 86) 5 ty_R _ _ 0 [(0, .ref 0), (1, .int x)] [] h (0) (0)
  have Pq : pc_ok q := by rw [iq]; exact pc_all a (by omega)
  show AR _ _ _ _ _ _ _ 0 [(0, .ref 0), (1, .int x)] [] h _ _
  refine AR.s (pc' := 1) (lv' := [(0, .ref 0), (1, .int x)]) (st' := [.ref 0]) (h' := h) _ hn_86 hk_86_0 rfl ?_
  refine AR.s (pc' := 2) (lv' := [(0, .ref 0), (1, .int x)]) (st' := [.int x, .ref 0]) (h' := h) _ hn_86 hk_86_1 rfl ?_
  obtain ⟨v704, cv704⟩ := p_cell hH (q := 0) (by decide) (by decide +kernel : (ty_tab 0).1 = 8)
  refine AR.jr (r := 0) (as := [.int x]) (rest := []) hk_86_2 (by decide) (by decide +kernel) (by decide) cv704 rfl rfl (Nat.le_of_ble_eq_true rfl) (p_111 hlst hH (by omega) (by omega)) (by decide) (Nat.zero_le _) (Nat.zero_le _) ?_ (fun E h' q => by cases q.1)
  rintro w g3 ⟨er, eg⟩
  cases er
  obtain rfl := eg.symm
  show AR _ _ _ _ _ _ _ 5 [(0, .ref 0), (1, .int x)] [] h _ _
  refine AR.s (pc' := 6) (lv' := [(0, .ref 0), (1, .int x)]) (st' := [.ref 0]) (h' := h) _ hn_86 hk_86_5 rfl ?_
  refine AR.iconstT hk_86_6 (by decide) (fun z705 ez705 => ?_)
  show AR _ _ _ _ _ _ _ 7 [(0, .ref 0), (1, .int x)] [.int z705, .ref 0] h _ _
  obtain ⟨v706, cv706⟩ := p_cell hH (q := 0) (by decide) (by decide +kernel : (ty_tab 0).1 = 8)
  refine AR.jr (r := 0) (as := [.int z705]) (rest := []) hk_86_7 (by decide) (by decide +kernel) (by decide) cv706 rfl rfl (Nat.le_of_ble_eq_true rfl) (p_115 hlst hH (by omega) (by omega)) (by decide) (Nat.zero_le _) (Nat.zero_le _) ?_ (fun E h' q => by cases q.1)
  rintro w g3 ⟨er, eg⟩
  cases er
  obtain rfl := eg.symm
  show AR _ _ _ _ _ _ _ 10 [(0, .ref 0), (1, .int x)] [] h _ _
  refine AR.s (pc' := 11) (lv' := [(0, .ref 0), (1, .int x)]) (st' := [.ref 0]) (h' := h) _ hn_86 hk_86_10 rfl ?_
  refine AR.gR hk_86_11 (by decide) hH (q := 0) (n := 18) (by decide) (by decide +kernel) (by decide +kernel) (by decide) hy_t0_6 ?_
  show AR _ _ _ _ _ _ _ 14 [(0, .ref 0), (1, .int x)] [.ref 8] h _ _
  obtain ⟨v707, cv707⟩ := p_cell hH (q := 8) (by decide) (by decide +kernel : (ty_tab 8).1 = 2)
  refine AR.jr (r := 8) (as := []) (rest := []) hk_86_14 (by decide) (by decide +kernel) (by decide) cv707 rfl rfl (Nat.le_of_ble_eq_true rfl) (p_20 hlst hH) (by decide) (Nat.zero_le _) (Nat.zero_le _) ?_ (fun E h' q => by cases q.1)
  rintro w g1 ⟨e1, H1, P1, d1, v1⟩
  cases e1
  have Hg1 := H1
  show AR _ _ _ _ _ _ _ 17 [(0, .ref 0), (1, .int x)] [] g1 _ _
  have hC1 := hC.go P1 (by decide)
  show AR _ _ _ _ _ _ _ 17 [(0, .ref 0), (1, .int x)] [] g1 _ _
  refine AR.s (pc' := 18) (lv' := [(0, .ref 0), (1, .int x)]) (st' := [.ref 0]) (h' := g1) _ hn_86 hk_86_17 rfl ?_
  refine AR.gR hk_86_18 (by decide) Hg1 (q := 0) (n := 18) (by decide) (by decide +kernel) (by decide +kernel) (by decide) hy_t0_6 ?_
  show AR _ _ _ _ _ _ _ 21 [(0, .ref 0), (1, .int x)] [.ref 8] g1 _ _
  refine AR.s (pc' := 22) (lv' := [(0, .ref 0), (1, .int x)]) (st' := [.ref 0, .ref 8]) (h' := g1) _ hn_86 hk_86_21 rfl ?_
  refine AR.gR hk_86_22 (by decide) Hg1 (q := 0) (n := 18) (by decide) (by decide +kernel) (by decide +kernel) (by decide) hy_t0_4 ?_
  show AR _ _ _ _ _ _ _ 25 [(0, .ref 0), (1, .int x)] [.ref 7, .ref 8] g1 _ _
  refine AR.s (pc' := 26) (lv' := [(0, .ref 0), (1, .int x)]) (st' := [.int x, .ref 7, .ref 8]) (h' := g1) _ hn_86 hk_86_25 rfl ?_
  have ceg126 : ty_fd g1 7 x.toInt.toNat = some (.ref q) := by rw [show x.toInt.toNat = a from by omega, show q = 27 + 2 * a from by omega]; exact hC1 a (by omega)
  refine AR.aaX (t := 4) hk_86_26 H1 (by decide) (by decide +kernel) rfl rfl (by omega) ceg126 ?_
  show AR _ _ _ _ _ _ _ 27 [(0, .ref 0), (1, .int x)] [.ref q, .ref 8] g1 _ _
  refine AR.lconstT hk_86_27 (fun z708 ez708 => ?_)
  have kz708 : z708 = 1 := Int64.toInt_inj.mp (ez708.trans rfl)
  show AR _ _ _ _ _ _ _ 28 [(0, .ref 0), (1, .int x)] [.long z708, .ref q, .ref 8] g1 _ _
  obtain ⟨v709, cv709⟩ := p_cell Hg1 (q := 8) (by decide) (by decide +kernel : (ty_tab 8).1 = 2)
  refine AR.jr (r := 8) (as := [.ref q, .long z708]) (rest := []) hk_86_28 (by decide) (by decide +kernel) (by decide) cv709 rfl rfl (Nat.le_of_ble_eq_true rfl) (p_22 hlst (p := q) H1 Pq (by rw [kz708]; rfl) (fun k hk => by rw [v1 k hk]; omega) (by rw [d1]; omega)) (by decide) (Nat.zero_le _) (Nat.zero_le _) ?_ (fun E h' q => by cases q.1)
  rintro w g2 ⟨eg2, Hg2, Pg2, dg2, vg2⟩
  cases eg2
  have Hgg2 := Hg2
  show AR _ _ _ _ _ _ _ 31 [(0, .ref 0), (1, .int x)] [] g2 _ _
  have hC2 := hC1.go Pg2 (by decide)
  have Q2 : pf [8, 9] h g2 := pf.tr P1 Pg2 (fun _ q => q)
  have w2 : ∀ k, k < 24 → hy_z g2 9 k = hy_z h (q + 1) k := fun k hk => by rw [vg2 k hk, v1 k hk, P1.z (by simp; omega)]; omega
  have u2 : hy_z g2 8 1 = hy_z h q 1 := by rw [dg2, d1, P1.z (by simp; omega)]; omega
  show AR _ _ _ _ _ _ _ 31 [(0, .ref 0), (1, .int x)] [] g2 _ _
  refine AR.s (pc' := 32) (lv' := [(0, .ref 0), (1, .int x)]) (st' := [.ref 0]) (h' := g2) _ hn_86 hk_86_31 rfl ?_
  refine AR.gR hk_86_32 (by decide) Hg2 (q := 0) (n := 18) (by decide) (by decide +kernel) (by decide +kernel) (by decide) hy_t0_6 ?_
  show AR _ _ _ _ _ _ _ 35 [(0, .ref 0), (1, .int x)] [.ref 8] g2 _ _
  obtain ⟨v710, cv710⟩ := p_cell Hg2 (q := 8) (by decide) (by decide +kernel : (ty_tab 8).1 = 2)
  refine AR.jr (r := 8) (as := []) (rest := []) hk_86_35 (by decide) (by decide +kernel) (by decide) cv710 rfl rfl (Nat.le_of_ble_eq_true rfl) (p_24 hlst Hg2 (fun k hk => by rw [w2 k hk]; have := bq k hk; omega)) (by decide) (Nat.zero_le _) (Nat.zero_le _) ?_ (fun E h' q => by cases q.1)
  rintro w g3 ⟨e3, Hg3, Pg3, dg3, vg3⟩
  cases e3
  show AR _ _ _ _ _ _ _ 38 [(0, .ref 0), (1, .int x)] [] g3 _ _
  have hC3 := hC2.go Pg3 (by decide)
  have Q3 : pf [8, 9] h g3 := pf.tr Q2 Pg3 (fun _ q => q)
  have w3 : ∀ k, k < 24 → hy_z g3 9 k = min (hy_z h (q + 1) k) (hy_z h q 1) := fun k hk => by rw [vg3 k hk, w2 k hk, u2]
  have u3 : hy_z g3 8 1 = hy_z h q 1 := by rw [dg3, u2]
  have hI3 := hI.go Q3 (by decide) (by decide) (by decide)
  have nn : hy_z g3 0 5 = n := (Q3.z (by decide) 5).trans hn
  show AR _ _ _ _ _ _ _ 38 [(0, .ref 0), (1, .int x)] [] g3 _ _
  refine AR.s (pc' := 39) (lv' := [(0, .ref 0), (1, .int x)]) (st' := [.ref 0]) (h' := g3) _ hn_86 hk_86_38 rfl ?_
  obtain ⟨v711, cv711⟩ := p_cell Hg3 (q := 0) (by decide) (by decide +kernel : (ty_tab 0).1 = 8)
  refine AR.jr (r := 0) (as := []) (rest := []) hk_86_39 (by decide) (by decide +kernel) (by decide) cv711 rfl rfl (Nat.le_of_ble_eq_true rfl) (p_119 hlst Hg3 hI3 hC3 nn hn2 hp (fun k hk => by rw [w3 k hk]; have := bq k hk; omega) (by rw [u3]; omega)) (by decide) (Nat.zero_le _) (Nat.zero_le _) ?_ (fun E h' q => by obtain ⟨-, -, -, -, ⟨_, e, -⟩, -⟩ := q; cases e)
  rintro w g9 qq
  obtain ⟨z, er, ez⟩ := qq.2.2.2.2.1
  cases er
  show AR _ _ _ _ _ _ _ 42 [(0, .ref 0), (1, .int x)] [.int z] g9 _ _
  exact AR.iret hk_86_42 hr_86 (pN_of qq Q3 w3 u3)
/-- a bit of an int -/
def ib (x : Int32) (k : Nat) : Bool := x.toBitVec.getLsbD k
theorem ib_or (x y : Int32) (k : Nat) : ib (x ||| y) k = (ib x k || ib y k) := by unfold ib; rw [Int32.toBitVec_or, BitVec.getLsbD_or]
theorem ib_0 (k : Nat) : ib 0 k = false := BitVec.getLsbD_zero
theorem ib_1a : ∀ n, n < 24 → ∀ k, k < 24 → ib ((1 : Int32) <<< (Int32.ofNat n &&& 31)) k = decide (k = n) := by decide +kernel
theorem ib_1 {o s : Int32} {n k : Nat} (ho : o.toInt = 1) (hs : s.toInt = n) (hn : n < 24) (hk : k < 24) : ib (o <<< (s &&& 31)) k = decide (k = n) := by
  rw [p_of hs (by omega), show o = 1 from Int32.toInt_inj.mp (ho.trans (by decide))]
  exact ib_1a n hn k hk
theorem ib_sma : ∀ n, n < 24 → ((Int32.ofNat n &&& 31).toBitVec.smod 32#32).toNat = n := by decide +kernel
theorem ib_bt (y : Int32) : (y &&& 1).toInt = if ib y 0 then 1 else 0 := by
  have h1 : (y &&& 1).toBitVec.toNat = y.toBitVec.toNat % 2 := by
    rw [Int32.toBitVec_and, BitVec.toNat_and]
    exact Nat.and_one_is_mod _
  have h2 : (y &&& 1).toInt = ((y &&& 1).toBitVec.toNat : Int) := by
    show (y &&& 1).toBitVec.toInt = _
    rw [BitVec.toInt_eq_toNat_bmod]
    exact Int.bmod_eq_of_le (by show -_ ≤ ((y &&& 1).toBitVec.toNat : Int); omega) (by show ((y &&& 1).toBitVec.toNat : Int) < _; omega)
  have h3 : ib y 0 = decide (y.toBitVec.toNat % 2 = 1) := Nat.testBit_zero _
  rw [h2, h1, h3]
  by_cases e : y.toBitVec.toNat % 2 = 1
  · rw [decide_eq_true e, if_pos rfl]; omega
  · rw [decide_eq_false e, if_neg (by decide)]; omega
theorem ib_sh {x s o : Int32} {n : Nat} (hs : s.toInt = n) (hn : n < 24) (ho : o.toInt = 1) : ((x >>> (s &&& 31)) &&& o).toInt = if ib x n then 1 else 0 := by
  rw [show o = 1 from Int32.toInt_inj.mp (ho.trans (by decide)), ib_bt]
  have h1 : ib (x >>> (s &&& 31)) 0 = ib x n := by
    unfold ib
    rw [Int32.toBitVec_shiftRight, p_of hs (by omega)]
    show (x.toBitVec.sshiftRight (((Int32.ofNat n &&& 31).toBitVec.smod 32#32).toNat)).getLsbD 0 = _
    rw [ib_sma n hn, BitVec.getLsbD_sshiftRight, if_pos (show n + 0 < 32 by omega)]
    rfl
  rw [h1]
/-- the greatest coefficient outside of U -/
def gO (c : Nat → Int) (U : Nat → Bool) (z : Int) : Prop := (z = -1 ∧ ∀ k, k < 24 → U k = false → c k ≤ 0) ∨ ∃ m : Nat, z = m ∧ m < 24 ∧ U m = false ∧ 0 < c m ∧ ∀ k, k < 24 → U k = false → c k ≤ c m
def pq_15 (h : ax_H) (p : Nat) (U : Nat → Bool) : ax_Q := fun res g => g = h ∧ ∃ z : Int32, res = .inl (some (.int z)) ∧ gO (hy_z h (p + 1)) U z.toInt
theorem p15_L (hlst : l.stackTraces = false) {X : ax_PX} {p : Nat} {U : Nat → Bool} (hH : hy_H 0 h) (PC : pc_ok p) (hU : ∀ k, k < 24 → ib x k = U k) : ∀ (n : Nat) (i w b : Int32), i.toInt + n = 24 → 0 ≤ i.toInt → 0 ≤ w.toInt → (∀ k : Nat, (k : Int) < i.toInt → U k = false → hy_z h (p + 1) k ≤ w.toInt) → ((b.toInt = -1 ∧ w.toInt = 0) ∨ ∃ m : Nat, b.toInt = m ∧ m < 24 ∧ U m = false ∧ hy_z h (p + 1) m = w.toInt ∧ 0 < w.toInt) → AR ax_ns l (ax_mm 15) 0 ty_R (ax_ret ax_ns (ax_mm 15) (pq_15 h p U)) X 7 [(4, .int i), (3, .int w), (2, .int b), (1, .int x), (0, .ref p)] [] h 0 0 := by
  intro n
  induction n with
  | zero =>
    intro i w b hn i0 w0 hv hb
    show AR _ _ _ _ _ _ _ 7 [(4, .int i), (3, .int w), (2, .int b), (1, .int x), (0, .ref p)] [] h _ _
    refine AR.s (pc' := 9) (lv' := [(4, .int i), (3, .int w), (2, .int b), (1, .int x), (0, .ref p)]) (st' := [.int i]) (h' := h) _ hn_15 hk_15_7 rfl ?_
    refine AR.bipushT hk_15_9 (by decide) (fun z712 ez712 => ?_)
    show AR _ _ _ _ _ _ _ 11 [(4, .int i), (3, .int w), (2, .int b), (1, .int x), (0, .ref p)] [.int z712, .int i] h _ _
    refine AR.jge hk_15_11 (tgt := 51) (by decide) (fun p1 => ?_) (fun p2 => ?_)
    · refine AR.s (pc' := 52) (lv' := [(4, .int i), (3, .int w), (2, .int b), (1, .int x), (0, .ref p)]) (st' := [.int b]) (h' := h) _ hn_15 hk_15_51 rfl ?_
      refine AR.iret hk_15_52 hr_15 ⟨rfl, _, rfl, ?_⟩
      rcases hb with ⟨e1, e2⟩ | ⟨m, e1, e2, e3, e4, e5⟩
      · exact Or.inl ⟨e1, fun k hk e => by have := hv k (by omega) e; omega⟩
      · exact Or.inr ⟨m, e1, e2, e3, by omega, fun k hk e => by have := hv k (by omega) e; omega⟩
    · exact absurd p2 (by omega)
  | succ n ih =>
    intro i w b hn i0 w0 hv hb
    show AR _ _ _ _ _ _ _ 7 [(4, .int i), (3, .int w), (2, .int b), (1, .int x), (0, .ref p)] [] h _ _
    refine AR.s (pc' := 9) (lv' := [(4, .int i), (3, .int w), (2, .int b), (1, .int x), (0, .ref p)]) (st' := [.int i]) (h' := h) _ hn_15 hk_15_7 rfl ?_
    refine AR.bipushT hk_15_9 (by decide) (fun z713 ez713 => ?_)
    show AR _ _ _ _ _ _ _ 11 [(4, .int i), (3, .int w), (2, .int b), (1, .int x), (0, .ref p)] [.int z713, .int i] h _ _
    refine AR.jge hk_15_11 (tgt := 51) (by decide) (fun p1 => ?_) (fun p2 => ?_)
    · exact absurd p1 (by omega)
    · refine AR.s (pc' := 15) (lv' := [(4, .int i), (3, .int w), (2, .int b), (1, .int x), (0, .ref p)]) (st' := [.int x]) (h' := h) _ hn_15 hk_15_14 rfl ?_
      refine AR.s (pc' := 17) (lv' := [(4, .int i), (3, .int w), (2, .int b), (1, .int x), (0, .ref p)]) (st' := [.int i, .int x]) (h' := h) _ hn_15 hk_15_15 rfl ?_
      refine AR.ishr (z := .int (x >>> (i &&& 31))) (ax_look_ok hk_15_17).1 rfl ?_
      generalize gz714 : x >>> (i &&& 31) = z714
      show AR _ _ _ _ _ _ _ 18 [(4, .int i), (3, .int w), (2, .int b), (1, .int x), (0, .ref p)] [.int z714] h _ _
      refine AR.iconstT hk_15_18 (by decide) (fun z715 ez715 => ?_)
      show AR _ _ _ _ _ _ _ 19 [(4, .int i), (3, .int w), (2, .int b), (1, .int x), (0, .ref p)] [.int z715, .int z714] h _ _
      refine AR.iand (z := .int (z714 &&& z715)) (ax_look_ok hk_15_19).1 rfl ?_
      generalize gz716 : z714 &&& z715 = z716
      show AR _ _ _ _ _ _ _ 20 [(4, .int i), (3, .int w), (2, .int b), (1, .int x), (0, .ref p)] [.int z716] h _ _
      have ik : (i.toInt.toNat : Int) = i.toInt := by omega
      have tb : z716.toInt = if U i.toInt.toNat then 1 else 0 := by rw [← hU _ (by omega), ← gz716, ← gz714]; exact ib_sh (by omega) (by omega) ez715
      show AR _ _ _ _ _ _ _ 20 [(4, .int i), (3, .int w), (2, .int b), (1, .int x), (0, .ref p)] [.int z716] h _ _
      refine AR.zne hk_15_20 (tgt := 45) (by decide) (fun q1 => ?_) (fun q2 => ?_)
      · have ui : U i.toInt.toNat = true := by
          cases e : U i.toInt.toNat with
          | true => rfl
          | false => rw [e] at tb; exact absurd (show z716.toInt = 0 from tb) (by omega)
        refine AR.iincT hk_15_45 (x := i) rfl (by rw [hn_15]; decide) (by decide) (by omega) (by omega) (fun z717 ez717 => ?_)
        show AR _ _ _ _ _ _ _ 48 [(4, .int z717), (3, .int w), (2, .int b), (1, .int x), (0, .ref p)] [] h _ _
        refine AR.gotoT hk_15_48 (tgt := 7) (by decide) ?_
        refine AR.lessL (lv' := [(4, .int z717), (3, .int w), (2, .int b), (1, .int x), (0, .ref p)]) (List.forall_mem_cons.mpr ⟨⟨_, by simp, ax_le_rfl rfl⟩, (List.forall_mem_cons.mpr ⟨⟨_, by simp, ax_le_rfl rfl⟩, (List.forall_mem_cons.mpr ⟨⟨_, by simp, ax_le_rfl rfl⟩, (List.forall_mem_cons.mpr ⟨⟨_, by simp, ax_le_rfl rfl⟩, (List.forall_mem_cons.mpr ⟨⟨_, by simp, ax_le_rfl rfl⟩, (fun _ h => absurd h List.not_mem_nil)⟩)⟩)⟩)⟩)⟩) ?_
        refine ih z717 w b (by omega) (by omega) (by omega) (fun k hk e => ?_) ?_
        · by_cases ew : (k : Int) = i.toInt
          · have ek : k = i.toInt.toNat := by omega
            rw [ek] at e ⊢
            rw [ui] at e; cases e
          · have := hv k (by omega) e
            omega
        · exact hb
      · have ui : U i.toInt.toNat = false := by
          cases e : U i.toInt.toNat with
          | false => rfl
          | true => rw [e] at tb; exact absurd (show z716.toInt = 1 from tb) (by omega)
        have xk : i.toNatClampNeg = i.toInt.toNat := rfl
        refine AR.s (pc' := 24) (lv' := [(4, .int i), (3, .int w), (2, .int b), (1, .int x), (0, .ref p)]) (st' := [.ref p]) (h' := h) _ hn_15 hk_15_23 rfl ?_
        refine AR.gR hk_15_24 (by decide) hH (q := p) (n := 3) (by have := PC.2.1; omega) PC.2.2.1 PC.2.2.2.1 (by decide) PC.2.2.2.2.1 ?_
        show AR _ _ _ _ _ _ _ 27 [(4, .int i), (3, .int w), (2, .int b), (1, .int x), (0, .ref p)] [.ref (p + 1)] h _ _
        refine AR.s (pc' := 29) (lv' := [(4, .int i), (3, .int w), (2, .int b), (1, .int x), (0, .ref p)]) (st' := [.int i, .ref (p + 1)]) (h' := h) _ hn_15 hk_15_27 rfl ?_
        refine AR.iaI hk_15_29 hH (q := p + 1) (n := 24) PC.2.1 PC.2.2.2.2.2.2.2.1 PC.2.2.2.2.2.2.2.2.1 PC.2.2.2.2.2.2.2.2.2.1 PC.2.2.2.2.2.2.2.2.2.2.1 (by omega) (by omega) (fun x718 dx718 lx718 ux718 => ?_)
        show AR _ _ _ _ _ _ _ 30 [(4, .int i), (3, .int w), (2, .int b), (1, .int x), (0, .ref p)] [.int x718] h _ _
        rw [xk] at dx718
        have yx718 := hy_zi dx718
        show AR _ _ _ _ _ _ _ 30 [(4, .int i), (3, .int w), (2, .int b), (1, .int x), (0, .ref p)] [.int x718] h _ _
        refine AR.s (pc' := 31) (lv' := [(4, .int i), (3, .int w), (2, .int b), (1, .int x), (0, .ref p)]) (st' := [.int w, .int x718]) (h' := h) _ hn_15 hk_15_30 rfl ?_
        refine AR.jle hk_15_31 (tgt := 45) (by decide) (fun r1 => ?_) (fun r2 => ?_)
        · refine AR.iincT hk_15_45 (x := i) rfl (by rw [hn_15]; decide) (by decide) (by omega) (by omega) (fun z719 ez719 => ?_)
          show AR _ _ _ _ _ _ _ 48 [(4, .int z719), (3, .int w), (2, .int b), (1, .int x), (0, .ref p)] [] h _ _
          refine AR.gotoT hk_15_48 (tgt := 7) (by decide) ?_
          refine AR.lessL (lv' := [(4, .int z719), (3, .int w), (2, .int b), (1, .int x), (0, .ref p)]) (List.forall_mem_cons.mpr ⟨⟨_, by simp, ax_le_rfl rfl⟩, (List.forall_mem_cons.mpr ⟨⟨_, by simp, ax_le_rfl rfl⟩, (List.forall_mem_cons.mpr ⟨⟨_, by simp, ax_le_rfl rfl⟩, (List.forall_mem_cons.mpr ⟨⟨_, by simp, ax_le_rfl rfl⟩, (List.forall_mem_cons.mpr ⟨⟨_, by simp, ax_le_rfl rfl⟩, (fun _ h => absurd h List.not_mem_nil)⟩)⟩)⟩)⟩)⟩) ?_
          refine ih z719 w b (by omega) (by omega) (by omega) (fun k hk e => ?_) ?_
          · by_cases ew : (k : Int) = i.toInt
            · have ek : k = i.toInt.toNat := by omega
              rw [ek] at e ⊢
              omega
            · have := hv k (by omega) e
              omega
          · exact hb
        · refine AR.s (pc' := 36) (lv' := [(4, .int i), (3, .int w), (2, .int b), (1, .int x), (0, .ref p)]) (st' := [.int i]) (h' := h) _ hn_15 hk_15_34 rfl ?_
          refine AR.s (pc' := 37) (lv' := [(2, .int i), (4, .int i), (3, .int w), (1, .int x), (0, .ref p)]) (st' := []) (h' := h) _ hn_15 hk_15_36 rfl ?_
          refine AR.s (pc' := 38) (lv' := [(2, .int i), (4, .int i), (3, .int w), (1, .int x), (0, .ref p)]) (st' := [.ref p]) (h' := h) _ hn_15 hk_15_37 rfl ?_
          refine AR.gR hk_15_38 (by decide) hH (q := p) (n := 3) (by have := PC.2.1; omega) PC.2.2.1 PC.2.2.2.1 (by decide) PC.2.2.2.2.1 ?_
          show AR _ _ _ _ _ _ _ 41 [(2, .int i), (4, .int i), (3, .int w), (1, .int x), (0, .ref p)] [.ref (p + 1)] h _ _
          refine AR.s (pc' := 43) (lv' := [(2, .int i), (4, .int i), (3, .int w), (1, .int x), (0, .ref p)]) (st' := [.int i, .ref (p + 1)]) (h' := h) _ hn_15 hk_15_41 rfl ?_
          refine AR.iaI hk_15_43 hH (q := p + 1) (n := 24) PC.2.1 PC.2.2.2.2.2.2.2.1 PC.2.2.2.2.2.2.2.2.1 PC.2.2.2.2.2.2.2.2.2.1 PC.2.2.2.2.2.2.2.2.2.2.1 (by omega) (by omega) (fun x720 dx720 lx720 ux720 => ?_)
          show AR _ _ _ _ _ _ _ 44 [(2, .int i), (4, .int i), (3, .int w), (1, .int x), (0, .ref p)] [.int x720] h _ _
          rw [xk] at dx720
          have yx720 := hy_zi dx720
          show AR _ _ _ _ _ _ _ 44 [(2, .int i), (4, .int i), (3, .int w), (1, .int x), (0, .ref p)] [.int x720] h _ _
          refine AR.s (pc' := 45) (lv' := [(3, .int x720), (2, .int i), (4, .int i), (1, .int x), (0, .ref p)]) (st' := []) (h' := h) _ hn_15 hk_15_44 rfl ?_
          refine AR.iincT hk_15_45 (x := i) rfl (by rw [hn_15]; decide) (by decide) (by omega) (by omega) (fun z721 ez721 => ?_)
          show AR _ _ _ _ _ _ _ 48 [(4, .int z721), (3, .int x720), (2, .int i), (1, .int x), (0, .ref p)] [] h _ _
          refine AR.gotoT hk_15_48 (tgt := 7) (by decide) ?_
          refine AR.lessL (lv' := [(4, .int z721), (3, .int x720), (2, .int i), (1, .int x), (0, .ref p)]) (List.forall_mem_cons.mpr ⟨⟨_, by simp, ax_le_rfl rfl⟩, (List.forall_mem_cons.mpr ⟨⟨_, by simp, ax_le_rfl rfl⟩, (List.forall_mem_cons.mpr ⟨⟨_, by simp, ax_le_rfl rfl⟩, (List.forall_mem_cons.mpr ⟨⟨_, by simp, ax_le_rfl rfl⟩, (List.forall_mem_cons.mpr ⟨⟨_, by simp, ax_le_rfl rfl⟩, (fun _ h => absurd h List.not_mem_nil)⟩)⟩)⟩)⟩)⟩) ?_
          refine ih z721 x720 i (by omega) (by omega) (by omega) (fun k hk e => ?_) ?_
          · by_cases ew : (k : Int) = i.toInt
            · have ek : k = i.toInt.toNat := by omega
              rw [ek] at e ⊢
              omega
            · have := hv k (by omega) e
              omega
          · exact Or.inr ⟨i.toInt.toNat, by omega, by omega, ui, by omega, by omega⟩
theorem p_15 (hlst : l.stackTraces = false) {p : Nat} {U : Nat → Bool} (hH : hy_H 0 h) (PC : pc_ok p) (hU : ∀ k, k < 24 → ib x k = U k) : AM ax_ns l (ax_mm 15) 0 ty_R (0) (0) [.ref p, .int x] h (pq_15 h p U) := by
  refine AM.of (ax_mfacts (by decide +kernel : ax_has 15 = true)).2.2.2.2.2.2 hlst (by rw [hn_15]; exact Nat.le_of_ble_eq_true rfl) ?_
  show AR ax_ns l (ax_mm 15) 0 ty_R _ _ 0 [(0, .ref p), (1, .int x)] [] h (0) (0)
  refine AR.iconstT hk_15_0 (by decide) (fun z722 ez722 => ?_)
  show AR _ _ _ _ _ _ _ 1 [(0, .ref p), (1, .int x)] [.int z722] h _ _
  refine AR.s (pc' := 2) (lv' := [(2, .int z722), (0, .ref p), (1, .int x)]) (st' := []) (h' := h) _ hn_15 hk_15_1 rfl ?_
  refine AR.iconstT hk_15_2 (by decide) (fun z723 ez723 => ?_)
  show AR _ _ _ _ _ _ _ 3 [(2, .int z722), (0, .ref p), (1, .int x)] [.int z723] h _ _
  refine AR.s (pc' := 4) (lv' := [(3, .int z723), (2, .int z722), (0, .ref p), (1, .int x)]) (st' := []) (h' := h) _ hn_15 hk_15_3 rfl ?_
  refine AR.iconstT hk_15_4 (by decide) (fun z724 ez724 => ?_)
  show AR _ _ _ _ _ _ _ 5 [(3, .int z723), (2, .int z722), (0, .ref p), (1, .int x)] [.int z724] h _ _
  refine AR.s (pc' := 7) (lv' := [(4, .int z724), (3, .int z723), (2, .int z722), (0, .ref p), (1, .int x)]) (st' := []) (h' := h) _ hn_15 hk_15_5 rfl ?_
  refine AR.lessL (lv' := [(4, .int z724), (3, .int z723), (2, .int z722), (1, .int x), (0, .ref p)]) (List.forall_mem_cons.mpr ⟨⟨_, by simp, ax_le_rfl rfl⟩, (List.forall_mem_cons.mpr ⟨⟨_, by simp, ax_le_rfl rfl⟩, (List.forall_mem_cons.mpr ⟨⟨_, by simp, ax_le_rfl rfl⟩, (List.forall_mem_cons.mpr ⟨⟨_, by simp, ax_le_rfl rfl⟩, (List.forall_mem_cons.mpr ⟨⟨_, by simp, ax_le_rfl rfl⟩, (fun _ h => absurd h List.not_mem_nil)⟩)⟩)⟩)⟩)⟩) ?_
  exact p15_L hlst hH PC hU 24 z724 z723 z722 (by omega) (by omega) (by omega) (fun k hk => absurd hk (by omega)) (Or.inl ⟨by omega, by omega⟩)
def cn (U : Nat → Bool) : Nat → Int
  | 0 => 0
  | n + 1 => cn U n + if U n then 1 else 0
def su (U : Nat → Bool) (c : Nat → Int) : Nat → Int
  | 0 => 0
  | n + 1 => su U c n + if U n then c n else 0
def ad (U : Nat → Bool) (m k : Nat) : Bool := U k || decide (k = m)
theorem cn_ad {U : Nat → Bool} {m : Nat} (h : U m = false) : ∀ n, cn (ad U m) n = cn U n + if m < n then 1 else 0
  | 0 => by rw [if_neg (by omega)]; rfl
  | n + 1 => by
    show cn (ad U m) n + (if ad U m n then 1 else 0) = cn U n + (if U n then 1 else 0) + _
    rw [cn_ad h n]
    unfold ad
    by_cases e : n = m
    · subst e
      rw [h, decide_eq_true rfl, if_neg (by omega), if_pos (by omega : n < n + 1)]
      simp
    · rw [decide_eq_false e, Bool.or_false]
      by_cases e2 : m < n
      · rw [if_pos e2, if_pos (by omega : m < n + 1)]; omega
      · rw [if_neg e2, if_neg (by omega : ¬ m < n + 1)]; omega
theorem su_ad {U : Nat → Bool} {c : Nat → Int} {m : Nat} (h : U m = false) : ∀ n, su (ad U m) c n = su U c n + if m < n then c m else 0
  | 0 => by rw [if_neg (by omega)]; rfl
  | n + 1 => by
    show su (ad U m) c n + (if ad U m n then c n else 0) = su U c n + (if U n then c n else 0) + _
    rw [su_ad h n]
    unfold ad
    by_cases e : n = m
    · subst e
      rw [h, decide_eq_true rfl, if_neg (by omega), if_pos (by omega : n < n + 1)]
      simp
    · rw [decide_eq_false e, Bool.or_false]
      by_cases e2 : m < n
      · rw [if_pos e2, if_pos (by omega : m < n + 1)]; omega
      · rw [if_neg e2, if_neg (by omega : ¬ m < n + 1)]; omega
theorem cn_no (n : Nat) : cn (fun _ => false) n = 0 := by
  induction n with
  | zero => rfl
  | succ n ih => show cn _ n + (if false = true then 1 else 0) = 0; rw [ih]; rfl
theorem su_no (c : Nat → Int) (n : Nat) : su (fun _ => false) c n = 0 := by
  induction n with
  | zero => rfl
  | succ n ih => show su _ c n + (if false = true then c n else 0) = 0; rw [ih]; rfl
/-- of each variable one literal at most: so there are no more than twelve -/
theorem cn_12 {U : Nat → Bool} {c : Nat → Int} (hp : ∀ k, k < 24 → U k = true → 0 < c k) (hn : ∀ m, m < 12 → c (2 * m) ≤ 0 ∨ c (2 * m + 1) ≤ 0) : ∀ n, n ≤ 12 → cn U (2 * n) ≤ n
  | 0, _ => by show (0 : Int) ≤ _; omega
  | n + 1, h => by
    have a := cn_12 hp hn n (by omega)
    have b := hn n (by omega)
    have f1 : (if U (2 * n) = true then (1 : Int) else 0) + (if U (2 * n + 1) = true then 1 else 0) ≤ 1 := by
      cases e1 : U (2 * n) with
      | false => cases U (2 * n + 1) <;> decide
      | true => cases e2 : U (2 * n + 1) with
        | false => decide
        | true =>
          have h1 := hp _ (by omega) e1
          have h2 := hp _ (by omega) e2
          omega
    show cn U (2 * n) + (if U (2 * n) = true then (1 : Int) else 0) + (if U (2 * n + 1) = true then 1 else 0) ≤ ((n + 1 : Nat) : Int)
    generalize (if U (2 * n) = true then (1 : Int) else 0) = q1 at f1 ⊢
    generalize (if U (2 * n + 1) = true then (1 : Int) else 0) = q2 at f1 ⊢
    omega
/-- the greatest ones -/
def gU (c : Nat → Int) (U : Nat → Bool) : Prop := (∀ k, k < 24 → U k = true → 0 < c k) ∧ ∀ k, k < 24 → U k = true → ∀ j, j < 24 → U j = false → c j ≤ c k
theorem gU_no (c : Nat → Int) : gU c (fun _ => false) := ⟨fun _ _ e => (by cases e), fun _ _ e => (by cases e)⟩
theorem gU_ad {c : Nat → Int} {U : Nat → Bool} {m : Nat} (g : gU c U) (hm : m < 24) (um : U m = false) (pm : 0 < c m) (hg : ∀ k, k < 24 → U k = false → c k ≤ c m) : gU c (ad U m) := by
  unfold ad
  refine ⟨fun k hk e => ?_, fun k hk e j hj e2 => ?_⟩
  · rcases Bool.or_eq_true_iff.mp e with e | e
    · exact g.1 k hk e
    · rw [of_decide_eq_true e]; exact pm
  · have uj : U j = false := (Bool.or_eq_false_iff.mp e2).1
    rcases Bool.or_eq_true_iff.mp e with e | e
    · exact g.2 k hk e j hj uj
    · rw [of_decide_eq_true e]; exact hg j hj uj
/-- fewer than z true literals can't be enough -/
def pG (c : Nat → Int) (D z : Int) : Prop := z = 0 ∨ ∃ U : Nat → Bool, gU c U ∧ cn U 24 = z - 1 ∧ su U c 24 < D
def pq_14 (h : ax_H) (p : Nat) : ax_Q := fun res g => g = h ∧ ∃ z : Int32, res = .inl (some (.int z)) ∧ 0 ≤ z.toInt ∧ z.toInt ≤ 25 ∧ pG (hy_z h (p + 1)) (hy_z h p 1) z.toInt

theorem p14_L (hlst : l.stackTraces = false) {X : ax_PX} {p : Nat} (hH : hy_H 0 h) (PC : pc_ok p) (bc0 : ∀ k, k < 24 → 0 ≤ hy_z h (p + 1) k ∧ hy_z h (p + 1) k ≤ 1000000) (bn : ∀ m, m < 12 → hy_z h (p + 1) (2 * m) ≤ 0 ∨ hy_z h (p + 1) (2 * m + 1) ≤ 0) : ∀ (n : Nat) (i j x : Int32) (m : Int64) (U : Nat → Bool), i.toInt + n = 24 → 0 ≤ i.toInt → j.toInt = i.toInt → (∀ k, k < 24 → ib x k = U k) → gU (hy_z h (p + 1)) U → cn U 24 = i.toInt → m.toInt = hy_z h p 1 - su U (hy_z h (p + 1)) 24 → m.toInt ≤ 1000000 → pG (hy_z h (p + 1)) (hy_z h p 1) i.toInt → AR ax_ns l (ax_mm 14) 1 ty_R (ax_ret ax_ns (ax_mm 14) (pq_14 h p)) X 14 [(5, .int i), (4, .int j), (3, .int x), (1, .long m), (0, .ref p)] [] h 0 0 := by
  intro n
  induction n with
  | zero =>
    intro i j x m U hn i0 ji hU gu cu me m6 pg
    show AR _ _ _ _ _ _ _ 14 [(5, .int i), (4, .int j), (3, .int x), (1, .long m), (0, .ref p)] [] h _ _
    have c12 : cn U 24 ≤ 12 := cn_12 gu.1 bn 12 (by decide)
    exact absurd cu (by omega)
  | succ n ih =>
    intro i j x m U hn i0 ji hU gu cu me m6 pg
    show AR _ _ _ _ _ _ _ 14 [(5, .int i), (4, .int j), (3, .int x), (1, .long m), (0, .ref p)] [] h _ _
    refine AR.s (pc' := 16) (lv' := [(5, .int i), (4, .int j), (3, .int x), (1, .long m), (0, .ref p)]) (st' := [.int i]) (h' := h) _ hn_14 hk_14_14 rfl ?_
    refine AR.bipushT hk_14_16 (by decide) (fun z725 ez725 => ?_)
    show AR _ _ _ _ _ _ _ 18 [(5, .int i), (4, .int j), (3, .int x), (1, .long m), (0, .ref p)] [.int z725, .int i] h _ _
    refine AR.jge hk_14_18 (tgt := 71) (by decide) (fun p1 => ?_) (fun p2 => ?_)
    · exact absurd p1 (by omega)
    · refine AR.s (pc' := 22) (lv' := [(5, .int i), (4, .int j), (3, .int x), (1, .long m), (0, .ref p)]) (st' := [.long m]) (h' := h) _ hn_14 hk_14_21 rfl ?_
      refine AR.lconstT hk_14_22 (fun z726 ez726 => ?_)
      have kz726 : z726 = 0 := Int64.toInt_inj.mp (ez726.trans rfl)
      show AR _ _ _ _ _ _ _ 23 [(5, .int i), (4, .int j), (3, .int x), (1, .long m), (0, .ref p)] [.long z726, .long m] h _ _
      have zz : z726.toInt = 0 := by rw [kz726]; rfl
      refine AR.lcmpT hk_14_23 (fun c cc => ?_)
      obtain ⟨cc1, cc2, cc3⟩ := cc
      show AR _ _ _ _ _ _ _ 24 [(5, .int i), (4, .int j), (3, .int x), (1, .long m), (0, .ref p)] [.int c] h _ _
      refine AR.zle hk_14_24 (tgt := 71) (by decide) (fun q1 => ?_) (fun q2 => ?_)
      · refine AR.s (pc' := 73) (lv' := [(5, .int i), (4, .int j), (3, .int x), (1, .long m), (0, .ref p)]) (st' := [.int j]) (h' := h) _ hn_14 hk_14_71 rfl ?_
        exact AR.iret hk_14_73 hr_14 ⟨rfl, _, rfl, by omega, by omega, by rw [ji]; exact pg⟩
      · have m0 : 0 < m.toInt := by rcases Int.lt_trichotomy m.toInt z726.toInt with w | w | w; have := cc1 w; omega; have := cc2 w; omega; omega
        have pg1 : pG (hy_z h (p + 1)) (hy_z h p 1) (i.toInt + 1) := Or.inr ⟨U, gu, by omega, by omega⟩
        show AR _ _ _ _ _ _ _ 27 [(5, .int i), (4, .int j), (3, .int x), (1, .long m), (0, .ref p)] [] h _ _
        refine AR.s (pc' := 28) (lv' := [(5, .int i), (4, .int j), (3, .int x), (1, .long m), (0, .ref p)]) (st' := [.ref p]) (h' := h) _ hn_14 hk_14_27 rfl ?_
        refine AR.s (pc' := 29) (lv' := [(5, .int i), (4, .int j), (3, .int x), (1, .long m), (0, .ref p)]) (st' := [.int x, .ref p]) (h' := h) _ hn_14 hk_14_28 rfl ?_
        obtain ⟨vp, cp⟩ := p_cp hH PC
        refine AR.jr (r := p) (as := [.int x]) (rest := []) hk_14_29 (by decide) (by decide +kernel) (by have := PC.2.1; omega) cp rfl rfl (Nat.le_of_ble_eq_true rfl) (p_15 hlst (U := U) hH PC hU) (by decide) (Nat.zero_le _) (Nat.zero_le _) ?_ (fun E h' q => by obtain ⟨-, _, e, -⟩ := q; cases e)
        rintro w g3 ⟨eg, r, er, hr⟩
        cases er
        obtain rfl := eg.symm
        show AR _ _ _ _ _ _ _ 32 [(5, .int i), (4, .int j), (3, .int x), (1, .long m), (0, .ref p)] [.int r] h _ _
        refine AR.s (pc' := 34) (lv' := [(6, .int r), (5, .int i), (4, .int j), (3, .int x), (1, .long m), (0, .ref p)]) (st' := []) (h' := h) _ hn_14 hk_14_32 rfl ?_
        refine AR.s (pc' := 36) (lv' := [(6, .int r), (5, .int i), (4, .int j), (3, .int x), (1, .long m), (0, .ref p)]) (st' := [.int r]) (h' := h) _ hn_14 hk_14_34 rfl ?_
        refine AR.zge hk_14_36 (tgt := 44) (by decide) (fun r1 => ?_) (fun r2 => ?_)
        · rcases hr with ⟨e1, e2⟩ | ⟨k, e1, e2, e3, e4, e5⟩
          · exact absurd r1 (by omega)
          have bk := bc0 k e2
          show AR _ _ _ _ _ _ _ 44 [(6, .int r), (5, .int i), (4, .int j), (3, .int x), (1, .long m), (0, .ref p)] [] h _ _
          refine AR.s (pc' := 45) (lv' := [(6, .int r), (5, .int i), (4, .int j), (3, .int x), (1, .long m), (0, .ref p)]) (st' := [.long m]) (h' := h) _ hn_14 hk_14_44 rfl ?_
          refine AR.s (pc' := 46) (lv' := [(6, .int r), (5, .int i), (4, .int j), (3, .int x), (1, .long m), (0, .ref p)]) (st' := [.ref p, .long m]) (h' := h) _ hn_14 hk_14_45 rfl ?_
          refine AR.gR hk_14_46 (by decide) hH (q := p) (n := 3) (by have := PC.2.1; omega) PC.2.2.1 PC.2.2.2.1 (by decide) PC.2.2.2.2.1 ?_
          show AR _ _ _ _ _ _ _ 49 [(6, .int r), (5, .int i), (4, .int j), (3, .int x), (1, .long m), (0, .ref p)] [.ref (p + 1), .long m] h _ _
          refine AR.s (pc' := 51) (lv' := [(6, .int r), (5, .int i), (4, .int j), (3, .int x), (1, .long m), (0, .ref p)]) (st' := [.int r, .ref (p + 1), .long m]) (h' := h) _ hn_14 hk_14_49 rfl ?_
          refine AR.iaI hk_14_51 hH (q := p + 1) (n := 24) PC.2.1 PC.2.2.2.2.2.2.2.1 PC.2.2.2.2.2.2.2.2.1 PC.2.2.2.2.2.2.2.2.2.1 PC.2.2.2.2.2.2.2.2.2.2.1 (by omega) (by omega) (fun x727 dx727 lx727 ux727 => ?_)
          show AR _ _ _ _ _ _ _ 52 [(6, .int r), (5, .int i), (4, .int j), (3, .int x), (1, .long m), (0, .ref p)] [.int x727, .long m] h _ _
          rw [show r.toNatClampNeg = k from by show r.toInt.toNat = k; omega] at dx727
          have yx727 := hy_zi dx727
          show AR _ _ _ _ _ _ _ 52 [(6, .int r), (5, .int i), (4, .int j), (3, .int x), (1, .long m), (0, .ref p)] [.int x727, .long m] h _ _
          refine AR.i2lT hk_14_52 (fun z728 ez728 => ?_)
          show AR _ _ _ _ _ _ _ 53 [(6, .int r), (5, .int i), (4, .int j), (3, .int x), (1, .long m), (0, .ref p)] [.long z728, .long m] h _ _
          refine AR.lsubT hk_14_53 (by omega) (by omega) (fun z729 ez729 => ?_)
          show AR _ _ _ _ _ _ _ 54 [(6, .int r), (5, .int i), (4, .int j), (3, .int x), (1, .long m), (0, .ref p)] [.long z729] h _ _
          refine AR.s (pc' := 55) (lv' := [(1, .long z729), (6, .int r), (5, .int i), (4, .int j), (3, .int x), (0, .ref p)]) (st' := []) (h' := h) _ hn_14 hk_14_54 rfl ?_
          refine AR.s (pc' := 56) (lv' := [(1, .long z729), (6, .int r), (5, .int i), (4, .int j), (3, .int x), (0, .ref p)]) (st' := [.int x]) (h' := h) _ hn_14 hk_14_55 rfl ?_
          refine AR.iconstT hk_14_56 (by decide) (fun z730 ez730 => ?_)
          show AR _ _ _ _ _ _ _ 57 [(1, .long z729), (6, .int r), (5, .int i), (4, .int j), (3, .int x), (0, .ref p)] [.int z730, .int x] h _ _
          refine AR.s (pc' := 59) (lv' := [(1, .long z729), (6, .int r), (5, .int i), (4, .int j), (3, .int x), (0, .ref p)]) (st' := [.int r, .int z730, .int x]) (h' := h) _ hn_14 hk_14_57 rfl ?_
          refine AR.ishl (z := .int (z730 <<< (r &&& 31))) (ax_look_ok hk_14_59).1 rfl ?_
          generalize gz731 : z730 <<< (r &&& 31) = z731
          show AR _ _ _ _ _ _ _ 60 [(1, .long z729), (6, .int r), (5, .int i), (4, .int j), (3, .int x), (0, .ref p)] [.int z731, .int x] h _ _
          refine AR.ior (z := .int (x ||| z731)) (ax_look_ok hk_14_60).1 rfl ?_
          generalize gz732 : x ||| z731 = z732
          show AR _ _ _ _ _ _ _ 61 [(1, .long z729), (6, .int r), (5, .int i), (4, .int j), (3, .int x), (0, .ref p)] [.int z732] h _ _
          refine AR.s (pc' := 62) (lv' := [(3, .int z732), (1, .long z729), (6, .int r), (5, .int i), (4, .int j), (0, .ref p)]) (st' := []) (h' := h) _ hn_14 hk_14_61 rfl ?_
          refine AR.iincT hk_14_62 (x := j) rfl (by rw [hn_14]; decide) (by decide) (by omega) (by omega) (fun z733 ez733 => ?_)
          show AR _ _ _ _ _ _ _ 65 [(4, .int z733), (3, .int z732), (1, .long z729), (6, .int r), (5, .int i), (0, .ref p)] [] h _ _
          refine AR.iincT hk_14_65 (x := i) rfl (by rw [hn_14]; decide) (by decide) (by omega) (by omega) (fun z734 ez734 => ?_)
          show AR _ _ _ _ _ _ _ 68 [(5, .int z734), (4, .int z733), (3, .int z732), (1, .long z729), (6, .int r), (0, .ref p)] [] h _ _
          refine AR.gotoT hk_14_68 (tgt := 14) (by decide) ?_
          refine AR.lessL (lv' := [(5, .int z734), (4, .int z733), (3, .int z732), (1, .long z729), (0, .ref p)]) (List.forall_mem_cons.mpr ⟨⟨_, by simp, ax_le_rfl rfl⟩, (List.forall_mem_cons.mpr ⟨⟨_, by simp, ax_le_rfl rfl⟩, (List.forall_mem_cons.mpr ⟨⟨_, by simp, ax_le_rfl rfl⟩, (List.forall_mem_cons.mpr ⟨⟨_, by simp, ax_le_rfl rfl⟩, (List.forall_mem_cons.mpr ⟨⟨_, by simp, ax_le_rfl rfl⟩, (fun _ h => absurd h List.not_mem_nil)⟩)⟩)⟩)⟩)⟩) ?_
          have s1 := su_ad (c := hy_z h (p + 1)) e3 24
          have c1 := cn_ad e3 24
          rw [if_pos e2] at s1 c1
          exact ih z734 z733 z732 z729 (ad U k) (by omega) (by omega) (by omega) (fun k2 hk2 => by rw [← gz732, ib_or, hU k2 hk2, ← gz731, ib_1 ez730 e1 e2 hk2]; rfl) (gU_ad gu e2 e3 e4 e5) (by omega) (by omega) (by omega) (by rw [show z734.toInt = i.toInt + 1 from by omega]; exact pg1)
        · refine AR.s (pc' := 41) (lv' := [(6, .int r), (5, .int i), (4, .int j), (3, .int x), (1, .long m), (0, .ref p)]) (st' := [.int j]) (h' := h) _ hn_14 hk_14_39 rfl ?_
          refine AR.iconstT hk_14_41 (by decide) (fun z735 ez735 => ?_)
          show AR _ _ _ _ _ _ _ 42 [(6, .int r), (5, .int i), (4, .int j), (3, .int x), (1, .long m), (0, .ref p)] [.int z735, .int j] h _ _
          refine AR.addT hk_14_42 (by omega) (by omega) (fun z736 ez736 => ?_)
          show AR _ _ _ _ _ _ _ 43 [(6, .int r), (5, .int i), (4, .int j), (3, .int x), (1, .long m), (0, .ref p)] [.int z736] h _ _
          exact AR.iret hk_14_43 hr_14 ⟨rfl, _, rfl, by omega, by omega, by rw [show z736.toInt = i.toInt + 1 from by omega]; exact pg1⟩
theorem p_14 (hlst : l.stackTraces = false) {p : Nat} (hH : hy_H 0 h) (PC : pc_ok p) (bc0 : ∀ k, k < 24 → 0 ≤ hy_z h (p + 1) k ∧ hy_z h (p + 1) k ≤ 1000000) (bd : hy_z h p 1 ≤ 1000000) (bn : ∀ m, m < 12 → hy_z h (p + 1) (2 * m) ≤ 0 ∨ hy_z h (p + 1) (2 * m + 1) ≤ 0) : AM ax_ns l (ax_mm 14) 1 ty_R (0) (0) [.ref p] h (pq_14 h p) := by
  refine AM.of (ax_mfacts (by decide +kernel : ax_has 14 = true)).2.2.2.2.2.2 hlst (by rw [hn_14]; exact Nat.le_of_ble_eq_true rfl) ?_
  show AR ax_ns l (ax_mm 14) 1 ty_R _ _ 0 [(0, .ref p)] [] h (0) (0)
  refine AR.s (pc' := 1) (lv' := [(0, .ref p)]) (st' := [.ref p]) (h' := h) _ hn_14 hk_14_0 rfl ?_
  refine AR.gI hk_14_1 (by decide) hH (q := p) (n := 3) (by have := PC.2.1; omega) PC.2.2.1 PC.2.2.2.1 (by decide) PC.2.2.2.2.2.1 (fun x737 dx737 lx737 ux737 => ?_)
  have sx737 := hy_zi dx737
  show AR _ _ _ _ _ _ _ 4 [(0, .ref p)] [.int x737] h _ _
  refine AR.i2lT hk_14_4 (fun z738 ez738 => ?_)
  show AR _ _ _ _ _ _ _ 5 [(0, .ref p)] [.long z738] h _ _
  refine AR.s (pc' := 6) (lv' := [(1, .long z738), (0, .ref p)]) (st' := []) (h' := h) _ hn_14 hk_14_5 rfl ?_
  refine AR.iconstT hk_14_6 (by decide) (fun z739 ez739 => ?_)
  show AR _ _ _ _ _ _ _ 7 [(1, .long z738), (0, .ref p)] [.int z739] h _ _
  refine AR.s (pc' := 8) (lv' := [(3, .int z739), (1, .long z738), (0, .ref p)]) (st' := []) (h' := h) _ hn_14 hk_14_7 rfl ?_
  refine AR.iconstT hk_14_8 (by decide) (fun z740 ez740 => ?_)
  show AR _ _ _ _ _ _ _ 9 [(3, .int z739), (1, .long z738), (0, .ref p)] [.int z740] h _ _
  refine AR.s (pc' := 11) (lv' := [(4, .int z740), (3, .int z739), (1, .long z738), (0, .ref p)]) (st' := []) (h' := h) _ hn_14 hk_14_9 rfl ?_
  refine AR.iconstT hk_14_11 (by decide) (fun z741 ez741 => ?_)
  show AR _ _ _ _ _ _ _ 12 [(4, .int z740), (3, .int z739), (1, .long z738), (0, .ref p)] [.int z741] h _ _
  refine AR.s (pc' := 14) (lv' := [(5, .int z741), (4, .int z740), (3, .int z739), (1, .long z738), (0, .ref p)]) (st' := []) (h' := h) _ hn_14 hk_14_12 rfl ?_
  refine AR.lessL (lv' := [(5, .int z741), (4, .int z740), (3, .int z739), (1, .long z738), (0, .ref p)]) (List.forall_mem_cons.mpr ⟨⟨_, by simp, ax_le_rfl rfl⟩, (List.forall_mem_cons.mpr ⟨⟨_, by simp, ax_le_rfl rfl⟩, (List.forall_mem_cons.mpr ⟨⟨_, by simp, ax_le_rfl rfl⟩, (List.forall_mem_cons.mpr ⟨⟨_, by simp, ax_le_rfl rfl⟩, (List.forall_mem_cons.mpr ⟨⟨_, by simp, ax_le_rfl rfl⟩, (fun _ h => absurd h List.not_mem_nil)⟩)⟩)⟩)⟩)⟩) ?_
  have x0 : z739 = 0 := Int32.toInt_inj.mp (ez739.trans (by decide))
  have sn := su_no (hy_z h (p + 1)) 24
  have nn := cn_no 24
  exact p14_L hlst hH PC bc0 bn 24 z741 z740 z739 z738 (fun _ => false) (by omega) (by omega) (by omega) (fun k hk => by rw [x0]; exact ib_0 k) (gU_no _) (by omega) (by omega) (by omega) (Or.inl (by omega))
def f1s (c : Nat → Int) (k : Nat) : Int := if 0 < c k then 1 else 0
def pq_89 (h : ax_H) (n r p : Nat) : ax_Q := fun res g => ∃ D : Int, 0 ≤ D ∧ D ≤ 25 ∧ pG (hy_z h (p + 1)) (hy_z h p 1) D ∧ pN h n r (f1s (hy_z h (p + 1))) D res g
theorem p_xi : ∀ n, n < 24 → (n ^^^ 1) ^^^ 1 = n ∧ n ^^^ 1 < 24 ∧ n ^^^ 1 ≠ n := by decide +kernel
theorem p89_L (hlst : l.stackTraces = false) {X : ax_PX} {n0 r p a : Nat} (hI : pI h) (hC : pC h) (hn : hy_z h 0 5 = n0) (hn2 : n0 < 60) (hp : r = 27 + 2 * n0) (iq : p = 27 + 2 * a) (ha : x.toInt = a) (lq : a < n0) (bc0 : ∀ k, k < 24 → 0 ≤ hy_z h (p + 1) k ∧ hy_z h (p + 1) k ≤ 400000) (dq : 0 ≤ hy_z h p 1 ∧ hy_z h p 1 ≤ 400000) (bn : ∀ m, m < 12 → hy_z h (p + 1) (2 * m) ≤ 0 ∨ hy_z h (p + 1) (2 * m + 1) ≤ 0) : ∀ (n : Nat) (g : ax_H) (i : Int32), i.toInt + n = 24 → 0 ≤ i.toInt → hy_H 0 g → pf [8, 9] h g → hy_z g 8 1 = 0 → (∀ k, k < 24 → hy_z g 9 k = if (k : Int) < i.toInt then f1s (hy_z h (p + 1)) k else 0) → AR ax_ns l (ax_mm 89) 5 ty_R (ax_ret ax_ns (ax_mm 89) (pq_89 h n0 r p)) X 19 [(2, .int i), (1, .int x), (0, .ref 0)] [] g 0 0 := by
  intro n
  induction n with
  | zero =>
    intro g i hn0 i0 Hg Pg hd hv
    have Fg : ty_F pW g g := ty_F_refl _ _
    have PC : pc_ok p := by rw [iq]; exact pc_all a (by omega)
    have hCg := hC.go Pg (by decide)
    have hIg := hI.go Pg (by decide) (by decide) (by decide)
    have nn : hy_z g 0 5 = n0 := (Pg.z (by decide) 5).trans hn
    have ec : hy_z g (p + 1) = hy_z h (p + 1) := funext fun k => Pg.z (by simp; omega) k
    have ed : hy_z g p 1 = hy_z h p 1 := Pg.z (by simp; omega) 1
    show AR _ _ _ _ _ _ _ 19 [(2, .int i), (1, .int x), (0, .ref 0)] [] g _ _
    refine AR.s (pc' := 20) (lv' := [(2, .int i), (1, .int x), (0, .ref 0)]) (st' := [.int i]) (h' := g) _ hn_89 hk_89_19 rfl ?_
    refine AR.bipushT hk_89_20 (by decide) (fun z742 ez742 => ?_)
    show AR _ _ _ _ _ _ _ 22 [(2, .int i), (1, .int x), (0, .ref 0)] [.int z742, .int i] g _ _
    refine AR.jge hk_89_22 (tgt := 54) (by decide) (fun p1 => ?_) (fun p2 => ?_)
    · refine AR.s (pc' := 55) (lv' := [(2, .int i), (1, .int x), (0, .ref 0)]) (st' := [.ref 0]) (h' := g) _ hn_89 hk_89_54 rfl ?_
      refine AR.gR hk_89_55 (by decide) Hg (q := 0) (n := 18) (by decide) (by decide +kernel) (by decide +kernel) (by decide) hy_t0_6 ?_
      show AR _ _ _ _ _ _ _ 58 [(2, .int i), (1, .int x), (0, .ref 0)] [.ref 8] g _ _
      refine AR.s (pc' := 59) (lv' := [(2, .int i), (1, .int x), (0, .ref 0)]) (st' := [.ref 0, .ref 8]) (h' := g) _ hn_89 hk_89_58 rfl ?_
      refine AR.gR hk_89_59 (by decide) Hg (q := 0) (n := 18) (by decide) (by decide +kernel) (by decide +kernel) (by decide) hy_t0_4 ?_
      show AR _ _ _ _ _ _ _ 62 [(2, .int i), (1, .int x), (0, .ref 0)] [.ref 7, .ref 8] g _ _
      refine AR.s (pc' := 63) (lv' := [(2, .int i), (1, .int x), (0, .ref 0)]) (st' := [.int x, .ref 7, .ref 8]) (h' := g) _ hn_89 hk_89_62 rfl ?_
      have ceg63 : ty_fd g 7 x.toInt.toNat = some (.ref p) := by rw [show x.toInt.toNat = a from by omega, show p = 27 + 2 * a from by omega]; exact hCg a (by omega)
      refine AR.aaX (t := 4) hk_89_63 Hg (by decide) (by decide +kernel) rfl rfl (by omega) ceg63 ?_
      show AR _ _ _ _ _ _ _ 64 [(2, .int i), (1, .int x), (0, .ref 0)] [.ref p, .ref 8] g _ _
      obtain ⟨vp, cp⟩ := p_cp Hg PC
      refine AR.jr (r := p) (as := []) (rest := [.ref 8]) hk_89_64 (by decide) (by decide +kernel) (by have := PC.2.1; omega) cp rfl rfl (Nat.le_of_ble_eq_true rfl) (p_14 hlst Hg PC (fun k hk => by rw [ec]; have := bc0 k hk; omega) (by omega) (fun m hm => by rw [ec]; exact bn m hm)) (by decide) (Nat.zero_le _) (Nat.zero_le _) ?_ (fun E h' q => by obtain ⟨-, _, e, -⟩ := q; cases e)
      rintro w g3 ⟨eg, D, er, D0, D1, pg⟩
      cases er
      obtain rfl := eg.symm
      rw [ec, ed] at pg
      show AR _ _ _ _ _ _ _ 67 [(2, .int i), (1, .int x), (0, .ref 0)] [.int D, .ref 8] g _ _
      refine AR.i2lT hk_89_67 (fun z743 ez743 => ?_)
      show AR _ _ _ _ _ _ _ 68 [(2, .int i), (1, .int x), (0, .ref 0)] [.long z743, .ref 8] g _ _
      have r744a := Int64.le_toInt z743
      have r744b := Int64.toInt_lt z743
      refine AR.pT hk_89_68 (by decide) Hg Fg (q := 8) (by decide) (by decide +kernel) (show ax_cls[2]? = some hy_c2 from rfl) (by decide +kernel) (by decide) rfl (by rw [hy_t8_1]; exact ⟨_, rfl, by omega, by omega, Or.inl rfl⟩) (by decide +kernel) (by decide +kernel) ?_
      rintro g745 ⟨Hg745, Fg745, Gg745, Eg745⟩
      show AR _ _ _ _ _ _ _ 71 [(2, .int i), (1, .int x), (0, .ref 0)] [] g745 _ _
      have pg745 : pf [8, 9] h g745 := pf_st Pg Gg745.1 Eg745 (by simp)
      have u8 : hy_z g745 8 1 = D.toInt := (hy_zl (i := z743) (by rw [Eg745, if_pos ⟨rfl, rfl⟩])).trans (by omega)
      have u9 : ∀ k, k < 24 → hy_z g745 9 k = f1s (hy_z h (p + 1)) k := fun k hk => by
        rw [show hy_z g745 9 k = hy_z g 9 k from hy_ze (by rw [Eg745, if_neg (fun c => absurd c.1 (by decide))]), hv k hk, if_pos (by omega)]
      have hI3 := hI.go pg745 (by decide) (by decide) (by decide)
      have hC3 := hC.go pg745 (by decide)
      have n3 : hy_z g745 0 5 = n0 := (pg745.z (by decide) 5).trans hn
      have fb : ∀ k, 0 ≤ f1s (hy_z h (p + 1)) k ∧ f1s (hy_z h (p + 1)) k ≤ 1 := fun k => by unfold f1s; split <;> omega
      show AR _ _ _ _ _ _ _ 71 [(2, .int i), (1, .int x), (0, .ref 0)] [] g745 _ _
      refine AR.s (pc' := 72) (lv' := [(2, .int i), (1, .int x), (0, .ref 0)]) (st' := [.ref 0]) (h' := g745) _ hn_89 hk_89_71 rfl ?_
      obtain ⟨v746, cv746⟩ := p_cell Hg745 (q := 0) (by decide) (by decide +kernel : (ty_tab 0).1 = 8)
      refine AR.jr (r := 0) (as := []) (rest := []) hk_89_72 (by decide) (by decide +kernel) (by decide) cv746 rfl rfl (Nat.le_of_ble_eq_true rfl) (p_119 hlst Hg745 hI3 hC3 n3 hn2 hp (fun k hk => by rw [u9 k hk]; have := fb k; omega) (by rw [u8]; omega)) (by decide) (Nat.zero_le _) (Nat.zero_le _) ?_ (fun E h' q => by obtain ⟨-, -, -, -, ⟨_, e, -⟩, -⟩ := q; cases e)
      rintro w g9 qq
      obtain ⟨z, er, ez⟩ := qq.2.2.2.2.1
      cases er
      show AR _ _ _ _ _ _ _ 75 [(2, .int i), (1, .int x), (0, .ref 0)] [.int z] g9 _ _
      exact AR.iret hk_89_75 hr_89 ⟨_, D0, D1, pg, pN_of qq pg745 u9 u8⟩
    · exact absurd p2 (by omega)
  | succ n ih =>
    intro g i hn0 i0 Hg Pg hd hv
    have Fg : ty_F pW g g := ty_F_refl _ _
    have PC : pc_ok p := by rw [iq]; exact pc_all a (by omega)
    have hCg := hC.go Pg (by decide)
    have hIg := hI.go Pg (by decide) (by decide) (by decide)
    have nn : hy_z g 0 5 = n0 := (Pg.z (by decide) 5).trans hn
    have ec : hy_z g (p + 1) = hy_z h (p + 1) := funext fun k => Pg.z (by simp; omega) k
    have ed : hy_z g p 1 = hy_z h p 1 := Pg.z (by simp; omega) 1
    show AR _ _ _ _ _ _ _ 19 [(2, .int i), (1, .int x), (0, .ref 0)] [] g _ _
    refine AR.s (pc' := 20) (lv' := [(2, .int i), (1, .int x), (0, .ref 0)]) (st' := [.int i]) (h' := g) _ hn_89 hk_89_19 rfl ?_
    refine AR.bipushT hk_89_20 (by decide) (fun z747 ez747 => ?_)
    show AR _ _ _ _ _ _ _ 22 [(2, .int i), (1, .int x), (0, .ref 0)] [.int z747, .int i] g _ _
    refine AR.jge hk_89_22 (tgt := 54) (by decide) (fun p1 => ?_) (fun p2 => ?_)
    · exact absurd p1 (by omega)
    · have xk : i.toNatClampNeg = i.toInt.toNat := rfl
      show AR _ _ _ _ _ _ _ 25 [(2, .int i), (1, .int x), (0, .ref 0)] [] g _ _
      refine AR.s (pc' := 26) (lv' := [(2, .int i), (1, .int x), (0, .ref 0)]) (st' := [.ref 0]) (h' := g) _ hn_89 hk_89_25 rfl ?_
      refine AR.gR hk_89_26 (by decide) Hg (q := 0) (n := 18) (by decide) (by decide +kernel) (by decide +kernel) (by decide) hy_t0_4 ?_
      show AR _ _ _ _ _ _ _ 29 [(2, .int i), (1, .int x), (0, .ref 0)] [.ref 7] g _ _
      refine AR.s (pc' := 30) (lv' := [(2, .int i), (1, .int x), (0, .ref 0)]) (st' := [.int x, .ref 7]) (h' := g) _ hn_89 hk_89_29 rfl ?_
      have ceg30 : ty_fd g 7 x.toInt.toNat = some (.ref p) := by rw [show x.toInt.toNat = a from by omega, show p = 27 + 2 * a from by omega]; exact hCg a (by omega)
      refine AR.aaX (t := 4) hk_89_30 Hg (by decide) (by decide +kernel) rfl rfl (by omega) ceg30 ?_
      show AR _ _ _ _ _ _ _ 31 [(2, .int i), (1, .int x), (0, .ref 0)] [.ref p] g _ _
      refine AR.gR hk_89_31 (by decide) Hg (q := p) (n := 3) (by have := PC.2.1; omega) PC.2.2.1 PC.2.2.2.1 (by decide) PC.2.2.2.2.1 ?_
      show AR _ _ _ _ _ _ _ 34 [(2, .int i), (1, .int x), (0, .ref 0)] [.ref (p + 1)] g _ _
      refine AR.s (pc' := 35) (lv' := [(2, .int i), (1, .int x), (0, .ref 0)]) (st' := [.int i, .ref (p + 1)]) (h' := g) _ hn_89 hk_89_34 rfl ?_
      refine AR.iaI hk_89_35 Hg (q := p + 1) (n := 24) PC.2.1 PC.2.2.2.2.2.2.2.1 PC.2.2.2.2.2.2.2.2.1 PC.2.2.2.2.2.2.2.2.2.1 PC.2.2.2.2.2.2.2.2.2.2.1 (by omega) (by omega) (fun x748 dx748 lx748 ux748 => ?_)
      show AR _ _ _ _ _ _ _ 36 [(2, .int i), (1, .int x), (0, .ref 0)] [.int x748] g _ _
      rw [xk] at dx748
      have yx748 := hy_zi dx748
      rw [ec] at yx748
      show AR _ _ _ _ _ _ _ 36 [(2, .int i), (1, .int x), (0, .ref 0)] [.int x748] g _ _
      refine AR.zle hk_89_36 (tgt := 48) (by decide) (fun q1 => ?_) (fun q2 => ?_)
      · refine AR.iincT hk_89_48 (x := i) rfl (by rw [hn_89]; decide) (by decide) (by omega) (by omega) (fun z749 ez749 => ?_)
        show AR _ _ _ _ _ _ _ 51 [(2, .int z749), (1, .int x), (0, .ref 0)] [] g _ _
        refine AR.gotoT hk_89_51 (tgt := 19) (by decide) ?_
        refine AR.lessL (lv' := [(2, .int z749), (1, .int x), (0, .ref 0)]) (List.forall_mem_cons.mpr ⟨⟨_, by simp, ax_le_rfl rfl⟩, (List.forall_mem_cons.mpr ⟨⟨_, by simp, ax_le_rfl rfl⟩, (List.forall_mem_cons.mpr ⟨⟨_, by simp, ax_le_rfl rfl⟩, (fun _ h => absurd h List.not_mem_nil)⟩)⟩)⟩) ?_
        refine ih g z749 (by omega) (by omega) Hg Pg hd (fun k hk => ?_)
        rw [hv k hk]
        by_cases ew : (k : Int) = i.toInt
        · have ek : k = i.toInt.toNat := by omega
          rw [if_neg (by omega), if_pos (by omega), ek]
          unfold f1s
          rw [if_neg (by omega)]
        · by_cases e2 : (k : Int) < i.toInt
          · rw [if_pos e2, if_pos (by omega)]
          · rw [if_neg e2, if_neg (by omega)]
      · refine AR.s (pc' := 40) (lv' := [(2, .int i), (1, .int x), (0, .ref 0)]) (st' := [.ref 0]) (h' := g) _ hn_89 hk_89_39 rfl ?_
        refine AR.gR hk_89_40 (by decide) Hg (q := 0) (n := 18) (by decide) (by decide +kernel) (by decide +kernel) (by decide) hy_t0_6 ?_
        show AR _ _ _ _ _ _ _ 43 [(2, .int i), (1, .int x), (0, .ref 0)] [.ref 8] g _ _
        refine AR.s (pc' := 44) (lv' := [(2, .int i), (1, .int x), (0, .ref 0)]) (st' := [.int i, .ref 8]) (h' := g) _ hn_89 hk_89_43 rfl ?_
        refine AR.lconstT hk_89_44 (fun z750 ez750 => ?_)
        have kz750 : z750 = 1 := Int64.toInt_inj.mp (ez750.trans rfl)
        show AR _ _ _ _ _ _ _ 45 [(2, .int i), (1, .int x), (0, .ref 0)] [.long z750, .int i, .ref 8] g _ _
        obtain ⟨v751, cv751⟩ := p_cell Hg (q := 8) (by decide) (by decide +kernel : (ty_tab 8).1 = 2)
        refine AR.jr (r := 8) (as := [.int i, .long z750]) (rest := []) hk_89_45 (by decide) (by decide +kernel) (by decide) cv751 rfl rfl (Nat.le_of_ble_eq_true rfl) (p_21 hlst (n := i.toInt.toNat) (m := z750) Hg (by omega) (by omega) (by omega) (fun k hk => by rw [hv k hk]; unfold f1s; split <;> (try split) <;> omega) (by omega)) (by decide) (Nat.zero_le _) (Nat.zero_le _) ?_ (fun E h' q => by cases q.1)
        rintro w g1 ⟨e1, H1, P1, d1, v1⟩
        cases e1
        have Hg1 := H1
        show AR _ _ _ _ _ _ _ 48 [(2, .int i), (1, .int x), (0, .ref 0)] [] g1 _ _
        have Q1 : pf [8, 9] h g1 := pf.tr Pg P1 (fun _ q => q)
        have o1 : z750.toInt = 1 := by rw [kz750]; rfl
        show AR _ _ _ _ _ _ _ 48 [(2, .int i), (1, .int x), (0, .ref 0)] [] g1 _ _
        refine AR.iincT hk_89_48 (x := i) rfl (by rw [hn_89]; decide) (by decide) (by omega) (by omega) (fun z752 ez752 => ?_)
        show AR _ _ _ _ _ _ _ 51 [(2, .int z752), (1, .int x), (0, .ref 0)] [] g1 _ _
        refine AR.gotoT hk_89_51 (tgt := 19) (by decide) ?_
        refine AR.lessL (lv' := [(2, .int z752), (1, .int x), (0, .ref 0)]) (List.forall_mem_cons.mpr ⟨⟨_, by simp, ax_le_rfl rfl⟩, (List.forall_mem_cons.mpr ⟨⟨_, by simp, ax_le_rfl rfl⟩, (List.forall_mem_cons.mpr ⟨⟨_, by simp, ax_le_rfl rfl⟩, (fun _ h => absurd h List.not_mem_nil)⟩)⟩)⟩) ?_
        refine ih g1 z752 (by omega) (by omega) H1 Q1 (by omega) (fun k hk => ?_)
        rw [v1 k]
        by_cases ew : (k : Int) = i.toInt
        · have ek : k = i.toInt.toNat := by omega
          rw [if_pos ek, hv k hk, if_neg (by omega), if_pos (by omega), ek]
          unfold f1s
          rw [if_pos (by omega)]
          omega
        · rw [if_neg (by omega), hv k hk]
          have e3 : (if k = i.toInt.toNat ^^^ 1 then (if (k : Int) < i.toInt then f1s (hy_z h (p + 1)) k else 0) + max 0 (-z750.toInt) else (if (k : Int) < i.toInt then f1s (hy_z h (p + 1)) k else 0)) = if (k : Int) < i.toInt then f1s (hy_z h (p + 1)) k else 0 := by split <;> omega
          rw [e3]
          by_cases e2 : (k : Int) < i.toInt
          · rw [if_pos e2, if_pos (by omega)]
          · rw [if_neg e2, if_neg (by omega)]
theorem p_89 (hlst : l.stackTraces = false) {n r p a : Nat} (hH : hy_H 0 h) (hI : pI h) (hC : pC h) (hn : hy_z h 0 5 = n) (hn2 : n < 60) (hp : r = 27 + 2 * n) (iq : p = 27 + 2 * a) (ha : x.toInt = a) (lq : a < n) (bc0 : ∀ k, k < 24 → 0 ≤ hy_z h (p + 1) k ∧ hy_z h (p + 1) k ≤ 400000) (dq : 0 ≤ hy_z h p 1 ∧ hy_z h p 1 ≤ 400000) (bn : ∀ m, m < 12 → hy_z h (p + 1) (2 * m) ≤ 0 ∨ hy_z h (p + 1) (2 * m + 1) ≤ 0) : AM ax_ns l (ax_mm 89) 5 ty_R (0) (0) [.ref 0, .int x] h (pq_89 h n r p) := by
  refine AM.of (ax_mfacts (by decide +kernel : ax_has 89 = true)).2.2.2.2.2.2 hlst (by rw [hn_89]; exact Nat.le_of_ble_eq_true rfl) ?_
  show AR ax_ns l (ax_mm 89) 5 ty_R _ _ 0 [(0, .ref 0), (1, .int x)] [] h (0) (0)
  refine AR.s (pc' := 1) (lv' := [(0, .ref 0), (1, .int x)]) (st' := [.ref 0]) (h' := h) _ hn_89 hk_89_0 rfl ?_
  refine AR.s (pc' := 2) (lv' := [(0, .ref 0), (1, .int x)]) (st' := [.int x, .ref 0]) (h' := h) _ hn_89 hk_89_1 rfl ?_
  obtain ⟨v753, cv753⟩ := p_cell hH (q := 0) (by decide) (by decide +kernel : (ty_tab 0).1 = 8)
  refine AR.jr (r := 0) (as := [.int x]) (rest := []) hk_89_2 (by decide) (by decide +kernel) (by decide) cv753 rfl rfl (Nat.le_of_ble_eq_true rfl) (p_111 hlst hH (by omega) (by omega)) (by decide) (Nat.zero_le _) (Nat.zero_le _) ?_ (fun E h' q => by cases q.1)
  rintro w g3 ⟨er, eg⟩
  cases er
  obtain rfl := eg.symm
  show AR _ _ _ _ _ _ _ 5 [(0, .ref 0), (1, .int x)] [] h _ _
  refine AR.s (pc' := 6) (lv' := [(0, .ref 0), (1, .int x)]) (st' := [.ref 0]) (h' := h) _ hn_89 hk_89_5 rfl ?_
  refine AR.iconstT hk_89_6 (by decide) (fun z754 ez754 => ?_)
  show AR _ _ _ _ _ _ _ 7 [(0, .ref 0), (1, .int x)] [.int z754, .ref 0] h _ _
  obtain ⟨v755, cv755⟩ := p_cell hH (q := 0) (by decide) (by decide +kernel : (ty_tab 0).1 = 8)
  refine AR.jr (r := 0) (as := [.int z754]) (rest := []) hk_89_7 (by decide) (by decide +kernel) (by decide) cv755 rfl rfl (Nat.le_of_ble_eq_true rfl) (p_115 hlst hH (by omega) (by omega)) (by decide) (Nat.zero_le _) (Nat.zero_le _) ?_ (fun E h' q => by cases q.1)
  rintro w g3 ⟨er, eg⟩
  cases er
  obtain rfl := eg.symm
  show AR _ _ _ _ _ _ _ 10 [(0, .ref 0), (1, .int x)] [] h _ _
  refine AR.s (pc' := 11) (lv' := [(0, .ref 0), (1, .int x)]) (st' := [.ref 0]) (h' := h) _ hn_89 hk_89_10 rfl ?_
  refine AR.gR hk_89_11 (by decide) hH (q := 0) (n := 18) (by decide) (by decide +kernel) (by decide +kernel) (by decide) hy_t0_6 ?_
  show AR _ _ _ _ _ _ _ 14 [(0, .ref 0), (1, .int x)] [.ref 8] h _ _
  obtain ⟨v756, cv756⟩ := p_cell hH (q := 8) (by decide) (by decide +kernel : (ty_tab 8).1 = 2)
  refine AR.jr (r := 8) (as := []) (rest := []) hk_89_14 (by decide) (by decide +kernel) (by decide) cv756 rfl rfl (Nat.le_of_ble_eq_true rfl) (p_20 hlst hH) (by decide) (Nat.zero_le _) (Nat.zero_le _) ?_ (fun E h' q => by cases q.1)
  rintro w g1 ⟨e1, H1, P1, d1, v1⟩
  cases e1
  have Hg1 := H1
  show AR _ _ _ _ _ _ _ 17 [(0, .ref 0), (1, .int x)] [] g1 _ _
  have hC1 := hC.go P1 (by decide)
  show AR _ _ _ _ _ _ _ 17 [(0, .ref 0), (1, .int x)] [] g1 _ _
  refine AR.iconstT hk_89_17 (by decide) (fun z757 ez757 => ?_)
  show AR _ _ _ _ _ _ _ 18 [(0, .ref 0), (1, .int x)] [.int z757] g1 _ _
  refine AR.s (pc' := 19) (lv' := [(2, .int z757), (0, .ref 0), (1, .int x)]) (st' := []) (h' := g1) _ hn_89 hk_89_18 rfl ?_
  refine AR.lessL (lv' := [(2, .int z757), (1, .int x), (0, .ref 0)]) (List.forall_mem_cons.mpr ⟨⟨_, by simp, ax_le_rfl rfl⟩, (List.forall_mem_cons.mpr ⟨⟨_, by simp, ax_le_rfl rfl⟩, (List.forall_mem_cons.mpr ⟨⟨_, by simp, ax_le_rfl rfl⟩, (fun _ h => absurd h List.not_mem_nil)⟩)⟩)⟩) ?_
  exact p89_L hlst hI hC hn hn2 hp iq ha lq bc0 dq bn 24 g1 z757 (by omega) (by omega) H1 P1 d1 (fun k hk => by rw [v1 k hk, if_neg (by omega)])
def sd (e : Nat → Int) (b : Int) : Nat → Int
  | 0 => b
  | n + 1 => sd e b n + max 0 (-(e n))
def ft (e : Nat → Int) (v k : Nat) : Int := (if k < v then max 0 (e k) else 0) + if k ^^^ 1 < v then max 0 (-(e (k ^^^ 1))) else 0
theorem sd_bd {e : Nat → Int} {b : Int} (he : ∀ k, k < 24 → -1000 ≤ e k ∧ e k ≤ 1000) : ∀ n, n ≤ 24 → b ≤ sd e b n ∧ sd e b n ≤ b + 1000 * n
  | 0, _ => ⟨Int.le_refl _, by show b ≤ _; omega⟩
  | n + 1, h => by
    have a := sd_bd (b := b) he n (by omega)
    have c := he n (by omega)
    show b ≤ sd e b n + max 0 (-(e n)) ∧ sd e b n + max 0 (-(e n)) ≤ _
    omega
theorem ft_bd {e : Nat → Int} (he : ∀ k, k < 24 → -1000 ≤ e k ∧ e k ≤ 1000) (v : Nat) {k : Nat} (hk : k < 24) : 0 ≤ ft e v k ∧ ft e v k ≤ 2000 := by
  have a := he k hk
  have b := he (k ^^^ 1) (p_xi k hk).2.1
  unfold ft
  split <;> split <;> omega
theorem ft_0 (e : Nat → Int) (k : Nat) : ft e 0 k = 0 := by
  unfold ft
  rw [if_neg (by omega), if_neg (by omega)]
  rfl
theorem ft_s {e : Nat → Int} {v k : Nat} (hv : v < 24) (hk : k < 24) : ft e (v + 1) k = if k = v then ft e v k + max 0 (e v) else if k = v ^^^ 1 then ft e v k + max 0 (-(e v)) else ft e v k := by
  have a := p_xi v hv
  have b := p_xi k hk
  unfold ft
  by_cases e1 : k = v
  · subst e1
    rw [if_pos rfl, if_pos (by omega), if_neg (by omega : ¬ k < k)]
    by_cases e2 : k ^^^ 1 < k
    · rw [if_pos e2, if_pos (by omega)]; omega
    · rw [if_neg e2, if_neg (by omega)]; omega
  · rw [if_neg e1]
    by_cases e3 : k = v ^^^ 1
    · have e4 : k ^^^ 1 = v := by rw [e3]; exact a.1
      rw [if_pos e3, e4, if_pos (by omega : v < v + 1), if_neg (by omega : ¬ v < v)]
      by_cases e2 : k < v
      · rw [if_pos e2, if_pos (by omega)]; omega
      · rw [if_neg e2, if_neg (by omega)]; omega
    · have e4 : k ^^^ 1 ≠ v := fun c => e3 (by rw [← c]; exact b.1.symm)
      rw [if_neg e3]
      have q1 : (k < v + 1) ↔ k < v := by omega
      have q2 : (k ^^^ 1 < v + 1) ↔ k ^^^ 1 < v := by omega
      simp only [q1, q2]
def pq_54 (h : ax_H) (s : Int) : ax_Q := fun res g => res = .inl none ∧ hy_H 0 g ∧ pf [8, 9] h g ∧ hy_z g 8 1 = sd (fun k => s * hy_z h 4 k) (s * hy_z h 3 8) 24 ∧ ∀ k, k < 24 → hy_z g 9 k = ft (fun k => s * hy_z h 4 k) 24 k
theorem p54_L (hlst : l.stackTraces = false) {X : ax_PX} {s : Int32} (hs : s.toInt = 1 ∨ s.toInt = -1) (c4 : ∀ k, k < 24 → -1000 ≤ hy_z h 4 k ∧ hy_z h 4 k ≤ 1000) (c3 : -1000000 ≤ hy_z h 3 8 ∧ hy_z h 3 8 ≤ 1000000) : ∀ (n v : Nat) (g : ax_H) (i : Int32), v + n = 24 → i.toInt = v → hy_H 0 g → pf [8, 9] h g → hy_z g 8 1 = sd (fun k => s.toInt * hy_z h 4 k) (s.toInt * hy_z h 3 8) v → (∀ k, k < 24 → hy_z g 9 k = ft (fun k => s.toInt * hy_z h 4 k) v k) → AR ax_ns l (ax_mm 54) 2 ty_R (ax_ret ax_ns (ax_mm 54) (pq_54 h s.toInt)) X 17 [(3, .int i), (2, .int s), (1, .ref 8), (0, .ref 3)] [] g 0 0 := by
  have se : ∀ z b : Int, -b ≤ z → z ≤ b → -b ≤ s.toInt * z ∧ s.toInt * z ≤ b := fun z b a1 a2 => by rcases hs with e | e <;> rw [e] <;> omega
  have he : ∀ k, k < 24 → -1000 ≤ s.toInt * hy_z h 4 k ∧ s.toInt * hy_z h 4 k ≤ 1000 := fun k hk => se _ 1000 (c4 k hk).1 (c4 k hk).2
  have hb := se _ 1000000 c3.1 c3.2
  intro n
  induction n with
  | zero =>
    intro v g i hn hi Hg Pg hd hv
    have Fg : ty_F pW g g := ty_F_refl _ _
    show AR _ _ _ _ _ _ _ 17 [(3, .int i), (2, .int s), (1, .ref 8), (0, .ref 3)] [] g _ _
    refine AR.s (pc' := 18) (lv' := [(3, .int i), (2, .int s), (1, .ref 8), (0, .ref 3)]) (st' := [.int i]) (h' := g) _ hn_54 hk_54_17 rfl ?_
    refine AR.bipushT hk_54_18 (by decide) (fun z758 ez758 => ?_)
    show AR _ _ _ _ _ _ _ 20 [(3, .int i), (2, .int s), (1, .ref 8), (0, .ref 3)] [.int z758, .int i] g _ _
    refine AR.jge hk_54_20 (tgt := 43) (by decide) (fun p1 => ?_) (fun p2 => ?_)
    · have v24 : v = 24 := by omega
      subst v24
      exact AR.vret hk_54_43 hr_54 ⟨rfl, Hg, Pg, hd, hv⟩
    · exact absurd p2 (by omega)
  | succ n ih =>
    intro v g i hn hi Hg Pg hd hv
    have Fg : ty_F pW g g := ty_F_refl _ _
    show AR _ _ _ _ _ _ _ 17 [(3, .int i), (2, .int s), (1, .ref 8), (0, .ref 3)] [] g _ _
    refine AR.s (pc' := 18) (lv' := [(3, .int i), (2, .int s), (1, .ref 8), (0, .ref 3)]) (st' := [.int i]) (h' := g) _ hn_54 hk_54_17 rfl ?_
    refine AR.bipushT hk_54_18 (by decide) (fun z759 ez759 => ?_)
    show AR _ _ _ _ _ _ _ 20 [(3, .int i), (2, .int s), (1, .ref 8), (0, .ref 3)] [.int z759, .int i] g _ _
    refine AR.jge hk_54_20 (tgt := 43) (by decide) (fun p1 => ?_) (fun p2 => ?_)
    · exact absurd p1 (by omega)
    · have xk : i.toNatClampNeg = v := by show i.toInt.toNat = v; omega
      show AR _ _ _ _ _ _ _ 23 [(3, .int i), (2, .int s), (1, .ref 8), (0, .ref 3)] [] g _ _
      refine AR.s (pc' := 24) (lv' := [(3, .int i), (2, .int s), (1, .ref 8), (0, .ref 3)]) (st' := [.ref 8]) (h' := g) _ hn_54 hk_54_23 rfl ?_
      refine AR.s (pc' := 25) (lv' := [(3, .int i), (2, .int s), (1, .ref 8), (0, .ref 3)]) (st' := [.int i, .ref 8]) (h' := g) _ hn_54 hk_54_24 rfl ?_
      refine AR.s (pc' := 26) (lv' := [(3, .int i), (2, .int s), (1, .ref 8), (0, .ref 3)]) (st' := [.int s, .int i, .ref 8]) (h' := g) _ hn_54 hk_54_25 rfl ?_
      refine AR.s (pc' := 27) (lv' := [(3, .int i), (2, .int s), (1, .ref 8), (0, .ref 3)]) (st' := [.ref 3, .int s, .int i, .ref 8]) (h' := g) _ hn_54 hk_54_26 rfl ?_
      refine AR.gR hk_54_27 (by decide) Hg (q := 3) (n := 9) (by decide) (by decide +kernel) (by decide +kernel) (by decide) hy_t3_6 ?_
      show AR _ _ _ _ _ _ _ 30 [(3, .int i), (2, .int s), (1, .ref 8), (0, .ref 3)] [.ref 4, .int s, .int i, .ref 8] g _ _
      refine AR.s (pc' := 31) (lv' := [(3, .int i), (2, .int s), (1, .ref 8), (0, .ref 3)]) (st' := [.int i, .ref 4, .int s, .int i, .ref 8]) (h' := g) _ hn_54 hk_54_30 rfl ?_
      refine AR.iaI hk_54_31 Hg (q := 4) (n := 24) (by decide) (by decide +kernel) (by decide +kernel) (by decide +kernel) hy_t4_0 (by omega) (by omega) (fun x760 dx760 lx760 ux760 => ?_)
      show AR _ _ _ _ _ _ _ 32 [(3, .int i), (2, .int s), (1, .ref 8), (0, .ref 3)] [.int x760, .int s, .int i, .ref 8] g _ _
      rw [xk] at dx760
      have yx760 := hy_zi dx760
      rw [Pg.z (by decide)] at yx760
      have ev := he v (by omega)
      refine AR.mulA hk_54_32 (fun z hz => ?_)
      rw [← yx760] at hz
      have ez := hz (by omega) (by omega)
      show AR _ _ _ _ _ _ _ 33 [(3, .int i), (2, .int s), (1, .ref 8), (0, .ref 3)] [.int z, .int i, .ref 8] g _ _
      refine AR.i2lT hk_54_33 (fun z761 ez761 => ?_)
      show AR _ _ _ _ _ _ _ 34 [(3, .int i), (2, .int s), (1, .ref 8), (0, .ref 3)] [.long z761, .int i, .ref 8] g _ _
      have em : z761.toInt = s.toInt * hy_z h 4 v := by omega
      have sb := sd_bd (b := s.toInt * hy_z h 3 8) he v (by omega)
      obtain ⟨v762, cv762⟩ := p_cell Hg (q := 8) (by decide) (by decide +kernel : (ty_tab 8).1 = 2)
      refine AR.jr (r := 8) (as := [.int i, .long z761]) (rest := []) hk_54_34 (by decide) (by decide +kernel) (by decide) cv762 rfl rfl (Nat.le_of_ble_eq_true rfl) (p_21 hlst (n := v) (m := z761) Hg (by omega) (by omega) (by omega) (fun k hk => by rw [hv k hk]; have := ft_bd he v hk; omega) (by omega)) (by decide) (Nat.zero_le _) (Nat.zero_le _) ?_ (fun E h' q => by cases q.1)
      rintro w g1 ⟨e1, H1, P1, d1, v1⟩
      cases e1
      have Hg1 := H1
      show AR _ _ _ _ _ _ _ 37 [(3, .int i), (2, .int s), (1, .ref 8), (0, .ref 3)] [] g1 _ _
      refine AR.iincT hk_54_37 (x := i) rfl (by rw [hn_54]; decide) (by decide) (by omega) (by omega) (fun z763 ez763 => ?_)
      show AR _ _ _ _ _ _ _ 40 [(3, .int z763), (2, .int s), (1, .ref 8), (0, .ref 3)] [] g1 _ _
      refine AR.gotoT hk_54_40 (tgt := 17) (by decide) ?_
      refine AR.lessL (lv' := [(3, .int z763), (2, .int s), (1, .ref 8), (0, .ref 3)]) (List.forall_mem_cons.mpr ⟨⟨_, by simp, ax_le_rfl rfl⟩, (List.forall_mem_cons.mpr ⟨⟨_, by simp, ax_le_rfl rfl⟩, (List.forall_mem_cons.mpr ⟨⟨_, by simp, ax_le_rfl rfl⟩, (List.forall_mem_cons.mpr ⟨⟨_, by simp, ax_le_rfl rfl⟩, (fun _ h => absurd h List.not_mem_nil)⟩)⟩)⟩)⟩) ?_
      refine ih (v + 1) g1 z763 (by omega) (by omega) H1 (pf.tr Pg P1 (fun _ q => q)) ?_ (fun k hk => ?_)
      · rw [d1, hd, em]; rfl
      · rw [v1 k, hv k hk, em, ft_s (by omega) hk]
theorem p_54 (hlst : l.stackTraces = false) {s : Int32} (hH : hy_H 0 h) (hs : s.toInt = 1 ∨ s.toInt = -1) (c4 : ∀ k, k < 24 → -1000 ≤ hy_z h 4 k ∧ hy_z h 4 k ≤ 1000) (c3 : -1000000 ≤ hy_z h 3 8 ∧ hy_z h 3 8 ≤ 1000000) : AM ax_ns l (ax_mm 54) 2 ty_R (0) (0) [.ref 3, .ref 8, .int s] h (pq_54 h s.toInt) := by
  refine AM.of (ax_mfacts (by decide +kernel : ax_has 54 = true)).2.2.2.2.2.2 hlst (by rw [hn_54]; exact Nat.le_of_ble_eq_true rfl) ?_
  show AR ax_ns l (ax_mm 54) 2 ty_R _ _ 0 [(0, .ref 3), (1, .ref 8), (2, .int s)] [] h (0) (0)
  have hb : -1000000 ≤ s.toInt * hy_z h 3 8 ∧ s.toInt * hy_z h 3 8 ≤ 1000000 := by rcases hs with e | e <;> rw [e] <;> omega
  show AR _ _ _ _ _ _ _ 0 [(0, .ref 3), (1, .ref 8), (2, .int s)] [] h _ _
  refine AR.s (pc' := 1) (lv' := [(0, .ref 3), (1, .ref 8), (2, .int s)]) (st' := [.ref 8]) (h' := h) _ hn_54 hk_54_0 rfl ?_
  obtain ⟨v764, cv764⟩ := p_cell hH (q := 8) (by decide) (by decide +kernel : (ty_tab 8).1 = 2)
  refine AR.jr (r := 8) (as := []) (rest := []) hk_54_1 (by decide) (by decide +kernel) (by decide) cv764 rfl rfl (Nat.le_of_ble_eq_true rfl) (p_20 hlst hH) (by decide) (Nat.zero_le _) (Nat.zero_le _) ?_ (fun E h' q => by cases q.1)
  rintro w g1 ⟨e1, H1, P1, d1, v1⟩
  cases e1
  have Hg1 := H1
  have Fg1 : ty_F pW g1 g1 := ty_F_refl _ _
  show AR _ _ _ _ _ _ _ 4 [(0, .ref 3), (1, .ref 8), (2, .int s)] [] g1 _ _
  refine AR.s (pc' := 5) (lv' := [(0, .ref 3), (1, .ref 8), (2, .int s)]) (st' := [.ref 8]) (h' := g1) _ hn_54 hk_54_4 rfl ?_
  refine AR.s (pc' := 6) (lv' := [(0, .ref 3), (1, .ref 8), (2, .int s)]) (st' := [.int s, .ref 8]) (h' := g1) _ hn_54 hk_54_5 rfl ?_
  refine AR.s (pc' := 7) (lv' := [(0, .ref 3), (1, .ref 8), (2, .int s)]) (st' := [.ref 3, .int s, .ref 8]) (h' := g1) _ hn_54 hk_54_6 rfl ?_
  refine AR.gI hk_54_7 (by decide) Hg1 (q := 3) (n := 9) (by decide) (by decide +kernel) (by decide +kernel) (by decide) hy_t3_8 (fun x765 dx765 lx765 ux765 => ?_)
  show AR _ _ _ _ _ _ _ 10 [(0, .ref 3), (1, .ref 8), (2, .int s)] [.int x765, .int s, .ref 8] g1 _ _
  have sx765 := hy_zi dx765
  rw [P1.z (by decide)] at sx765
  refine AR.mulA hk_54_10 (fun z hz => ?_)
  rw [← sx765] at hz
  have ez := hz (by omega) (by omega)
  show AR _ _ _ _ _ _ _ 11 [(0, .ref 3), (1, .ref 8), (2, .int s)] [.int z, .ref 8] g1 _ _
  refine AR.i2lT hk_54_11 (fun z766 ez766 => ?_)
  show AR _ _ _ _ _ _ _ 12 [(0, .ref 3), (1, .ref 8), (2, .int s)] [.long z766, .ref 8] g1 _ _
  have r767a := Int64.le_toInt z766
  have r767b := Int64.toInt_lt z766
  refine AR.pT hk_54_12 (by decide) Hg1 Fg1 (q := 8) (by decide) (by decide +kernel) (show ax_cls[2]? = some hy_c2 from rfl) (by decide +kernel) (by decide) rfl (by rw [hy_t8_1]; exact ⟨_, rfl, by omega, by omega, Or.inl rfl⟩) (by decide +kernel) (by decide +kernel) ?_
  rintro g768 ⟨Hg768, Fg768, Gg768, Eg768⟩
  show AR _ _ _ _ _ _ _ 15 [(0, .ref 3), (1, .ref 8), (2, .int s)] [] g768 _ _
  have pg768 : pf [8, 9] h g768 := pf_st P1 Gg768.1 Eg768 (by simp)
  have u8 : hy_z g768 8 1 = s.toInt * hy_z h 3 8 := (hy_zl (i := z766) (by rw [Eg768, if_pos ⟨rfl, rfl⟩])).trans (by omega)
  have u9 : ∀ k, k < 24 → hy_z g768 9 k = 0 := fun k hk => (hy_ze (by rw [Eg768, if_neg (fun c => absurd c.1 (by decide))])).trans (v1 k hk)
  refine AR.iconstT hk_54_15 (by decide) (fun z769 ez769 => ?_)
  show AR _ _ _ _ _ _ _ 16 [(0, .ref 3), (1, .ref 8), (2, .int s)] [.int z769] g768 _ _
  refine AR.s (pc' := 17) (lv' := [(3, .int z769), (0, .ref 3), (1, .ref 8), (2, .int s)]) (st' := []) (h' := g768) _ hn_54 hk_54_16 rfl ?_
  refine AR.lessL (lv' := [(3, .int z769), (2, .int s), (1, .ref 8), (0, .ref 3)]) (List.forall_mem_cons.mpr ⟨⟨_, by simp, ax_le_rfl rfl⟩, (List.forall_mem_cons.mpr ⟨⟨_, by simp, ax_le_rfl rfl⟩, (List.forall_mem_cons.mpr ⟨⟨_, by simp, ax_le_rfl rfl⟩, (List.forall_mem_cons.mpr ⟨⟨_, by simp, ax_le_rfl rfl⟩, (fun _ h => absurd h List.not_mem_nil)⟩)⟩)⟩)⟩) ?_
  exact p54_L hlst hs c4 c3 24 0 g768 z769 (by omega) (by omega) Hg768 pg768 u8 (fun k hk => by rw [u9 k hk, ft_0])
theorem p_37x (hlst : l.stackTraces = false) (hH : hy_H 0 h) : AM ax_ns l (ax_mm 37) 1 ty_R (0) (0) [.ref 12, .ref 10] h (pq_37 h 10) := p_37 hlst hH (by unfold pc_ok; decide +kernel) (Or.inr rfl)
def pq_120 (h : ax_H) : ax_Q := fun res g => hy_H 0 g ∧ pf [8, 9, 10, 11, 13, 14] h g ∧ ∃ z : Int32, res = .inl (some (.int z)) ∧ ∃ c : Nat → Int, (∀ k, k < 24 → c k = nf (hy_z h 9) k) ∧ ((z.toInt = 1 ∧ ∀ w, w < 64 → ∀ k, k < 64 → pb (hw h 148 w) k = true → nd (hy_z h 9) (hy_z h 8 1) 12 ≤ sm c w k) ∨ (z.toInt = 0 ∧ ∃ w k, w < 64 ∧ k < 64 ∧ pb (hw h 148 w) k = true ∧ ¬ nd (hy_z h 9) (hy_z h 8 1) 12 ≤ sm c w k))
theorem pc_10 : pc_ok 10 := by unfold pc_ok; decide +kernel
theorem p_120 (hlst : l.stackTraces = false) (hH : hy_H 0 h) (hI : pI h) (hC : pC h) (f9 : ∀ k, k < 24 → 0 ≤ hy_z h 9 k ∧ hy_z h 9 k ≤ 1000000) (f8 : -1000000 ≤ hy_z h 8 1 ∧ hy_z h 8 1 ≤ 1000000) : AM ax_ns l (ax_mm 120) 2 ty_R (0) (0) [.ref 0] h (pq_120 h) := by
  refine AM.of (ax_mfacts (by decide +kernel : ax_has 120 = true)).2.2.2.2.2.2 hlst (by rw [hn_120]; exact Nat.le_of_ble_eq_true rfl) ?_
  show AR ax_ns l (ax_mm 120) 2 ty_R _ _ 0 [(0, .ref 0)] [] h (0) (0)
  have nb : ∀ k, k < 24 → 0 ≤ nf (hy_z h 9) k ∧ nf (hy_z h 9) k ≤ 1000000 := fun k hk => by
    have a := f9 k hk
    have b := f9 (2 * (k / 2)) (by omega)
    have c := f9 (2 * (k / 2) + 1) (by omega)
    unfold nf
    rcases (by omega : k = 2 * (k / 2) ∨ k = 2 * (k / 2) + 1) with e | e
    · rw [← e] at b c ⊢; omega
    · rw [← e] at c ⊢; omega
  have db : -1000000 ≤ nd (hy_z h 9) (hy_z h 8 1) 12 ∧ nd (hy_z h 9) (hy_z h 8 1) 12 ≤ 1000000 := nd_b6 f9 f8 12 (by decide)
  refine AR.s (pc' := 1) (lv' := [(0, .ref 0)]) (st' := [.ref 0]) (h' := h) _ hn_120 hk_120_0 rfl ?_
  refine AR.gR hk_120_1 (by decide) hH (q := 0) (n := 18) (by decide) (by decide +kernel) (by decide +kernel) (by decide) hy_t0_6 ?_
  show AR _ _ _ _ _ _ _ 4 [(0, .ref 0)] [.ref 8] h _ _
  obtain ⟨v770, cv770⟩ := p_cell hH (q := 8) (by decide) (by decide +kernel : (ty_tab 8).1 = 2)
  refine AR.jr (r := 8) (as := []) (rest := []) hk_120_4 (by decide) (by decide +kernel) (by decide) cv770 rfl rfl (Nat.le_of_ble_eq_true rfl) (p_26 hlst hH (fun k hk => by have := f9 k hk; omega) (by omega)) (by decide) (Nat.zero_le _) (Nat.zero_le _) ?_ (fun E h' q => by cases q.1)
  rintro w g1 ⟨e1, H1, P1, d1, v1⟩
  cases e1
  have Hg1 := H1
  show AR _ _ _ _ _ _ _ 7 [(0, .ref 0)] [] g1 _ _
  show AR _ _ _ _ _ _ _ 7 [(0, .ref 0)] [] g1 _ _
  refine AR.s (pc' := 8) (lv' := [(0, .ref 0)]) (st' := [.ref 0]) (h' := g1) _ hn_120 hk_120_7 rfl ?_
  refine AR.gR hk_120_8 (by decide) Hg1 (q := 0) (n := 18) (by decide) (by decide +kernel) (by decide +kernel) (by decide) hy_t0_7 ?_
  show AR _ _ _ _ _ _ _ 11 [(0, .ref 0)] [.ref 10] g1 _ _
  refine AR.s (pc' := 12) (lv' := [(0, .ref 0)]) (st' := [.ref 0, .ref 10]) (h' := g1) _ hn_120 hk_120_11 rfl ?_
  refine AR.gR hk_120_12 (by decide) Hg1 (q := 0) (n := 18) (by decide) (by decide +kernel) (by decide +kernel) (by decide) hy_t0_6 ?_
  show AR _ _ _ _ _ _ _ 15 [(0, .ref 0)] [.ref 8, .ref 10] g1 _ _
  obtain ⟨vp, cp⟩ := p_cp H1 pc_10
  refine AR.jr (r := 10) (as := [.ref 8]) (rest := []) hk_120_15 (by decide) (by decide +kernel) (by decide) cp rfl rfl (Nat.le_of_ble_eq_true rfl) (p_7 hlst (p := 10) H1 pc_10 (fun k hk => by rw [v1 k hk]; have := nb k hk; omega) (by rw [d1]; omega)) (by decide) (Nat.zero_le _) (Nat.zero_le _) ?_ (fun E h' q => by cases q.1)
  rintro w g2 ⟨e2, H2, P2, d2, v2⟩
  cases e2
  have Hg2 := H2
  show AR _ _ _ _ _ _ _ 18 [(0, .ref 0)] [] g2 _ _
  show AR _ _ _ _ _ _ _ 18 [(0, .ref 0)] [] g2 _ _
  refine AR.s (pc' := 19) (lv' := [(0, .ref 0)]) (st' := [.ref 0]) (h' := g2) _ hn_120 hk_120_18 rfl ?_
  refine AR.gR hk_120_19 (by decide) Hg2 (q := 0) (n := 18) (by decide) (by decide +kernel) (by decide +kernel) (by decide) hy_t0_8 ?_
  show AR _ _ _ _ _ _ _ 22 [(0, .ref 0)] [.ref 12] g2 _ _
  refine AR.s (pc' := 23) (lv' := [(0, .ref 0)]) (st' := [.ref 0, .ref 12]) (h' := g2) _ hn_120 hk_120_22 rfl ?_
  refine AR.gR hk_120_23 (by decide) Hg2 (q := 0) (n := 18) (by decide) (by decide +kernel) (by decide +kernel) (by decide) hy_t0_7 ?_
  show AR _ _ _ _ _ _ _ 26 [(0, .ref 0)] [.ref 10, .ref 12] g2 _ _
  obtain ⟨v771, cv771⟩ := p_cell Hg2 (q := 12) (by decide) (by decide +kernel : (ty_tab 12).1 = 4)
  refine AR.jr (r := 12) (as := [.ref 10]) (rest := []) hk_120_26 (by decide) (by decide +kernel) (by decide) cv771 rfl rfl (Nat.le_of_ble_eq_true rfl) (p_37x hlst H2) (by decide) (Nat.zero_le _) (Nat.zero_le _) ?_ (fun E h' q => by cases q.1)
  rintro w g4 ⟨e4, H4, P4, lo4, up4⟩
  cases e4
  have Hg4 := H4
  have Q4 : pf [8, 9, 10, 11, 13, 14] h g4 := pf.tr (pf.tr (pf.tr (pf_r _ h) P1 (by simp)) P2 (by simp)) P4 (by simp)
  have hI4 := hI.go Q4 (by decide) (by decide) (by decide)
  show AR _ _ _ _ _ _ _ 29 [(0, .ref 0)] [] g4 _ _
  show AR _ _ _ _ _ _ _ 29 [(0, .ref 0)] [] g4 _ _
  refine AR.s (pc' := 30) (lv' := [(0, .ref 0)]) (st' := [.ref 0]) (h' := g4) _ hn_120 hk_120_29 rfl ?_
  obtain ⟨v0, c0⟩ := p_c8 H4
  refine AR.jr (r := 0) (as := []) (rest := []) hk_120_30 (by decide) (by decide +kernel) (by decide) c0 rfl rfl (Nat.le_of_ble_eq_true rfl) (p_122 hlst H4 hI4) (by decide) (Nat.zero_le _) (Nat.zero_le _) ?_ (fun E h' q => by cases q.2)
  rintro w g9 ⟨eg, er⟩
  cases er
  obtain rfl := eg.symm
  show AR _ _ _ _ _ _ _ 33 [(0, .ref 0)] [.ref 147] g4 _ _
  refine AR.s (pc' := 34) (lv' := [(0, .ref 0)]) (st' := [.ref 0, .ref 147]) (h' := g4) _ hn_120 hk_120_33 rfl ?_
  refine AR.gR hk_120_34 (by decide) Hg4 (q := 0) (n := 18) (by decide) (by decide +kernel) (by decide +kernel) (by decide) hy_t0_8 ?_
  show AR _ _ _ _ _ _ _ 37 [(0, .ref 0)] [.ref 12, .ref 147] g4 _ _
  refine AR.s (pc' := 38) (lv' := [(0, .ref 0)]) (st' := [.ref 0, .ref 12, .ref 147]) (h' := g4) _ hn_120 hk_120_37 rfl ?_
  refine AR.gR hk_120_38 (by decide) Hg4 (q := 0) (n := 18) (by decide) (by decide +kernel) (by decide +kernel) (by decide) hy_t0_7 ?_
  show AR _ _ _ _ _ _ _ 41 [(0, .ref 0)] [.ref 10, .ref 12, .ref 147] g4 _ _
  refine AR.gI hk_120_41 (by decide) Hg4 (q := 10) (n := 3) (by decide) (by decide +kernel) (by decide +kernel) (by decide) hy_t10_1 (fun x772 dx772 lx772 ux772 => ?_)
  show AR _ _ _ _ _ _ _ 44 [(0, .ref 0)] [.int x772, .ref 12, .ref 147] g4 _ _
  have sx772 := hy_zi dx772
  refine AR.i2lT hk_120_44 (fun z773 ez773 => ?_)
  show AR _ _ _ _ _ _ _ 45 [(0, .ref 0)] [.long z773, .ref 12, .ref 147] g4 _ _
  have m4 : z773.toInt = nd (hy_z h 9) (hy_z h 8 1) 12 := by have := P4.z (q := 10) (by decide) 1; omega
  have cz := hy_cz H2 pc_10
  have ub : ∀ u, u < 64 → -1000000000000 ≤ hy_z g4 14 u ∧ hy_z g4 14 u ≤ 1000000000000 := fun u hu => by rw [up4 u hu]; have := tb_bd (o := 6) cz 6 u (by decide); omega
  obtain ⟨v774, cv774⟩ := p_cell Hg4 (q := 147) (by decide) (by decide +kernel : (ty_tab 147).1 = 5)
  refine AR.jr (r := 147) (as := [.ref 12, .long z773]) (rest := []) hk_120_45 (by decide) (by decide +kernel) (by decide) cv774 rfl rfl (Nat.le_of_ble_eq_true rfl) (p_43 hlst H4 (by omega) ub) (by decide) (Nat.zero_le _) (Nat.zero_le _) ?_ (fun E h' q => by obtain ⟨-, _, e, -⟩ := q; cases e)
  rintro w g5 ⟨eg, r, er, hr⟩
  cases er
  obtain rfl := eg.symm
  show AR _ _ _ _ _ _ _ 48 [(0, .ref 0)] [.int r] g4 _ _
  have sr : ∀ w, w < 64 → ∀ k, k < 64 → pR g4 z773.toInt w k = decide (nd (hy_z h 9) (hy_z h 8 1) 12 ≤ sm (hy_z g2 11) w k) := fun w hw0 k hk => by
    unfold pR sm
    rw [lo4 k hk, up4 w hw0, m4]
  have wr : ∀ w, hw g4 148 w = hw h 148 w := fun w => Q4.w (by decide) w
  refine AR.zret hk_120_48 hr_120 ?_ ⟨H4, Q4, _, rfl, hy_z g2 11, fun k hk => (v2 k hk).trans (v1 k hk), ?_⟩
  · rcases hr with ⟨a, -⟩ | ⟨a, -⟩
    · exact Or.inr (by omega)
    · exact Or.inl (by omega)
  · rcases hr with ⟨a, b⟩ | ⟨a, w, k, hw0, hk, b1, b2⟩
    · exact Or.inl ⟨a, fun w hw0 k hk e => of_decide_eq_true ((sr w hw0 k hk).symm.trans (b w hw0 k hk (by rw [wr]; exact e)))⟩
    · exact Or.inr ⟨a, w, k, hw0, hk, by rw [← wr]; exact b1, of_decide_eq_false ((sr w hw0 k hk).symm.trans b2)⟩
theorem p_ana : ∀ a, a < 64 → ∀ b, b < 64 → Int32.ofNat a &&& Int32.ofNat b = Int32.ofNat (a &&& b) ∧ a &&& b < 64 := by decide +kernel
theorem p_ora : ∀ a, a < 64 → ∀ b, b < 64 → Int32.ofNat a ||| Int32.ofNat b = Int32.ofNat (a ||| b) ∧ a ||| b < 64 := by decide +kernel
theorem p_an {x y : Int32} {A B : Nat} (hx : x.toInt = A) (hA : A < 64) (hy : y.toInt = B) (hB : B < 64) : (x &&& y).toInt = ((A &&& B : Nat) : Int) ∧ A &&& B < 64 := by
  have a := p_ana A hA B hB
  rw [p_of hx hA, p_of hy hB, a.1]
  exact ⟨Int32.toInt_ofNat_of_lt (by omega), a.2⟩
theorem p_or {x y : Int32} {A B : Nat} (hx : x.toInt = A) (hA : A < 64) (hy : y.toInt = B) (hB : B < 64) : (x ||| y).toInt = ((A ||| B : Nat) : Int) ∧ A ||| B < 64 := by
  have a := p_ora A hA B hB
  rw [p_of hx hA, p_of hy hB, a.1]
  exact ⟨Int32.toInt_ofNat_of_lt (by omega), a.2⟩
theorem p_b12 : ∀ v, v < 12 → (1 : Int32) <<< (Int32.ofNat v &&& 31) = Int32.ofNat (2 ^ v) := by decide +kernel
theorem p_bit {o s : Int32} {v : Nat} (ho : o.toInt = 1) (hs : s.toInt = v) (hv : v < 12) : o <<< (s &&& 31) = Int32.ofNat (2 ^ v) := by
  rw [p_of hs (by omega), show o = 1 from Int32.toInt_inj.mp (ho.trans (by decide))]
  exact p_b12 v hv
def dr (V v : Nat) : Nat := V &&& (4095 - 2 ^ v)
theorem p_dra : ∀ V, V < 64 → ∀ v, v < 12 → Int32.ofNat V &&& (Int32.ofNat (2 ^ v) ^^^ (-1)) = Int32.ofNat (dr V v) ∧ dr V v < 64 ∧ ((Int32.ofNat V &&& Int32.ofNat (2 ^ v)).toInt = 0 ↔ V.testBit v = false) := by decide +kernel
theorem dr_tb : ∀ V, V < 64 → ∀ v, v < 12 → ∀ k, k < 12 → (dr V v).testBit k = (V.testBit k && !(decide (k = v))) := by decide +kernel
theorem p_orb : ∀ Y, Y < 64 → ∀ N, N < 64 → Y &&& (Y ||| N) = Y ∧ N &&& (Y ||| N) = N := by decide +kernel
theorem ma_mo {Y N Y' N' : Nat} (hY : ∀ k, k < 12 → Y'.testBit k = true → Y.testBit k = true) (hN : ∀ k, k < 12 → N'.testBit k = true → N.testBit k = true) (k : Nat) : ∀ n, n ≤ 12 → ma Y N n k = true → ma Y' N' n k = true
  | 0, _, _ => rfl
  | n + 1, hn, e => by
    have e1 : ((ma Y N n k && (!(Y.testBit n) || k.testBit n)) && (!(N.testBit n) || !(k.testBit n))) = true := e
    show ((ma Y' N' n k && (!(Y'.testBit n) || k.testBit n)) && (!(N'.testBit n) || !(k.testBit n))) = true
    obtain ⟨e2, e3⟩ := Bool.and_eq_true_iff.mp e1
    obtain ⟨e4, e5⟩ := Bool.and_eq_true_iff.mp e2
    have a := hY n (by omega)
    have b := hN n (by omega)
    rw [ma_mo hY hN k n (by omega) e4]
    revert a b e3 e5
    cases Y.testBit n <;> cases Y'.testBit n <;> cases N.testBit n <;> cases N'.testBit n <;> cases k.testBit n <;> simp
theorem hm_mo {Y N Y' N' : Nat} (hY : ∀ k, k < 12 → Y'.testBit k = true → Y.testBit k = true) (hN : ∀ k, k < 12 → N'.testBit k = true → N.testBit k = true) {w k : Nat} (e : hm h Y N w k = true) : hm h Y' N' w k = true := by
  unfold hm at *
  obtain ⟨e1, e2⟩ := Bool.and_eq_true_iff.mp e
  rw [e1, ma_mo hY hN k 6 (by decide) e2]
  rfl
theorem an_mo {Y V V' : Nat} (hV : ∀ k, k < 12 → V'.testBit k = true → V.testBit k = true) : ∀ k, k < 12 → (Y &&& V').testBit k = true → (Y &&& V).testBit k = true := fun k hk e => by
  rw [Nat.testBit_and] at *
  obtain ⟨e1, e2⟩ := Bool.and_eq_true_iff.mp e
  rw [e1, hV k hk e2]
  rfl
def cnt (U : Nat → Bool) : Nat → Nat
  | 0 => 0
  | n + 1 => cnt U n + if U n then 1 else 0
theorem cnt_le (U : Nat → Bool) : ∀ n, cnt U n ≤ n
  | 0 => Nat.le_refl _
  | n + 1 => by
    have := cnt_le U n
    show cnt U n + (if U n then 1 else 0) ≤ n + 1
    split <;> omega
theorem cnt_mo (U : Nat → Bool) {m : Nat} : ∀ n, m ≤ n → cnt U m ≤ cnt U n
  | 0, h => Nat.le_of_eq (by rw [show m = 0 by omega])
  | n + 1, h => by
    by_cases e : m = n + 1
    · exact Nat.le_of_eq (by rw [e])
    · have := cnt_mo U n (by omega : m ≤ n)
      show cnt U m ≤ cnt U n + _
      omega
theorem p_c21 (hH : hy_H 0 h) : ∃ vs, h[21]? = some (3, vs) := by
  obtain ⟨vs, e1, -⟩ := hy_cell hH (q := 21) (by decide)
  rw [show (ty_tab 21).1 = 3 from by decide +kernel] at e1
  exact ⟨vs, e1⟩
abbrev hy_c3 : ax_Cl := (RX3, TX3, 2, tyX3)
def pq_29 (h : ax_H) (c : Nat) (v : Int) : ax_Q := fun res g => res = .inl none ∧ hy_H 0 g ∧ pf [21, 22] h g ∧ hy_z g 21 1 = c + 1 ∧ ∀ j, hy_z g 22 j = if j = c then v else hy_z h 22 j
theorem p_29 (hlst : l.stackTraces = false) {c : Nat} (hH : hy_H 0 h) (hc : hy_z h 21 1 = c) (hc2 : c < 24) (x0 : 0 ≤ x.toInt) (x1 : x.toInt ≤ 23) : AM ax_ns l (ax_mm 29) 0 ty_R (0) (0) [.ref 21, .int x] h (pq_29 h c x.toInt) := by
  refine AM.of (ax_mfacts (by decide +kernel : ax_has 29 = true)).2.2.2.2.2.2 hlst (by rw [hn_29]; exact Nat.le_of_ble_eq_true rfl) ?_
  show AR ax_ns l (ax_mm 29) 0 ty_R _ _ 0 [(0, .ref 21), (1, .int x)] [] h (0) (0)
  have F : ty_F pW h h := ty_F_refl _ _
  have P0 : pf [21, 22] h h := pf_r _ _
  show AR _ _ _ _ _ _ _ 0 [(0, .ref 21), (1, .int x)] [] h _ _
  refine AR.s (pc' := 1) (lv' := [(0, .ref 21), (1, .int x)]) (st' := [.ref 21]) (h' := h) _ hn_29 hk_29_0 rfl ?_
  refine AR.gI hk_29_1 (by decide) hH (q := 21) (n := 2) (by decide) (by decide +kernel) (by decide +kernel) (by decide) hy_t21_1 (fun x775 dx775 lx775 ux775 => ?_)
  show AR _ _ _ _ _ _ _ 4 [(0, .ref 21), (1, .int x)] [.int x775] h _ _
  have sx775 := hy_zi dx775
  refine AR.bipushT hk_29_4 (by decide) (fun z776 ez776 => ?_)
  show AR _ _ _ _ _ _ _ 6 [(0, .ref 21), (1, .int x)] [.int z776, .int x775] h _ _
  refine AR.jge hk_29_6 (tgt := 29) (by decide) (fun p1 => ?_) (fun p2 => ?_)
  · exact absurd p1 (by omega)
  · refine AR.s (pc' := 10) (lv' := [(0, .ref 21), (1, .int x)]) (st' := [.ref 21]) (h' := h) _ hn_29 hk_29_9 rfl ?_
    refine AR.gR hk_29_10 (by decide) hH (q := 21) (n := 2) (by decide) (by decide +kernel) (by decide +kernel) (by decide) hy_t21_0 ?_
    show AR _ _ _ _ _ _ _ 13 [(0, .ref 21), (1, .int x)] [.ref 22] h _ _
    refine AR.s (pc' := 14) (lv' := [(0, .ref 21), (1, .int x)]) (st' := [.ref 21, .ref 22]) (h' := h) _ hn_29 hk_29_13 rfl ?_
    refine AR.gI hk_29_14 (by decide) hH (q := 21) (n := 2) (by decide) (by decide +kernel) (by decide +kernel) (by decide) hy_t21_1 (fun x777 dx777 lx777 ux777 => ?_)
    show AR _ _ _ _ _ _ _ 17 [(0, .ref 21), (1, .int x)] [.int x777, .ref 22] h _ _
    have sx777 := hy_zi dx777
    refine AR.s (pc' := 18) (lv' := [(0, .ref 21), (1, .int x)]) (st' := [.int x, .int x777, .ref 22]) (h' := h) _ hn_29 hk_29_17 rfl ?_
    refine AR.isT hk_29_18 hH F (q := 22) (n := 24) (by decide) (by decide +kernel) (by decide +kernel) (by decide +kernel) hy_t22_0 (by omega) (by omega) (by omega) (by omega) (by decide +kernel) ?_
    rintro g778 ⟨Hg778, Fg778, Gg778, Eg778⟩
    show AR _ _ _ _ _ _ _ 19 [(0, .ref 21), (1, .int x)] [] g778 _ _
    have pg778 : pf [21, 22] h g778 := pf_st P0 Gg778.1 Eg778 (by simp)
    have y1 : ∀ k, hy_z g778 22 k = if k = x777.toInt.toNat then x.toInt else hy_z h 22 k := fun k => hi_put Eg778 k
    have n1 : hy_z g778 21 1 = hy_z h 21 1 := hy_ze (by rw [Eg778, if_neg (fun c => absurd c.1 (by decide))])
    show AR _ _ _ _ _ _ _ 19 [(0, .ref 21), (1, .int x)] [] g778 _ _
    refine AR.s (pc' := 20) (lv' := [(0, .ref 21), (1, .int x)]) (st' := [.ref 21]) (h' := g778) _ hn_29 hk_29_19 rfl ?_
    refine AR.s (pc' := 21) (lv' := [(0, .ref 21), (1, .int x)]) (st' := [.ref 21, .ref 21]) (h' := g778) _ hn_29 hk_29_20 rfl ?_
    refine AR.gI hk_29_21 (by decide) Hg778 (q := 21) (n := 2) (by decide) (by decide +kernel) (by decide +kernel) (by decide) hy_t21_1 (fun x779 dx779 lx779 ux779 => ?_)
    show AR _ _ _ _ _ _ _ 24 [(0, .ref 21), (1, .int x)] [.int x779, .ref 21] g778 _ _
    have sx779 := hy_zi dx779
    refine AR.iconstT hk_29_24 (by decide) (fun z780 ez780 => ?_)
    show AR _ _ _ _ _ _ _ 25 [(0, .ref 21), (1, .int x)] [.int z780, .int x779, .ref 21] g778 _ _
    refine AR.addT hk_29_25 (by omega) (by omega) (fun z781 ez781 => ?_)
    show AR _ _ _ _ _ _ _ 26 [(0, .ref 21), (1, .int x)] [.int z781, .ref 21] g778 _ _
    refine AR.pT hk_29_26 (by decide) Hg778 Fg778 (q := 21) (by decide) (by decide +kernel) (show ax_cls[3]? = some hy_c3 from rfl) (by decide +kernel) (by decide) rfl (by rw [hy_t21_1]; exact ⟨_, rfl, by omega, by omega, Or.inl rfl⟩) (by decide +kernel) (by decide +kernel) ?_
    rintro g782 ⟨Hg782, Fg782, Gg782, Eg782⟩
    show AR _ _ _ _ _ _ _ 29 [(0, .ref 21), (1, .int x)] [] g782 _ _
    have pg782 : pf [21, 22] h g782 := pf_st pg778 Gg782.1 Eg782 (by simp)
    have u8 : hy_z g782 21 1 = z781.toInt := hy_zi (i := z781) (by rw [Eg782, if_pos ⟨rfl, rfl⟩])
    have u9 : ∀ k, hy_z g782 22 k = hy_z g778 22 k := fun k => hy_ze (by rw [Eg782, if_neg (fun c => absurd c.1 (by decide))])
    exact AR.vret hk_29_29 hr_29 ⟨rfl, Hg782, pg782, by omega, fun k => by rw [u9, y1, show x777.toInt.toNat = c from by omega]⟩
def pq_32 (h : ax_H) (U : Nat → Bool) : ax_Q := fun res g => res = .inl none ∧ hy_H 0 g ∧ pf [21, 22] h g ∧ hy_z g 21 1 = cnt U 24 ∧ ∀ k, k < 24 → U k = true → hy_z g 22 (cnt U k) = k
theorem p32_L (hlst : l.stackTraces = false) {X : ax_PX} {U : Nat → Bool} (hU : ∀ k, k < 24 → ib x k = U k) : ∀ (n v : Nat) (g : ax_H) (i : Int32), v + n = 24 → i.toInt = v → hy_H 0 g → pf [21, 22] h g → hy_z g 21 1 = cnt U v → (∀ k, k < v → U k = true → hy_z g 22 (cnt U k) = k) → AR ax_ns l (ax_mm 32) 1 ty_R (ax_ret ax_ns (ax_mm 32) (pq_32 h U)) X 7 [(2, .int i), (1, .int x), (0, .ref 21)] [] g 0 0 := by
  intro n
  induction n with
  | zero =>
    intro v g i hn hi Hg Pg hc hv
    have Fg : ty_F pW g g := ty_F_refl _ _
    show AR _ _ _ _ _ _ _ 7 [(2, .int i), (1, .int x), (0, .ref 21)] [] g _ _
    refine AR.s (pc' := 8) (lv' := [(2, .int i), (1, .int x), (0, .ref 21)]) (st' := [.int i]) (h' := g) _ hn_32 hk_32_7 rfl ?_
    refine AR.bipushT hk_32_8 (by decide) (fun z783 ez783 => ?_)
    show AR _ _ _ _ _ _ _ 10 [(2, .int i), (1, .int x), (0, .ref 21)] [.int z783, .int i] g _ _
    refine AR.jge hk_32_10 (tgt := 33) (by decide) (fun p1 => ?_) (fun p2 => ?_)
    · have v24 : v = 24 := by omega
      subst v24
      exact AR.vret hk_32_33 hr_32 ⟨rfl, Hg, Pg, hc, hv⟩
    · exact absurd p2 (by omega)
  | succ n ih =>
    intro v g i hn hi Hg Pg hc hv
    have Fg : ty_F pW g g := ty_F_refl _ _
    show AR _ _ _ _ _ _ _ 7 [(2, .int i), (1, .int x), (0, .ref 21)] [] g _ _
    refine AR.s (pc' := 8) (lv' := [(2, .int i), (1, .int x), (0, .ref 21)]) (st' := [.int i]) (h' := g) _ hn_32 hk_32_7 rfl ?_
    refine AR.bipushT hk_32_8 (by decide) (fun z784 ez784 => ?_)
    show AR _ _ _ _ _ _ _ 10 [(2, .int i), (1, .int x), (0, .ref 21)] [.int z784, .int i] g _ _
    refine AR.jge hk_32_10 (tgt := 33) (by decide) (fun p1 => ?_) (fun p2 => ?_)
    · exact absurd p1 (by omega)
    · refine AR.s (pc' := 14) (lv' := [(2, .int i), (1, .int x), (0, .ref 21)]) (st' := [.int x]) (h' := g) _ hn_32 hk_32_13 rfl ?_
      refine AR.s (pc' := 15) (lv' := [(2, .int i), (1, .int x), (0, .ref 21)]) (st' := [.int i, .int x]) (h' := g) _ hn_32 hk_32_14 rfl ?_
      refine AR.ishr (z := .int (x >>> (i &&& 31))) (ax_look_ok hk_32_15).1 rfl ?_
      generalize gz785 : x >>> (i &&& 31) = z785
      show AR _ _ _ _ _ _ _ 16 [(2, .int i), (1, .int x), (0, .ref 21)] [.int z785] g _ _
      refine AR.iconstT hk_32_16 (by decide) (fun z786 ez786 => ?_)
      show AR _ _ _ _ _ _ _ 17 [(2, .int i), (1, .int x), (0, .ref 21)] [.int z786, .int z785] g _ _
      refine AR.iand (z := .int (z785 &&& z786)) (ax_look_ok hk_32_17).1 rfl ?_
      generalize gz787 : z785 &&& z786 = z787
      show AR _ _ _ _ _ _ _ 18 [(2, .int i), (1, .int x), (0, .ref 21)] [.int z787] g _ _
      refine AR.iconstT hk_32_18 (by decide) (fun z788 ez788 => ?_)
      show AR _ _ _ _ _ _ _ 19 [(2, .int i), (1, .int x), (0, .ref 21)] [.int z788, .int z787] g _ _
      have cl := cnt_le U v
      have tb : z787.toInt = if U v then 1 else 0 := by rw [← hU v (by omega), ← gz787, ← gz785]; exact ib_sh hi (by omega) ez786
      have cs : cnt U (v + 1) = cnt U v + if U v then 1 else 0 := rfl
      show AR _ _ _ _ _ _ _ 19 [(2, .int i), (1, .int x), (0, .ref 21)] [.int z788, .int z787] g _ _
      refine AR.jne hk_32_19 (tgt := 27) (by decide) (fun q1 => ?_) (fun q2 => ?_)
      · have ui : U v = false := by
          cases e : U v with
          | false => rfl
          | true => rw [e] at tb; exact absurd (show z787.toInt = 1 from tb) (by omega)
        rw [ui] at cs
        have cs2 : cnt U (v + 1) = cnt U v := cs
        refine AR.iincT hk_32_27 (x := i) rfl (by rw [hn_32]; decide) (by decide) (by omega) (by omega) (fun z789 ez789 => ?_)
        show AR _ _ _ _ _ _ _ 30 [(2, .int z789), (1, .int x), (0, .ref 21)] [] g _ _
        refine AR.gotoT hk_32_30 (tgt := 7) (by decide) ?_
        refine AR.lessL (lv' := [(2, .int z789), (1, .int x), (0, .ref 21)]) (List.forall_mem_cons.mpr ⟨⟨_, by simp, ax_le_rfl rfl⟩, (List.forall_mem_cons.mpr ⟨⟨_, by simp, ax_le_rfl rfl⟩, (List.forall_mem_cons.mpr ⟨⟨_, by simp, ax_le_rfl rfl⟩, (fun _ h => absurd h List.not_mem_nil)⟩)⟩)⟩) ?_
        refine ih (v + 1) g z789 (by omega) (by omega) Hg Pg (by omega) (fun k hk e => ?_)
        by_cases ek : k = v
        · rw [ek, ui] at e; cases e
        · exact hv k (by omega) e
      · have ui : U v = true := by
          cases e : U v with
          | true => rfl
          | false => rw [e] at tb; exact absurd (show z787.toInt = 0 from tb) (by omega)
        rw [ui] at cs
        have cs2 : cnt U (v + 1) = cnt U v + 1 := cs
        refine AR.s (pc' := 23) (lv' := [(2, .int i), (1, .int x), (0, .ref 21)]) (st' := [.ref 21]) (h' := g) _ hn_32 hk_32_22 rfl ?_
        refine AR.s (pc' := 24) (lv' := [(2, .int i), (1, .int x), (0, .ref 21)]) (st' := [.int i, .ref 21]) (h' := g) _ hn_32 hk_32_23 rfl ?_
        obtain ⟨vc, cc⟩ := p_c21 Hg
        refine AR.jr (r := 21) (as := [.int i]) (rest := []) hk_32_24 (by decide) (by decide +kernel) (by decide) cc rfl rfl (Nat.le_of_ble_eq_true rfl) (p_29 hlst (c := cnt U v) Hg hc (by omega) (by omega) (by omega)) (by decide) (Nat.zero_le _) (Nat.zero_le _) ?_ (fun E h' q => by cases q.1)
        rintro w g1 ⟨e1, H1, P1, c1, v1⟩
        cases e1
        show AR _ _ _ _ _ _ _ 27 [(2, .int i), (1, .int x), (0, .ref 21)] [] g1 _ _
        refine AR.iincT hk_32_27 (x := i) rfl (by rw [hn_32]; decide) (by decide) (by omega) (by omega) (fun z790 ez790 => ?_)
        show AR _ _ _ _ _ _ _ 30 [(2, .int z790), (1, .int x), (0, .ref 21)] [] g1 _ _
        refine AR.gotoT hk_32_30 (tgt := 7) (by decide) ?_
        refine AR.lessL (lv' := [(2, .int z790), (1, .int x), (0, .ref 21)]) (List.forall_mem_cons.mpr ⟨⟨_, by simp, ax_le_rfl rfl⟩, (List.forall_mem_cons.mpr ⟨⟨_, by simp, ax_le_rfl rfl⟩, (List.forall_mem_cons.mpr ⟨⟨_, by simp, ax_le_rfl rfl⟩, (fun _ h => absurd h List.not_mem_nil)⟩)⟩)⟩) ?_
        refine ih (v + 1) g1 z790 (by omega) (by omega) H1 (pf.tr Pg P1 (fun _ q => q)) (by omega) (fun k hk e => ?_)
        rw [v1]
        by_cases ek : k = v
        · rw [ek, if_pos rfl]; omega
        · have c2 : cnt U (k + 1) = cnt U k + if U k then 1 else 0 := rfl
          rw [e] at c2
          have c3 : cnt U (k + 1) = cnt U k + 1 := c2
          have c4 := cnt_mo U v (by omega : k + 1 ≤ v)
          rw [if_neg (by omega)]
          exact hv k (by omega) e
theorem p_32 (hlst : l.stackTraces = false) {U : Nat → Bool} (hH : hy_H 0 h) (hU : ∀ k, k < 24 → ib x k = U k) : AM ax_ns l (ax_mm 32) 1 ty_R (0) (0) [.ref 21, .int x] h (pq_32 h U) := by
  refine AM.of (ax_mfacts (by decide +kernel : ax_has 32 = true)).2.2.2.2.2.2 hlst (by rw [hn_32]; exact Nat.le_of_ble_eq_true rfl) ?_
  show AR ax_ns l (ax_mm 32) 1 ty_R _ _ 0 [(0, .ref 21), (1, .int x)] [] h (0) (0)
  have F : ty_F pW h h := ty_F_refl _ _
  have P0 : pf [21, 22] h h := pf_r _ _
  show AR _ _ _ _ _ _ _ 0 [(0, .ref 21), (1, .int x)] [] h _ _
  refine AR.s (pc' := 1) (lv' := [(0, .ref 21), (1, .int x)]) (st' := [.ref 21]) (h' := h) _ hn_32 hk_32_0 rfl ?_
  refine AR.iconstT hk_32_1 (by decide) (fun z791 ez791 => ?_)
  show AR _ _ _ _ _ _ _ 2 [(0, .ref 21), (1, .int x)] [.int z791, .ref 21] h _ _
  refine AR.pT hk_32_2 (by decide) hH F (q := 21) (by decide) (by decide +kernel) (show ax_cls[3]? = some hy_c3 from rfl) (by decide +kernel) (by decide) rfl (by rw [hy_t21_1]; exact ⟨_, rfl, by omega, by omega, Or.inl rfl⟩) (by decide +kernel) (by decide +kernel) ?_
  rintro g792 ⟨Hg792, Fg792, Gg792, Eg792⟩
  show AR _ _ _ _ _ _ _ 5 [(0, .ref 21), (1, .int x)] [] g792 _ _
  have pg792 : pf [21, 22] h g792 := pf_st P0 Gg792.1 Eg792 (by simp)
  have u8 : hy_z g792 21 1 = z791.toInt := hy_zi (i := z791) (by rw [Eg792, if_pos ⟨rfl, rfl⟩])
  refine AR.iconstT hk_32_5 (by decide) (fun z793 ez793 => ?_)
  show AR _ _ _ _ _ _ _ 6 [(0, .ref 21), (1, .int x)] [.int z793] g792 _ _
  refine AR.s (pc' := 7) (lv' := [(2, .int z793), (0, .ref 21), (1, .int x)]) (st' := []) (h' := g792) _ hn_32 hk_32_6 rfl ?_
  refine AR.lessL (lv' := [(2, .int z793), (1, .int x), (0, .ref 21)]) (List.forall_mem_cons.mpr ⟨⟨_, by simp, ax_le_rfl rfl⟩, (List.forall_mem_cons.mpr ⟨⟨_, by simp, ax_le_rfl rfl⟩, (List.forall_mem_cons.mpr ⟨⟨_, by simp, ax_le_rfl rfl⟩, (fun _ h => absurd h List.not_mem_nil)⟩)⟩)⟩) ?_
  exact p32_L hlst hU 24 0 g792 z793 (by omega) (by omega) Hg792 pg792 (by show _ = ((0 : Nat) : Int); omega) (fun k hk => absurd hk (by omega))
theorem p_114 (hlst : l.stackTraces = false) (hH : hy_H 0 h) (x0 : 0 ≤ x.toInt) (x1 : x.toInt < hy_z h 21 1) : AM ax_ns l (ax_mm 114) 0 ty_R (0) (0) [.int x, .ref 21] h (fun res g => res = .inl none ∧ g = h) := by
  refine AM.of (ax_mfacts (by decide +kernel : ax_has 114 = true)).2.2.2.2.2.2 hlst (by rw [hn_114]; exact Nat.le_of_ble_eq_true rfl) ?_
  show AR ax_ns l (ax_mm 114) 0 ty_R _ _ 0 [(0, .int x), (1, .ref 21)] [] h (0) (0)
  refine AR.s (pc' := 1) (lv' := [(0, .int x), (1, .ref 21)]) (st' := [.int x]) (h' := h) _ hn_114 hk_114_0 rfl ?_
  refine AR.zlt hk_114_1 (tgt := 12) (by decide) (fun p1 => ?_) (fun p2 => ?_)
  · exact absurd p1 (by omega)
  · refine AR.s (pc' := 5) (lv' := [(0, .int x), (1, .ref 21)]) (st' := [.int x]) (h' := h) _ hn_114 hk_114_4 rfl ?_
    refine AR.s (pc' := 6) (lv' := [(0, .int x), (1, .ref 21)]) (st' := [.ref 21, .int x]) (h' := h) _ hn_114 hk_114_5 rfl ?_
    refine AR.gI hk_114_6 (by decide) hH (q := 21) (n := 2) (by decide) (by decide +kernel) (by decide +kernel) (by decide) hy_t21_1 (fun x794 dx794 lx794 ux794 => ?_)
    show AR _ _ _ _ _ _ _ 9 [(0, .int x), (1, .ref 21)] [.int x794, .int x] h _ _
    have sx794 := hy_zi dx794
    refine AR.jlt hk_114_9 (tgt := 23) (by decide) (fun q1 => ?_) (fun q2 => ?_)
    · exact AR.vret hk_114_23 hr_114 ⟨rfl, rfl⟩
    · exact absurd q2 (by omega)
theorem hy_n21 (hH : hy_H 0 h) : hy_z h 21 1 ≤ 24 := by
  obtain ⟨i, e1, e2, e3⟩ := hy_int hH (q := 21) (n := 2) (j := 1) (a := 0) (z := 24) (by decide) (by decide +kernel) (by decide) (by decide +kernel)
  rw [hy_zi e1]
  exact e3
theorem p_107 (hlst : l.stackTraces = false) {j : Nat} (hH : hy_H 0 h) (hx : x.toInt = j) (hj : (j : Int) < hy_z h 21 1) : AM ax_ns l (ax_mm 107) 1 ty_R (0) (0) [.ref 0, .int x] h (fun res g => g = h ∧ ∃ z : Int32, res = .inl (some (.int z)) ∧ z.toInt = hy_z h 22 j) := by
  refine AM.of (ax_mfacts (by decide +kernel : ax_has 107 = true)).2.2.2.2.2.2 hlst (by rw [hn_107]; exact Nat.le_of_ble_eq_true rfl) ?_
  show AR ax_ns l (ax_mm 107) 1 ty_R _ _ 0 [(0, .ref 0), (1, .int x)] [] h (0) (0)
  have c24 : hy_z h 21 1 ≤ 24 := hy_n21 hH
  show AR _ _ _ _ _ _ _ 0 [(0, .ref 0), (1, .int x)] [] h _ _
  refine AR.s (pc' := 1) (lv' := [(0, .ref 0), (1, .int x)]) (st' := [.int x]) (h' := h) _ hn_107 hk_107_0 rfl ?_
  refine AR.s (pc' := 2) (lv' := [(0, .ref 0), (1, .int x)]) (st' := [.ref 0, .int x]) (h' := h) _ hn_107 hk_107_1 rfl ?_
  refine AR.gR hk_107_2 (by decide) hH (q := 0) (n := 18) (by decide) (by decide +kernel) (by decide +kernel) (by decide) hy_t0_12 ?_
  show AR _ _ _ _ _ _ _ 5 [(0, .ref 0), (1, .int x)] [.ref 21, .int x] h _ _
  refine AR.cs (as := [.int x, .ref 21]) (rest := []) hk_107_5 (by decide +kernel) rfl rfl (Nat.le_of_ble_eq_true rfl) (p_114 hlst hH (by omega) (by omega)) (by decide) (Nat.zero_le _) (Nat.zero_le _) (fun E h' q => by cases q.1) ?_
  rintro w g ⟨e, eg⟩
  cases e
  obtain rfl := eg.symm
  show AR _ _ _ _ _ _ _ 8 [(0, .ref 0), (1, .int x)] [] h _ _
  refine AR.s (pc' := 9) (lv' := [(0, .ref 0), (1, .int x)]) (st' := [.ref 0]) (h' := h) _ hn_107 hk_107_8 rfl ?_
  refine AR.gR hk_107_9 (by decide) hH (q := 0) (n := 18) (by decide) (by decide +kernel) (by decide +kernel) (by decide) hy_t0_12 ?_
  show AR _ _ _ _ _ _ _ 12 [(0, .ref 0), (1, .int x)] [.ref 21] h _ _
  refine AR.gR hk_107_12 (by decide) hH (q := 21) (n := 2) (by decide) (by decide +kernel) (by decide +kernel) (by decide) hy_t21_0 ?_
  show AR _ _ _ _ _ _ _ 15 [(0, .ref 0), (1, .int x)] [.ref 22] h _ _
  refine AR.s (pc' := 16) (lv' := [(0, .ref 0), (1, .int x)]) (st' := [.int x, .ref 22]) (h' := h) _ hn_107 hk_107_15 rfl ?_
  refine AR.iaI hk_107_16 hH (q := 22) (n := 24) (by decide) (by decide +kernel) (by decide +kernel) (by decide +kernel) hy_t22_0 (by omega) (by omega) (fun x795 dx795 lx795 ux795 => ?_)
  show AR _ _ _ _ _ _ _ 17 [(0, .ref 0), (1, .int x)] [.int x795] h _ _
  rw [show x.toNatClampNeg = j from by show x.toInt.toNat = j; omega] at dx795
  have yx795 := hy_zi dx795
  exact AR.iret hk_107_17 hr_107 ⟨rfl, _, rfl, by omega⟩
theorem p_116 (hlst : l.stackTraces = false) (x0 : 0 ≤ x.toInt) (x1 : x.toInt ≤ 4095) : AM ax_ns l (ax_mm 116) 0 ty_R (0) (0) [.int x] h (fun res g => g = h ∧ ∃ z : Int32, res = .inl (some (.int z)) ∧ z.toInt = 1) := by
  refine AM.of (ax_mfacts (by decide +kernel : ax_has 116 = true)).2.2.2.2.2.2 hlst (by rw [hn_116]; exact Nat.le_of_ble_eq_true rfl) ?_
  show AR ax_ns l (ax_mm 116) 0 ty_R _ _ 0 [(0, .int x)] [] h (0) (0)
  refine AR.s (pc' := 1) (lv' := [(0, .int x)]) (st' := [.int x]) (h' := h) _ hn_116 hk_116_0 rfl ?_
  refine AR.zlt hk_116_1 (tgt := 15) (by decide) (fun p1 => ?_) (fun p2 => ?_)
  · exact absurd p1 (by omega)
  · refine AR.s (pc' := 5) (lv' := [(0, .int x)]) (st' := [.int x]) (h' := h) _ hn_116 hk_116_4 rfl ?_
    refine AR.sipushT hk_116_5 (by decide) (fun z796 ez796 => ?_)
    show AR _ _ _ _ _ _ _ 8 [(0, .int x)] [.int z796, .int x] h _ _
    refine AR.jgt hk_116_8 (tgt := 15) (by decide) (fun q1 => ?_) (fun q2 => ?_)
    · exact absurd q1 (by omega)
    · refine AR.iconstT hk_116_11 (by decide) (fun z797 ez797 => ?_)
      show AR _ _ _ _ _ _ _ 12 [(0, .int x)] [.int z797] h _ _
      refine AR.gotoT hk_116_12 (tgt := 16) (by decide) ?_
      exact AR.zret hk_116_16 hr_116 (Or.inr (by omega)) ⟨rfl, _, rfl, by omega⟩
def uV (V N k : Nat) : Bool := V.testBit (k / 2) && (N.testBit (k / 2) == decide (k % 2 = 1))
/-- a reason: no model, and none of it can be left out -/
def rs (h : ax_H) (Y N V : Nat) : Prop := V < 64 ∧ (∀ k, k < 12 → V.testBit k = true → (Y ||| N).testBit k = true) ∧ (∀ w, w < 64 → ∀ k, k < 64 → hm h (Y &&& V) (N &&& V) w k = false) ∧ ∀ v, v < 12 → V.testBit v = true → ∃ w k, w < 64 ∧ k < 64 ∧ hm h (Y &&& dr V v) (N &&& dr V v) w k = true
def pq_106 (h : ax_H) (Y N : Nat) : ax_Q := fun res g => hy_H 0 g ∧ pf [21, 22] h g ∧ ((res = .inr "java/util/NoSuchElementException" ∧ ∃ w k, w < 64 ∧ k < 64 ∧ hm h Y N w k = true) ∨ ((∀ w, w < 64 → ∀ k, k < 64 → hm h Y N w k = false) ∧ ∃ V, rs h Y N V ∧ (∃ z : Int32, res = .inl (some (.int z)) ∧ z.toInt = cnt (uV V N) 24) ∧ hy_z g 21 1 = cnt (uV V N) 24 ∧ ∀ k, k < 24 → uV V N k = true → hy_z g 22 (cnt (uV V N) k) = k))
theorem pf_push {c : List Nat} : pf c h (h ++ [(99, [])]) := ⟨ty_X_push _ _, fun q j _ => by
  unfold ty_fd
  by_cases e : q < h.length
  · rw [List.getElem?_append_left e]
  · rw [List.getElem?_append_right (by omega), List.getElem?_eq_none (by omega : h.length ≤ q)]
    by_cases e2 : q - h.length = 0
    · rw [e2]; rfl
    · rw [List.getElem?_eq_none (by show 1 ≤ q - h.length; omega)]⟩
theorem p_s1 {o s t : Int32} {n : Nat} (ho : o.toInt = 1) (hs : s.toInt = n) (hn : n < 24) (k : Nat) (hk : k < 24) : ib (o <<< (s &&& 31)) k = decide (k = n) := ib_1 ho hs hn hk
theorem uV_eq {V N v k : Nat} (hk : k / 2 = v) (e : V.testBit v = true) : uV V N k = (N.testBit v == decide (k % 2 = 1)) := by
  unfold uV
  rw [hk, e, Bool.true_and]
theorem p106_L (hlst : l.stackTraces = false) {X : ax_PX} {Y N : Nat} (hH : hy_H 0 h) (hI : pI h) (hx : x.toInt = Y) (hY : Y < 64) (hy : y.toInt = N) (hN : N < 64) (hYN : Y &&& N = 0) (h0 : ∀ w, w < 64 → ∀ k, k < 64 → hm h Y N w k = false) : ∀ (n v : Nat) (i u w : Int32) (V : Nat), v + n = 12 → i.toInt = v → w.toInt = V → V < 64 → (∀ k, k < 24 → ib u k = (decide (k / 2 < v) && uV V N k)) → (∀ k, k < 12 → V.testBit k = true → (Y ||| N).testBit k = true) → (∀ w, w < 64 → ∀ k, k < 64 → hm h (Y &&& V) (N &&& V) w k = false) → (∀ t, t < v → V.testBit t = true → ∃ w k, w < 64 ∧ k < 64 ∧ hm h (Y &&& dr V t) (N &&& dr V t) w k = true) → AR ax_ns l (ax_mm 106) 3 ty_R (ax_ret ax_ns (ax_mm 106) (pq_106 h Y N)) X 61 [(5, .int i), (4, .int u), (3, .int w), (2, .int y), (1, .int x), (0, .ref 0)] [] h 1 6 := by
  intro n
  induction n with
  | zero =>
    intro v i u w V hn hi hw0 hV hu hs hno hmi
    show AR _ _ _ _ _ _ _ 61 [(5, .int i), (4, .int u), (3, .int w), (2, .int y), (1, .int x), (0, .ref 0)] [] h _ _
    refine AR.s (pc' := 63) (lv' := [(5, .int i), (4, .int u), (3, .int w), (2, .int y), (1, .int x), (0, .ref 0)]) (st' := [.int i]) (h' := h) _ hn_106 hk_106_61 rfl ?_
    refine AR.bipushT hk_106_63 (by decide) (fun z798 ez798 => ?_)
    show AR _ _ _ _ _ _ _ 65 [(5, .int i), (4, .int u), (3, .int w), (2, .int y), (1, .int x), (0, .ref 0)] [.int z798, .int i] h _ _
    refine AR.jge hk_106_65 (tgt := 143) (by decide) (fun p1 => ?_) (fun p2 => ?_)
    · have v12 : v = 12 := by omega
      subst v12
      have hu2 : ∀ k, k < 24 → ib u k = uV V N k := fun k hk => by rw [hu k hk, decide_eq_true (by omega), Bool.true_and]
      show AR _ _ _ _ _ _ _ 143 [(5, .int i), (4, .int u), (3, .int w), (2, .int y), (1, .int x), (0, .ref 0)] [] h _ _
      refine AR.s (pc' := 144) (lv' := [(5, .int i), (4, .int u), (3, .int w), (2, .int y), (1, .int x), (0, .ref 0)]) (st' := [.ref 0]) (h' := h) _ hn_106 hk_106_143 rfl ?_
      refine AR.gR hk_106_144 (by decide) hH (q := 0) (n := 18) (by decide) (by decide +kernel) (by decide +kernel) (by decide) hy_t0_12 ?_
      show AR _ _ _ _ _ _ _ 147 [(5, .int i), (4, .int u), (3, .int w), (2, .int y), (1, .int x), (0, .ref 0)] [.ref 21] h _ _
      refine AR.s (pc' := 149) (lv' := [(5, .int i), (4, .int u), (3, .int w), (2, .int y), (1, .int x), (0, .ref 0)]) (st' := [.int u, .ref 21]) (h' := h) _ hn_106 hk_106_147 rfl ?_
      obtain ⟨vc, cc⟩ := p_c21 hH
      refine AR.jr (r := 21) (as := [.int u]) (rest := []) hk_106_149 (by decide) (by decide +kernel) (by decide) cc rfl rfl (Nat.le_of_ble_eq_true rfl) (p_32 hlst (U := uV V N) hH hu2) (by decide) (Nat.zero_le _) (Nat.zero_le _) ?_ (fun E h' q => by cases q.1)
      rintro w9 g1 ⟨e1, H1, P1, c1, v1⟩
      cases e1
      have Hg1 := H1
      show AR _ _ _ _ _ _ _ 152 [(5, .int i), (4, .int u), (3, .int w), (2, .int y), (1, .int x), (0, .ref 0)] [] g1 _ _
      refine AR.s (pc' := 153) (lv' := [(5, .int i), (4, .int u), (3, .int w), (2, .int y), (1, .int x), (0, .ref 0)]) (st' := [.ref 0]) (h' := g1) _ hn_106 hk_106_152 rfl ?_
      refine AR.gR hk_106_153 (by decide) Hg1 (q := 0) (n := 18) (by decide) (by decide +kernel) (by decide +kernel) (by decide) hy_t0_12 ?_
      show AR _ _ _ _ _ _ _ 156 [(5, .int i), (4, .int u), (3, .int w), (2, .int y), (1, .int x), (0, .ref 0)] [.ref 21] g1 _ _
      refine AR.gI hk_106_156 (by decide) Hg1 (q := 21) (n := 2) (by decide) (by decide +kernel) (by decide +kernel) (by decide) hy_t21_1 (fun x799 dx799 lx799 ux799 => ?_)
      show AR _ _ _ _ _ _ _ 159 [(5, .int i), (4, .int u), (3, .int w), (2, .int y), (1, .int x), (0, .ref 0)] [.int x799] g1 _ _
      have sx799 := hy_zi dx799
      exact AR.iret hk_106_159 hr_106 ⟨H1, P1, Or.inr ⟨h0, V, ⟨hV, hs, hno, fun t ht e => hmi t ht e⟩, ⟨_, rfl, by omega⟩, c1, v1⟩⟩
    · exact absurd p2 (by omega)
  | succ n ih =>
    intro v i u w V hn hi hw0 hV hu hs hno hmi
    show AR _ _ _ _ _ _ _ 61 [(5, .int i), (4, .int u), (3, .int w), (2, .int y), (1, .int x), (0, .ref 0)] [] h _ _
    refine AR.s (pc' := 63) (lv' := [(5, .int i), (4, .int u), (3, .int w), (2, .int y), (1, .int x), (0, .ref 0)]) (st' := [.int i]) (h' := h) _ hn_106 hk_106_61 rfl ?_
    refine AR.bipushT hk_106_63 (by decide) (fun z800 ez800 => ?_)
    show AR _ _ _ _ _ _ _ 65 [(5, .int i), (4, .int u), (3, .int w), (2, .int y), (1, .int x), (0, .ref 0)] [.int z800, .int i] h _ _
    refine AR.jge hk_106_65 (tgt := 143) (by decide) (fun p1 => ?_) (fun p2 => ?_)
    · exact absurd p1 (by omega)
    · refine AR.iconstT hk_106_68 (by decide) (fun z801 ez801 => ?_)
      show AR _ _ _ _ _ _ _ 69 [(5, .int i), (4, .int u), (3, .int w), (2, .int y), (1, .int x), (0, .ref 0)] [.int z801] h _ _
      refine AR.s (pc' := 71) (lv' := [(5, .int i), (4, .int u), (3, .int w), (2, .int y), (1, .int x), (0, .ref 0)]) (st' := [.int i, .int z801]) (h' := h) _ hn_106 hk_106_69 rfl ?_
      refine AR.ishl (z := .int (z801 <<< (i &&& 31))) (ax_look_ok hk_106_71).1 rfl ?_
      generalize gz802 : z801 <<< (i &&& 31) = z802
      show AR _ _ _ _ _ _ _ 72 [(5, .int i), (4, .int u), (3, .int w), (2, .int y), (1, .int x), (0, .ref 0)] [.int z802] h _ _
      have hb : z802 = Int32.ofNat (2 ^ v) := by rw [← gz802]; exact p_bit ez801 hi (by omega)
      obtain ⟨dra, drb, drc⟩ := p_dra V hV v (by omega)
      have wv : w = Int32.ofNat V := p_of hw0 hV
      show AR _ _ _ _ _ _ _ 72 [(5, .int i), (4, .int u), (3, .int w), (2, .int y), (1, .int x), (0, .ref 0)] [.int z802] h _ _
      refine AR.s (pc' := 74) (lv' := [(6, .int z802), (5, .int i), (4, .int u), (3, .int w), (2, .int y), (1, .int x), (0, .ref 0)]) (st' := []) (h' := h) _ hn_106 hk_106_72 rfl ?_
      refine AR.s (pc' := 75) (lv' := [(6, .int z802), (5, .int i), (4, .int u), (3, .int w), (2, .int y), (1, .int x), (0, .ref 0)]) (st' := [.int w]) (h' := h) _ hn_106 hk_106_74 rfl ?_
      refine AR.s (pc' := 77) (lv' := [(6, .int z802), (5, .int i), (4, .int u), (3, .int w), (2, .int y), (1, .int x), (0, .ref 0)]) (st' := [.int z802, .int w]) (h' := h) _ hn_106 hk_106_75 rfl ?_
      refine AR.iand (z := .int (w &&& z802)) (ax_look_ok hk_106_77).1 rfl ?_
      generalize gz803 : w &&& z802 = z803
      show AR _ _ _ _ _ _ _ 78 [(6, .int z802), (5, .int i), (4, .int u), (3, .int w), (2, .int y), (1, .int x), (0, .ref 0)] [.int z803] h _ _
      have hq : z803.toInt = 0 ↔ V.testBit v = false := by rw [← gz803, wv, hb]; exact drc
      show AR _ _ _ _ _ _ _ 78 [(6, .int z802), (5, .int i), (4, .int u), (3, .int w), (2, .int y), (1, .int x), (0, .ref 0)] [.int z803] h _ _
      refine AR.zne hk_106_78 (tgt := 84) (by decide) (fun q1 => ?_) (fun q2 => ?_)
      · have vt : V.testBit v = true := by
          cases e : V.testBit v with
          | true => rfl
          | false => exact absurd (hq.mpr e) (by omega)
        show AR _ _ _ _ _ _ _ 84 [(6, .int z802), (5, .int i), (4, .int u), (3, .int w), (2, .int y), (1, .int x), (0, .ref 0)] [] h _ _
        refine AR.s (pc' := 85) (lv' := [(6, .int z802), (5, .int i), (4, .int u), (3, .int w), (2, .int y), (1, .int x), (0, .ref 0)]) (st' := [.int w]) (h' := h) _ hn_106 hk_106_84 rfl ?_
        refine AR.s (pc' := 87) (lv' := [(6, .int z802), (5, .int i), (4, .int u), (3, .int w), (2, .int y), (1, .int x), (0, .ref 0)]) (st' := [.int z802, .int w]) (h' := h) _ hn_106 hk_106_85 rfl ?_
        refine AR.iconstT hk_106_87 (by decide) (fun z805 ez805 => ?_)
        show AR _ _ _ _ _ _ _ 88 [(6, .int z802), (5, .int i), (4, .int u), (3, .int w), (2, .int y), (1, .int x), (0, .ref 0)] [.int z805, .int z802, .int w] h _ _
        have hm1 : z805 = -1 := Int32.toInt_inj.mp (ez805.trans (by decide))
        refine AR.ixor (z := .int (z802 ^^^ z805)) (ax_look_ok hk_106_88).1 rfl ?_
        generalize gzz806 : z802 ^^^ z805 = z806
        show AR _ _ _ _ _ _ _ 89 [(6, .int z802), (5, .int i), (4, .int u), (3, .int w), (2, .int y), (1, .int x), (0, .ref 0)] [.int z806, .int w] h _ _
        refine AR.iand (z := .int (w &&& z806)) (ax_look_ok hk_106_89).1 rfl ?_
        generalize gz807 : w &&& z806 = z807
        show AR _ _ _ _ _ _ _ 90 [(6, .int z802), (5, .int i), (4, .int u), (3, .int w), (2, .int y), (1, .int x), (0, .ref 0)] [.int z807] h _ _
        have ho : z807.toInt = dr V v := by rw [← gz807, wv, ← gzz806, hb, hm1, dra]; exact Int32.toInt_ofNat_of_lt (by omega)
        show AR _ _ _ _ _ _ _ 90 [(6, .int z802), (5, .int i), (4, .int u), (3, .int w), (2, .int y), (1, .int x), (0, .ref 0)] [.int z807] h _ _
        refine AR.s (pc' := 92) (lv' := [(7, .int z807), (6, .int z802), (5, .int i), (4, .int u), (3, .int w), (2, .int y), (1, .int x), (0, .ref 0)]) (st' := []) (h' := h) _ hn_106 hk_106_90 rfl ?_
        refine AR.s (pc' := 93) (lv' := [(7, .int z807), (6, .int z802), (5, .int i), (4, .int u), (3, .int w), (2, .int y), (1, .int x), (0, .ref 0)]) (st' := [.ref 0]) (h' := h) _ hn_106 hk_106_92 rfl ?_
        refine AR.s (pc' := 94) (lv' := [(7, .int z807), (6, .int z802), (5, .int i), (4, .int u), (3, .int w), (2, .int y), (1, .int x), (0, .ref 0)]) (st' := [.int x, .ref 0]) (h' := h) _ hn_106 hk_106_93 rfl ?_
        refine AR.s (pc' := 96) (lv' := [(7, .int z807), (6, .int z802), (5, .int i), (4, .int u), (3, .int w), (2, .int y), (1, .int x), (0, .ref 0)]) (st' := [.int z807, .int x, .ref 0]) (h' := h) _ hn_106 hk_106_94 rfl ?_
        refine AR.iand (z := .int (x &&& z807)) (ax_look_ok hk_106_96).1 rfl ?_
        generalize gz808 : x &&& z807 = z808
        show AR _ _ _ _ _ _ _ 97 [(7, .int z807), (6, .int z802), (5, .int i), (4, .int u), (3, .int w), (2, .int y), (1, .int x), (0, .ref 0)] [.int z808, .ref 0] h _ _
        refine AR.s (pc' := 98) (lv' := [(7, .int z807), (6, .int z802), (5, .int i), (4, .int u), (3, .int w), (2, .int y), (1, .int x), (0, .ref 0)]) (st' := [.int y, .int z808, .ref 0]) (h' := h) _ hn_106 hk_106_97 rfl ?_
        refine AR.s (pc' := 100) (lv' := [(7, .int z807), (6, .int z802), (5, .int i), (4, .int u), (3, .int w), (2, .int y), (1, .int x), (0, .ref 0)]) (st' := [.int z807, .int y, .int z808, .ref 0]) (h' := h) _ hn_106 hk_106_98 rfl ?_
        refine AR.iand (z := .int (y &&& z807)) (ax_look_ok hk_106_100).1 rfl ?_
        generalize gz809 : y &&& z807 = z809
        show AR _ _ _ _ _ _ _ 101 [(7, .int z807), (6, .int z802), (5, .int i), (4, .int u), (3, .int w), (2, .int y), (1, .int x), (0, .ref 0)] [.int z809, .int z808, .ref 0] h _ _
        obtain ⟨y1, y2⟩ := p_an hx hY ho drb
        obtain ⟨n1, n2⟩ := p_an hy hN ho drb
        have y3 : z808.toInt = ((Y &&& dr V v : Nat) : Int) := by rw [← gz808]; exact y1
        have n3 : z809.toInt = ((N &&& dr V v : Nat) : Int) := by rw [← gz809]; exact n1
        obtain ⟨v810, cv810⟩ := p_cell hH (q := 0) (by decide) (by decide +kernel : (ty_tab 0).1 = 8)
        refine AR.jr (r := 0) (as := [.int z808, .int z809]) (rest := []) hk_106_101 (by decide) (by decide +kernel) (by decide) cv810 rfl rfl (Nat.le_of_ble_eq_true rfl) (p_125 hlst hH hI y3 y2 n3 n2) (by decide) (Nat.zero_le _) (Nat.zero_le _) ?_ (fun E h' q => by obtain ⟨-, _, e, -⟩ := q; cases e)
        rintro w g9 ⟨eg, r, er, hr⟩
        cases er
        obtain rfl := eg.symm
        show AR _ _ _ _ _ _ _ 104 [(7, .int z807), (6, .int z802), (5, .int i), (4, .int u), (3, .int w), (2, .int y), (1, .int x), (0, .ref 0)] [.int r] h _ _
        refine AR.zeq hk_106_104 (tgt := 134) (by decide) (fun r1 => ?_) (fun r2 => ?_)
        · have hno2 : ∀ w, w < 64 → ∀ k, k < 64 → hm h (Y &&& dr V v) (N &&& dr V v) w k = false := by rcases hr with ⟨e, -⟩ | ⟨-, e⟩; exact absurd e (by omega); exact e
          have dt := fun k (hk : k < 12) => dr_tb V hV v (by omega) k hk
          refine AR.s (pc' := 136) (lv' := [(7, .int z807), (6, .int z802), (5, .int i), (4, .int u), (3, .int w), (2, .int y), (1, .int x), (0, .ref 0)]) (st' := [.int z807]) (h' := h) _ hn_106 hk_106_134 rfl ?_
          refine AR.s (pc' := 137) (lv' := [(3, .int z807), (7, .int z807), (6, .int z802), (5, .int i), (4, .int u), (2, .int y), (1, .int x), (0, .ref 0)]) (st' := []) (h' := h) _ hn_106 hk_106_136 rfl ?_
          refine AR.iincT hk_106_137 (x := i) rfl (by rw [hn_106]; decide) (by decide) (by omega) (by omega) (fun z811 ez811 => ?_)
          show AR _ _ _ _ _ _ _ 140 [(5, .int z811), (3, .int z807), (7, .int z807), (6, .int z802), (4, .int u), (2, .int y), (1, .int x), (0, .ref 0)] [] h _ _
          refine AR.gotoT hk_106_140 (tgt := 61) (by decide) ?_
          refine AR.lessL (lv' := [(5, .int z811), (4, .int u), (3, .int z807), (2, .int y), (1, .int x), (0, .ref 0)]) (List.forall_mem_cons.mpr ⟨⟨_, by simp, ax_le_rfl rfl⟩, (List.forall_mem_cons.mpr ⟨⟨_, by simp, ax_le_rfl rfl⟩, (List.forall_mem_cons.mpr ⟨⟨_, by simp, ax_le_rfl rfl⟩, (List.forall_mem_cons.mpr ⟨⟨_, by simp, ax_le_rfl rfl⟩, (List.forall_mem_cons.mpr ⟨⟨_, by simp, ax_le_rfl rfl⟩, (List.forall_mem_cons.mpr ⟨⟨_, by simp, ax_le_rfl rfl⟩, (fun _ h => absurd h List.not_mem_nil)⟩)⟩)⟩)⟩)⟩)⟩) ?_
          refine ih (v + 1) z811 u z807 (dr V v) (by omega) (by omega) ho drb (fun k hk => ?_) (fun k hk e => hs k hk (by rw [dt k hk] at e; exact (Bool.and_eq_true_iff.mp e).1)) hno2 (fun t ht e => ?_)
          · rw [hu k hk]
            unfold uV
            rw [dt (k / 2) (by omega)]
            by_cases e : k / 2 = v
            · rw [decide_eq_false (show ¬ (k / 2 < v) by omega), decide_eq_true e]; simp
            · rw [show decide (k / 2 < v + 1) = decide (k / 2 < v) from by rw [decide_eq_decide]; omega, decide_eq_false e, Bool.not_false, Bool.and_true]
          · rw [dt t (by omega)] at e
            obtain ⟨e2, e3⟩ := Bool.and_eq_true_iff.mp e
            have tv : t ≠ v := fun c => by rw [decide_eq_true c] at e3; cases e3
            obtain ⟨w2, k2, a1, a2, a3⟩ := hmi t (by omega) e2
            have sub : ∀ k, k < 12 → (dr (dr V v) t).testBit k = true → (dr V t).testBit k = true := fun k hk e => by
              rw [dr_tb _ drb t (by omega) k hk, dt k hk] at e
              rw [dr_tb V hV t (by omega) k hk]
              obtain ⟨f1, f2⟩ := Bool.and_eq_true_iff.mp e
              rw [(Bool.and_eq_true_iff.mp f1).1, f2]
              rfl
            exact ⟨w2, k2, a1, a2, hm_mo (an_mo sub) (an_mo sub) a3⟩
        · have hmo : ∃ w k, w < 64 ∧ k < 64 ∧ hm h (Y &&& dr V v) (N &&& dr V v) w k = true := by rcases hr with ⟨-, e⟩ | ⟨e, -⟩; exact e; exact absurd e (by omega)
          obtain ⟨dna, dnb, dnc⟩ := p_dra N hN v (by omega)
          have yv : y = Int32.ofNat N := p_of hy hN
          show AR _ _ _ _ _ _ _ 107 [(7, .int z807), (6, .int z802), (5, .int i), (4, .int u), (3, .int w), (2, .int y), (1, .int x), (0, .ref 0)] [] h _ _
          refine AR.s (pc' := 109) (lv' := [(7, .int z807), (6, .int z802), (5, .int i), (4, .int u), (3, .int w), (2, .int y), (1, .int x), (0, .ref 0)]) (st' := [.int u]) (h' := h) _ hn_106 hk_106_107 rfl ?_
          refine AR.iconstT hk_106_109 (by decide) (fun z812 ez812 => ?_)
          show AR _ _ _ _ _ _ _ 110 [(7, .int z807), (6, .int z802), (5, .int i), (4, .int u), (3, .int w), (2, .int y), (1, .int x), (0, .ref 0)] [.int z812, .int u] h _ _
          refine AR.iconstT hk_106_110 (by decide) (fun z813 ez813 => ?_)
          show AR _ _ _ _ _ _ _ 111 [(7, .int z807), (6, .int z802), (5, .int i), (4, .int u), (3, .int w), (2, .int y), (1, .int x), (0, .ref 0)] [.int z813, .int z812, .int u] h _ _
          refine AR.s (pc' := 113) (lv' := [(7, .int z807), (6, .int z802), (5, .int i), (4, .int u), (3, .int w), (2, .int y), (1, .int x), (0, .ref 0)]) (st' := [.int i, .int z813, .int z812, .int u]) (h' := h) _ hn_106 hk_106_111 rfl ?_
          refine AR.mulcT hk_106_113 ez813 (by omega) (by omega) (fun z814 ez814 => ?_)
          show AR _ _ _ _ _ _ _ 114 [(7, .int z807), (6, .int z802), (5, .int i), (4, .int u), (3, .int w), (2, .int y), (1, .int x), (0, .ref 0)] [.int z814, .int z812, .int u] h _ _
          refine AR.s (pc' := 115) (lv' := [(7, .int z807), (6, .int z802), (5, .int i), (4, .int u), (3, .int w), (2, .int y), (1, .int x), (0, .ref 0)]) (st' := [.int y, .int z814, .int z812, .int u]) (h' := h) _ hn_106 hk_106_114 rfl ?_
          refine AR.s (pc' := 117) (lv' := [(7, .int z807), (6, .int z802), (5, .int i), (4, .int u), (3, .int w), (2, .int y), (1, .int x), (0, .ref 0)]) (st' := [.int z802, .int y, .int z814, .int z812, .int u]) (h' := h) _ hn_106 hk_106_115 rfl ?_
          refine AR.iand (z := .int (y &&& z802)) (ax_look_ok hk_106_117).1 rfl ?_
          generalize gz815 : y &&& z802 = z815
          show AR _ _ _ _ _ _ _ 118 [(7, .int z807), (6, .int z802), (5, .int i), (4, .int u), (3, .int w), (2, .int y), (1, .int x), (0, .ref 0)] [.int z815, .int z814, .int z812, .int u] h _ _
          have hq3 : z815.toInt = 0 ↔ N.testBit v = false := by rw [← gz815, yv, hb]; exact dnc
          show AR _ _ _ _ _ _ _ 118 [(7, .int z807), (6, .int z802), (5, .int i), (4, .int u), (3, .int w), (2, .int y), (1, .int x), (0, .ref 0)] [.int z815, .int z814, .int z812, .int u] h _ _
          refine AR.zne hk_106_118 (tgt := 125) (by decide) (fun t1 => ?_) (fun t2 => ?_)
          · have nt : N.testBit v = true := by
              cases e : N.testBit v with
              | true => rfl
              | false => exact absurd (hq3.mpr e) (by omega)
            show AR _ _ _ _ _ _ _ 125 [(7, .int z807), (6, .int z802), (5, .int i), (4, .int u), (3, .int w), (2, .int y), (1, .int x), (0, .ref 0)] [.int z814, .int z812, .int u] h _ _
            refine AR.iconstT hk_106_125 (by decide) (fun z816 ez816 => ?_)
            show AR _ _ _ _ _ _ _ 126 [(7, .int z807), (6, .int z802), (5, .int i), (4, .int u), (3, .int w), (2, .int y), (1, .int x), (0, .ref 0)] [.int z816, .int z814, .int z812, .int u] h _ _
            refine AR.addT hk_106_126 (by omega) (by omega) (fun z817 ez817 => ?_)
            show AR _ _ _ _ _ _ _ 127 [(7, .int z807), (6, .int z802), (5, .int i), (4, .int u), (3, .int w), (2, .int y), (1, .int x), (0, .ref 0)] [.int z817, .int z812, .int u] h _ _
            refine AR.ishl (z := .int (z812 <<< (z817 &&& 31))) (ax_look_ok hk_106_127).1 rfl ?_
            generalize gz818 : z812 <<< (z817 &&& 31) = z818
            show AR _ _ _ _ _ _ _ 128 [(7, .int z807), (6, .int z802), (5, .int i), (4, .int u), (3, .int w), (2, .int y), (1, .int x), (0, .ref 0)] [.int z818, .int u] h _ _
            refine AR.ior (z := .int (u ||| z818)) (ax_look_ok hk_106_128).1 rfl ?_
            generalize gz819 : u ||| z818 = z819
            show AR _ _ _ _ _ _ _ 129 [(7, .int z807), (6, .int z802), (5, .int i), (4, .int u), (3, .int w), (2, .int y), (1, .int x), (0, .ref 0)] [.int z819] h _ _
            refine AR.s (pc' := 131) (lv' := [(4, .int z819), (7, .int z807), (6, .int z802), (5, .int i), (3, .int w), (2, .int y), (1, .int x), (0, .ref 0)]) (st' := []) (h' := h) _ hn_106 hk_106_129 rfl ?_
            refine AR.gotoT hk_106_131 (tgt := 137) (by decide) ?_
            refine AR.iincT hk_106_137 (x := i) rfl (by rw [hn_106]; decide) (by decide) (by omega) (by omega) (fun z820 ez820 => ?_)
            show AR _ _ _ _ _ _ _ 140 [(5, .int z820), (4, .int z819), (7, .int z807), (6, .int z802), (3, .int w), (2, .int y), (1, .int x), (0, .ref 0)] [] h _ _
            refine AR.gotoT hk_106_140 (tgt := 61) (by decide) ?_
            refine AR.lessL (lv' := [(5, .int z820), (4, .int z819), (3, .int w), (2, .int y), (1, .int x), (0, .ref 0)]) (List.forall_mem_cons.mpr ⟨⟨_, by simp, ax_le_rfl rfl⟩, (List.forall_mem_cons.mpr ⟨⟨_, by simp, ax_le_rfl rfl⟩, (List.forall_mem_cons.mpr ⟨⟨_, by simp, ax_le_rfl rfl⟩, (List.forall_mem_cons.mpr ⟨⟨_, by simp, ax_le_rfl rfl⟩, (List.forall_mem_cons.mpr ⟨⟨_, by simp, ax_le_rfl rfl⟩, (List.forall_mem_cons.mpr ⟨⟨_, by simp, ax_le_rfl rfl⟩, (fun _ h => absurd h List.not_mem_nil)⟩)⟩)⟩)⟩)⟩)⟩) ?_
            refine ih (v + 1) z820 z819 w V (by omega) (by omega) hw0 hV (fun k hk => ?_) hs hno (fun t ht e => ?_)
            · rw [← gz819, ib_or, hu k hk, ← gz818, ib_1 (n := 2 * v + 1) ez812 (by omega) (by omega) hk]
              by_cases e : k / 2 = v
              · rw [uV_eq e vt, nt, decide_eq_false (show ¬ (k / 2 < v) by omega), decide_eq_true (show k / 2 < v + 1 by omega), Bool.false_and, Bool.false_or, Bool.true_and]
                by_cases ek : k = 2 * v + 1
                · rw [decide_eq_true ek]; have em : k % 2 = 1 := by omega
                  rw [decide_eq_true em]; rfl
                · rw [decide_eq_false ek]; have em : ¬ (k % 2 = 1) := by omega
                  rw [decide_eq_false em]; rfl
              · rw [decide_eq_false (show ¬ (k = 2 * v + 1) by omega), Bool.or_false, show decide (k / 2 < v + 1) = decide (k / 2 < v) from by rw [decide_eq_decide]; omega]
            · by_cases et : t = v
              · rw [et]; exact hmo
              · exact hmi t (by omega) e
          · have nt : N.testBit v = false := by
              exact hq3.mp (by omega)
            show AR _ _ _ _ _ _ _ 121 [(7, .int z807), (6, .int z802), (5, .int i), (4, .int u), (3, .int w), (2, .int y), (1, .int x), (0, .ref 0)] [.int z814, .int z812, .int u] h _ _
            refine AR.iconstT hk_106_121 (by decide) (fun z821 ez821 => ?_)
            show AR _ _ _ _ _ _ _ 122 [(7, .int z807), (6, .int z802), (5, .int i), (4, .int u), (3, .int w), (2, .int y), (1, .int x), (0, .ref 0)] [.int z821, .int z814, .int z812, .int u] h _ _
            refine AR.gotoT hk_106_122 (tgt := 126) (by decide) ?_
            refine AR.addT hk_106_126 (by omega) (by omega) (fun z822 ez822 => ?_)
            show AR _ _ _ _ _ _ _ 127 [(7, .int z807), (6, .int z802), (5, .int i), (4, .int u), (3, .int w), (2, .int y), (1, .int x), (0, .ref 0)] [.int z822, .int z812, .int u] h _ _
            refine AR.ishl (z := .int (z812 <<< (z822 &&& 31))) (ax_look_ok hk_106_127).1 rfl ?_
            generalize gz823 : z812 <<< (z822 &&& 31) = z823
            show AR _ _ _ _ _ _ _ 128 [(7, .int z807), (6, .int z802), (5, .int i), (4, .int u), (3, .int w), (2, .int y), (1, .int x), (0, .ref 0)] [.int z823, .int u] h _ _
            refine AR.ior (z := .int (u ||| z823)) (ax_look_ok hk_106_128).1 rfl ?_
            generalize gz824 : u ||| z823 = z824
            show AR _ _ _ _ _ _ _ 129 [(7, .int z807), (6, .int z802), (5, .int i), (4, .int u), (3, .int w), (2, .int y), (1, .int x), (0, .ref 0)] [.int z824] h _ _
            refine AR.s (pc' := 131) (lv' := [(4, .int z824), (7, .int z807), (6, .int z802), (5, .int i), (3, .int w), (2, .int y), (1, .int x), (0, .ref 0)]) (st' := []) (h' := h) _ hn_106 hk_106_129 rfl ?_
            refine AR.gotoT hk_106_131 (tgt := 137) (by decide) ?_
            refine AR.iincT hk_106_137 (x := i) rfl (by rw [hn_106]; decide) (by decide) (by omega) (by omega) (fun z825 ez825 => ?_)
            show AR _ _ _ _ _ _ _ 140 [(5, .int z825), (4, .int z824), (7, .int z807), (6, .int z802), (3, .int w), (2, .int y), (1, .int x), (0, .ref 0)] [] h _ _
            refine AR.gotoT hk_106_140 (tgt := 61) (by decide) ?_
            refine AR.lessL (lv' := [(5, .int z825), (4, .int z824), (3, .int w), (2, .int y), (1, .int x), (0, .ref 0)]) (List.forall_mem_cons.mpr ⟨⟨_, by simp, ax_le_rfl rfl⟩, (List.forall_mem_cons.mpr ⟨⟨_, by simp, ax_le_rfl rfl⟩, (List.forall_mem_cons.mpr ⟨⟨_, by simp, ax_le_rfl rfl⟩, (List.forall_mem_cons.mpr ⟨⟨_, by simp, ax_le_rfl rfl⟩, (List.forall_mem_cons.mpr ⟨⟨_, by simp, ax_le_rfl rfl⟩, (List.forall_mem_cons.mpr ⟨⟨_, by simp, ax_le_rfl rfl⟩, (fun _ h => absurd h List.not_mem_nil)⟩)⟩)⟩)⟩)⟩)⟩) ?_
            refine ih (v + 1) z825 z824 w V (by omega) (by omega) hw0 hV (fun k hk => ?_) hs hno (fun t ht e => ?_)
            · rw [← gz824, ib_or, hu k hk, ← gz823, ib_1 (n := 2 * v) ez812 (by omega) (by omega) hk]
              by_cases e : k / 2 = v
              · rw [uV_eq e vt, nt, decide_eq_false (show ¬ (k / 2 < v) by omega), decide_eq_true (show k / 2 < v + 1 by omega), Bool.false_and, Bool.false_or, Bool.true_and]
                by_cases ek : k = 2 * v
                · rw [decide_eq_true ek]; have em : ¬ (k % 2 = 1) := by omega
                  rw [decide_eq_false em]; rfl
                · rw [decide_eq_false ek]; have em : k % 2 = 1 := by omega
                  rw [decide_eq_true em]; rfl
              · rw [decide_eq_false (show ¬ (k = 2 * v) by omega), Bool.or_false, show decide (k / 2 < v + 1) = decide (k / 2 < v) from by rw [decide_eq_decide]; omega]
            · by_cases et : t = v
              · rw [et]; exact hmo
              · exact hmi t (by omega) e
      · have vf : V.testBit v = false := hq.mp (by omega)
        refine AR.gotoT hk_106_81 (tgt := 137) (by decide) ?_
        refine AR.iincT hk_106_137 (x := i) rfl (by rw [hn_106]; decide) (by decide) (by omega) (by omega) (fun z804 ez804 => ?_)
        show AR _ _ _ _ _ _ _ 140 [(5, .int z804), (6, .int z802), (4, .int u), (3, .int w), (2, .int y), (1, .int x), (0, .ref 0)] [] h _ _
        refine AR.gotoT hk_106_140 (tgt := 61) (by decide) ?_
        refine AR.lessL (lv' := [(5, .int z804), (4, .int u), (3, .int w), (2, .int y), (1, .int x), (0, .ref 0)]) (List.forall_mem_cons.mpr ⟨⟨_, by simp, ax_le_rfl rfl⟩, (List.forall_mem_cons.mpr ⟨⟨_, by simp, ax_le_rfl rfl⟩, (List.forall_mem_cons.mpr ⟨⟨_, by simp, ax_le_rfl rfl⟩, (List.forall_mem_cons.mpr ⟨⟨_, by simp, ax_le_rfl rfl⟩, (List.forall_mem_cons.mpr ⟨⟨_, by simp, ax_le_rfl rfl⟩, (List.forall_mem_cons.mpr ⟨⟨_, by simp, ax_le_rfl rfl⟩, (fun _ h => absurd h List.not_mem_nil)⟩)⟩)⟩)⟩)⟩)⟩) ?_
        refine ih (v + 1) z804 u w V (by omega) (by omega) hw0 hV (fun k hk => ?_) hs hno (fun t ht e => ?_)
        · rw [hu k hk]
          by_cases e : k / 2 = v
          · unfold uV
            rw [e, vf, Bool.false_and, Bool.and_false, Bool.and_false]
          · rw [show decide (k / 2 < v + 1) = decide (k / 2 < v) from by rw [decide_eq_decide]; omega]
        · by_cases et : t = v
          · rw [et, vf] at e; cases e
          · exact hmi t (by omega) e
theorem p_106 (hlst : l.stackTraces = false) {Y N : Nat} (hH : hy_H 0 h) (hI : pI h) (hx : x.toInt = Y) (hY : Y < 64) (hy : y.toInt = N) (hN : N < 64) (hYN : Y &&& N = 0) : AM ax_ns l (ax_mm 106) 3 ty_R (1) (6) [.ref 0, .int x, .int y] h (pq_106 h Y N) := by
  refine AM.of (ax_mfacts (by decide +kernel : ax_has 106 = true)).2.2.2.2.2.2 hlst (by rw [hn_106]; exact Nat.le_of_ble_eq_true rfl) ?_
  show AR ax_ns l (ax_mm 106) 3 ty_R _ _ 0 [(0, .ref 0), (1, .int x), (2, .int y)] [] h (1) (6)
  refine AR.s (pc' := 1) (lv' := [(0, .ref 0), (1, .int x), (2, .int y)]) (st' := [.int x]) (h' := h) _ hn_106 hk_106_0 rfl ?_
  refine AR.cs (as := [.int x]) (rest := []) hk_106_1 (by decide +kernel) rfl rfl (Nat.le_of_ble_eq_true rfl) (p_116 hlst (by omega) (by omega)) (by decide) (Nat.zero_le _) (Nat.zero_le _) (fun E h' q => by obtain ⟨-, _, e, -⟩ := q; cases e) ?_
  rintro w9 g9 ⟨eg, r, er, hr⟩
  cases er
  obtain rfl := eg.symm
  show AR _ _ _ _ _ _ _ 4 [(0, .ref 0), (1, .int x), (2, .int y)] [.int r] h _ _
  refine AR.zeq hk_106_4 (tgt := 20) (by decide) (fun p1 => ?_) (fun p2 => ?_)
  · exact absurd p1 (by omega)
  · refine AR.s (pc' := 8) (lv' := [(0, .ref 0), (1, .int x), (2, .int y)]) (st' := [.int y]) (h' := h) _ hn_106 hk_106_7 rfl ?_
    refine AR.cs (as := [.int y]) (rest := []) hk_106_8 (by decide +kernel) rfl rfl (Nat.le_of_ble_eq_true rfl) (p_116 hlst (by omega) (by omega)) (by decide) (Nat.zero_le _) (Nat.zero_le _) (fun E h' q => by obtain ⟨-, _, e, -⟩ := q; cases e) ?_
    rintro w9 g9 ⟨eg, r, er, hr⟩
    cases er
    obtain rfl := eg.symm
    show AR _ _ _ _ _ _ _ 11 [(0, .ref 0), (1, .int x), (2, .int y)] [.int r] h _ _
    refine AR.zeq hk_106_11 (tgt := 20) (by decide) (fun q1 => ?_) (fun q2 => ?_)
    · exact absurd q1 (by omega)
    · refine AR.s (pc' := 15) (lv' := [(0, .ref 0), (1, .int x), (2, .int y)]) (st' := [.int x]) (h' := h) _ hn_106 hk_106_14 rfl ?_
      refine AR.s (pc' := 16) (lv' := [(0, .ref 0), (1, .int x), (2, .int y)]) (st' := [.int y, .int x]) (h' := h) _ hn_106 hk_106_15 rfl ?_
      refine AR.iand (z := .int (x &&& y)) (ax_look_ok hk_106_16).1 rfl ?_
      generalize gz826 : x &&& y = z826
      show AR _ _ _ _ _ _ _ 17 [(0, .ref 0), (1, .int x), (2, .int y)] [.int z826] h _ _
      have az : z826.toInt = 0 := by rw [← gz826, (p_an hx hY hy hN).1, hYN]; rfl
      show AR _ _ _ _ _ _ _ 17 [(0, .ref 0), (1, .int x), (2, .int y)] [.int z826] h _ _
      refine AR.zeq hk_106_17 (tgt := 31) (by decide) (fun r1 => ?_) (fun r2 => ?_)
      · refine AR.s (pc' := 32) (lv' := [(0, .ref 0), (1, .int x), (2, .int y)]) (st' := [.ref 0]) (h' := h) _ hn_106 hk_106_31 rfl ?_
        refine AR.s (pc' := 33) (lv' := [(0, .ref 0), (1, .int x), (2, .int y)]) (st' := [.int x, .ref 0]) (h' := h) _ hn_106 hk_106_32 rfl ?_
        refine AR.s (pc' := 34) (lv' := [(0, .ref 0), (1, .int x), (2, .int y)]) (st' := [.int y, .int x, .ref 0]) (h' := h) _ hn_106 hk_106_33 rfl ?_
        obtain ⟨v827, cv827⟩ := p_cell hH (q := 0) (by decide) (by decide +kernel : (ty_tab 0).1 = 8)
        refine AR.jr (r := 0) (as := [.int x, .int y]) (rest := []) hk_106_34 (by decide) (by decide +kernel) (by decide) cv827 rfl rfl (Nat.le_of_ble_eq_true rfl) (p_125 hlst hH hI hx hY hy hN) (by decide) (Nat.zero_le _) (Nat.zero_le _) ?_ (fun E h' q => by obtain ⟨-, _, e, -⟩ := q; cases e)
        rintro w g9 ⟨eg, r2, er, hr2⟩
        cases er
        obtain rfl := eg.symm
        show AR _ _ _ _ _ _ _ 37 [(0, .ref 0), (1, .int x), (2, .int y)] [.int r2] h _ _
        refine AR.zeq hk_106_37 (tgt := 51) (by decide) (fun s1 => ?_) (fun s2 => ?_)
        · have h0 : ∀ w, w < 64 → ∀ k, k < 64 → hm h Y N w k = false := by rcases hr2 with ⟨e, -⟩ | ⟨-, e⟩; exact absurd e (by omega); exact e
          refine AR.s (pc' := 52) (lv' := [(0, .ref 0), (1, .int x), (2, .int y)]) (st' := [.int x]) (h' := h) _ hn_106 hk_106_51 rfl ?_
          refine AR.s (pc' := 53) (lv' := [(0, .ref 0), (1, .int x), (2, .int y)]) (st' := [.int y, .int x]) (h' := h) _ hn_106 hk_106_52 rfl ?_
          refine AR.ior (z := .int (x ||| y)) (ax_look_ok hk_106_53).1 rfl ?_
          generalize gz828 : x ||| y = z828
          show AR _ _ _ _ _ _ _ 54 [(0, .ref 0), (1, .int x), (2, .int y)] [.int z828] h _ _
          refine AR.s (pc' := 55) (lv' := [(3, .int z828), (0, .ref 0), (1, .int x), (2, .int y)]) (st' := []) (h' := h) _ hn_106 hk_106_54 rfl ?_
          refine AR.iconstT hk_106_55 (by decide) (fun z829 ez829 => ?_)
          show AR _ _ _ _ _ _ _ 56 [(3, .int z828), (0, .ref 0), (1, .int x), (2, .int y)] [.int z829] h _ _
          refine AR.s (pc' := 58) (lv' := [(4, .int z829), (3, .int z828), (0, .ref 0), (1, .int x), (2, .int y)]) (st' := []) (h' := h) _ hn_106 hk_106_56 rfl ?_
          refine AR.iconstT hk_106_58 (by decide) (fun z830 ez830 => ?_)
          show AR _ _ _ _ _ _ _ 59 [(4, .int z829), (3, .int z828), (0, .ref 0), (1, .int x), (2, .int y)] [.int z830] h _ _
          refine AR.s (pc' := 61) (lv' := [(5, .int z830), (4, .int z829), (3, .int z828), (0, .ref 0), (1, .int x), (2, .int y)]) (st' := []) (h' := h) _ hn_106 hk_106_59 rfl ?_
          refine AR.lessL (lv' := [(5, .int z830), (4, .int z829), (3, .int z828), (2, .int y), (1, .int x), (0, .ref 0)]) (List.forall_mem_cons.mpr ⟨⟨_, by simp, ax_le_rfl rfl⟩, (List.forall_mem_cons.mpr ⟨⟨_, by simp, ax_le_rfl rfl⟩, (List.forall_mem_cons.mpr ⟨⟨_, by simp, ax_le_rfl rfl⟩, (List.forall_mem_cons.mpr ⟨⟨_, by simp, ax_le_rfl rfl⟩, (List.forall_mem_cons.mpr ⟨⟨_, by simp, ax_le_rfl rfl⟩, (List.forall_mem_cons.mpr ⟨⟨_, by simp, ax_le_rfl rfl⟩, (fun _ h => absurd h List.not_mem_nil)⟩)⟩)⟩)⟩)⟩)⟩) ?_
          obtain ⟨o1, o2⟩ := p_or hx hY hy hN
          obtain ⟨b1, b2⟩ := p_orb Y hY N hN
          have u0 : z829 = 0 := Int32.toInt_inj.mp (ez829.trans (by decide))
          exact p106_L hlst hH hI hx hY hy hN hYN h0 12 0 z830 z829 z828 (Y ||| N) (by omega) (by omega) (by rw [← gz828]; exact o1) o2 (fun k hk => by rw [u0, ib_0, decide_eq_false (by omega), Bool.false_and]) (fun k _ e => e) (by rw [b1, b2]; exact h0) (fun t ht => absurd ht (by omega))
        · have hmo : ∃ w k, w < 64 ∧ k < 64 ∧ hm h Y N w k = true := by rcases hr2 with ⟨-, e⟩ | ⟨e, -⟩; exact e; exact absurd e (by omega)
          exact AR.at (Or.inr (Or.inr (Or.inr (Or.inr (Or.inr ⟨_, ax_thr_ok (106, 40, 4) (by decide), by decide +kernel, by decide, by decide, by decide, ⟨hy_app hH _, pf_push, Or.inl ⟨rfl, hmo⟩⟩⟩)))))
      · exact absurd az (by omega)
abbrev hy_c6 : ax_Cl := (RX6, TX6, 9, tyX6)
/-- the text -/
def t_B (h : ax_H) (p : Int) : Int := if 0 ≤ p ∧ p < hy_z h 1 1 then hy_z h 2 p.toNat else -1
def t_dig (c : Int) : Bool := decide (48 ≤ c) && decide (c ≤ 57)
def t_sy (c d : Int) : Int × Int := if c < 0 then (0, 0) else if c = 43 then (4, 1) else if c = 45 then (5, 1) else if c = 126 then (6, 1) else if c = 61 then (9, 1) else if c = 62 ∧ d = 61 then (7, 2) else if c = 60 ∧ d = 61 then (8, 2) else (1, 0)
theorem t_Bp {c : List Nat} {g : ax_H} (P : pf c h g) (h1 : ¬ 1 ∈ c) (h2 : ¬ 2 ∈ c) : t_B g = t_B h := by
  funext p
  unfold t_B
  rw [P.z h1 1, P.z h2 p.toNat]
theorem t_B_lt (hH : hy_H 0 h) {p : Int} (hp : 200 ≤ p) : t_B h p = -1 := by
  obtain ⟨i, e1, e2, e3⟩ := hy_int hH (q := 1) (n := 2) (j := 1) (a := 0) (z := 200) (by decide) (by decide +kernel) (by decide) (by decide +kernel)
  have e4 := hy_zi e1
  unfold t_B
  rw [if_neg (by omega)]
theorem hf_put {h g : ax_H} {q j : Nat} {v : Int32} (E : ∀ q' j', ty_fd g q' j' = if q' = q ∧ j' = j then some (.int v) else ty_fd h q' j') (j' : Nat) : hy_z g q j' = if j' = j then v.toInt else hy_z h q j' := by
  by_cases e : j' = j
  · rw [if_pos e]
    exact hy_zi (by rw [E, if_pos ⟨rfl, e⟩])
  · rw [if_neg e]
    exact hy_ze (by rw [E, if_neg (fun c => e c.2)])
theorem q_c1 (hH : hy_H 0 h) : ∃ vs, h[1]? = some (7, vs) := p_cell hH (by decide) (by decide +kernel)
theorem q_c3 (hH : hy_H 0 h) : ∃ vs, h[3]? = some (6, vs) := p_cell hH (by decide) (by decide +kernel)
theorem q_68 (hlst : l.stackTraces = false) (hH : hy_H 0 h) : AM ax_ns l (ax_mm 68) 0 ty_R (0) (0) [.ref 1, .int x] h (fun res g => g = h ∧ ∃ z : Int32, res = .inl (some (.int z)) ∧ z.toInt = t_B h x.toInt) := by
  refine AM.of (ax_mfacts (by decide +kernel : ax_has 68 = true)).2.2.2.2.2.2 hlst (by rw [hn_68]; exact Nat.le_of_ble_eq_true rfl) ?_
  show AR ax_ns l (ax_mm 68) 0 ty_R _ _ 0 [(0, .ref 1), (1, .int x)] [] h (0) (0)
  refine AR.s (pc' := 1) (lv' := [(0, .ref 1), (1, .int x)]) (st' := [.int x]) (h' := h) _ hn_68 hk_68_0 rfl ?_
  refine AR.zlt hk_68_1 (tgt := 21) (by decide) (fun p1 => ?_) (fun p2 => ?_)
  · refine AR.iconstT hk_68_21 (by decide) (fun z831 ez831 => ?_)
    show AR _ _ _ _ _ _ _ 22 [(0, .ref 1), (1, .int x)] [.int z831] h _ _
    exact AR.iret hk_68_22 hr_68 ⟨rfl, _, rfl, by unfold t_B; rw [if_neg (by omega)]; omega⟩
  · refine AR.s (pc' := 5) (lv' := [(0, .ref 1), (1, .int x)]) (st' := [.int x]) (h' := h) _ hn_68 hk_68_4 rfl ?_
    refine AR.s (pc' := 6) (lv' := [(0, .ref 1), (1, .int x)]) (st' := [.ref 1, .int x]) (h' := h) _ hn_68 hk_68_5 rfl ?_
    refine AR.gI hk_68_6 (by decide) hH (q := 1) (n := 2) (by decide) (by decide +kernel) (by decide +kernel) (by decide) hy_t1_1 (fun x832 dx832 lx832 ux832 => ?_)
    show AR _ _ _ _ _ _ _ 9 [(0, .ref 1), (1, .int x)] [.int x832, .int x] h _ _
    have sx832 := hy_zi dx832
    refine AR.jge hk_68_9 (tgt := 21) (by decide) (fun p3 => ?_) (fun p4 => ?_)
    · refine AR.iconstT hk_68_21 (by decide) (fun z833 ez833 => ?_)
      show AR _ _ _ _ _ _ _ 22 [(0, .ref 1), (1, .int x)] [.int z833] h _ _
      exact AR.iret hk_68_22 hr_68 ⟨rfl, _, rfl, by unfold t_B; rw [if_neg (by omega)]; omega⟩
    · refine AR.s (pc' := 13) (lv' := [(0, .ref 1), (1, .int x)]) (st' := [.ref 1]) (h' := h) _ hn_68 hk_68_12 rfl ?_
      refine AR.gR hk_68_13 (by decide) hH (q := 1) (n := 2) (by decide) (by decide +kernel) (by decide +kernel) (by decide) hy_t1_0 ?_
      show AR _ _ _ _ _ _ _ 16 [(0, .ref 1), (1, .int x)] [.ref 2] h _ _
      refine AR.s (pc' := 17) (lv' := [(0, .ref 1), (1, .int x)]) (st' := [.int x, .ref 2]) (h' := h) _ hn_68 hk_68_16 rfl ?_
      refine AR.iaI hk_68_17 hH (q := 2) (n := 200) (by decide) (by decide +kernel) (by decide +kernel) (by decide +kernel) hy_t2_0 (by omega) (by omega) (fun x834 dx834 lx834 ux834 => ?_)
      show AR _ _ _ _ _ _ _ 18 [(0, .ref 1), (1, .int x)] [.int x834] h _ _
      refine AR.gotoT hk_68_18 (tgt := 22) (by decide) ?_
      have xk : x.toNatClampNeg = x.toInt.toNat := rfl
      rw [xk] at dx834
      exact AR.iret hk_68_22 hr_68 ⟨rfl, _, rfl, by unfold t_B; rw [if_pos (by omega)]; exact (hy_zi dx834).symm⟩
theorem q_65 (hlst : l.stackTraces = false)  : AM ax_ns l (ax_mm 65) 0 ty_R (0) (0) [.int x] h (fun res g => g = h ∧ ∃ z : Int32, res = .inl (some (.int z)) ∧ ((z.toInt = 1 ∧ t_dig x.toInt = true) ∨ (z.toInt = 0 ∧ t_dig x.toInt = false))) := by
  refine AM.of (ax_mfacts (by decide +kernel : ax_has 65 = true)).2.2.2.2.2.2 hlst (by rw [hn_65]; exact Nat.le_of_ble_eq_true rfl) ?_
  show AR ax_ns l (ax_mm 65) 0 ty_R _ _ 0 [(0, .int x)] [] h (0) (0)
  refine AR.s (pc' := 1) (lv' := [(0, .int x)]) (st' := [.int x]) (h' := h) _ hn_65 hk_65_0 rfl ?_
  refine AR.bipushT hk_65_1 (by decide) (fun z835 ez835 => ?_)
  show AR _ _ _ _ _ _ _ 3 [(0, .int x)] [.int z835, .int x] h _ _
  refine AR.jlt hk_65_3 (tgt := 16) (by decide) (fun p1 => ?_) (fun p2 => ?_)
  · refine AR.iconstT hk_65_16 (by decide) (fun z836 ez836 => ?_)
    show AR _ _ _ _ _ _ _ 17 [(0, .int x)] [.int z836] h _ _
    exact AR.zret hk_65_17 hr_65 (Or.inl (by omega)) ⟨rfl, _, rfl, Or.inr ⟨by omega, by unfold t_dig; rw [Bool.and_eq_false_iff]; simp only [decide_eq_false_iff_not]; omega⟩⟩
  · refine AR.s (pc' := 7) (lv' := [(0, .int x)]) (st' := [.int x]) (h' := h) _ hn_65 hk_65_6 rfl ?_
    refine AR.bipushT hk_65_7 (by decide) (fun z837 ez837 => ?_)
    show AR _ _ _ _ _ _ _ 9 [(0, .int x)] [.int z837, .int x] h _ _
    refine AR.jgt hk_65_9 (tgt := 16) (by decide) (fun p3 => ?_) (fun p4 => ?_)
    · refine AR.iconstT hk_65_16 (by decide) (fun z838 ez838 => ?_)
      show AR _ _ _ _ _ _ _ 17 [(0, .int x)] [.int z838] h _ _
      exact AR.zret hk_65_17 hr_65 (Or.inl (by omega)) ⟨rfl, _, rfl, Or.inr ⟨by omega, by unfold t_dig; rw [Bool.and_eq_false_iff]; simp only [decide_eq_false_iff_not]; omega⟩⟩
    · refine AR.iconstT hk_65_12 (by decide) (fun z839 ez839 => ?_)
      show AR _ _ _ _ _ _ _ 13 [(0, .int x)] [.int z839] h _ _
      refine AR.gotoT hk_65_13 (tgt := 17) (by decide) ?_
      exact AR.zret hk_65_17 hr_65 (Or.inr (by omega)) ⟨rfl, _, rfl, Or.inl ⟨by omega, by unfold t_dig; rw [Bool.and_eq_true]; simp only [decide_eq_true_eq]; omega⟩⟩
/-- what a token leaves of the reader: the relation and the bound -/
def q_k (h g : ax_H) : Prop := hy_z g 3 7 = hy_z h 3 7 ∧ hy_z g 3 8 = hy_z h 3 8
def q_tk (h : ax_H) (t p : Int) : ax_Q := fun res g => res = .inl none ∧ hy_H 0 g ∧ pf [3] h g ∧ q_k h g ∧ hy_z g 3 1 = p ∧ hy_z g 3 2 = t ∧ hy_z g 3 4 = hy_z h 3 4 ∧ hy_z g 3 5 = hy_z h 3 5
theorem q_64 (hlst : l.stackTraces = false) (hH : hy_H 0 h) (x0 : 0 ≤ x.toInt) (x9 : x.toInt ≤ 9) (y0 : 0 ≤ y.toInt) (h0 : 0 ≤ hy_z h 3 1) (y2 : hy_z h 3 1 + y.toInt ≤ 201) : AM ax_ns l (ax_mm 64) 0 ty_R (0) (0) [.ref 3, .int x, .int y] h (q_tk h x.toInt (hy_z h 3 1 + y.toInt)) := by
  refine AM.of (ax_mfacts (by decide +kernel : ax_has 64 = true)).2.2.2.2.2.2 hlst (by rw [hn_64]; exact Nat.le_of_ble_eq_true rfl) ?_
  show AR ax_ns l (ax_mm 64) 0 ty_R _ _ 0 [(0, .ref 3), (1, .int x), (2, .int y)] [] h (0) (0)
  have F : ty_F pW h h := ty_F_refl _ _
  have P0 : pf [3] h h := pf_r _ _
  show AR _ _ _ _ _ _ _ 0 [(0, .ref 3), (1, .int x), (2, .int y)] [] h _ _
  refine AR.s (pc' := 1) (lv' := [(0, .ref 3), (1, .int x), (2, .int y)]) (st' := [.ref 3]) (h' := h) _ hn_64 hk_64_0 rfl ?_
  refine AR.s (pc' := 2) (lv' := [(0, .ref 3), (1, .int x), (2, .int y)]) (st' := [.int x, .ref 3]) (h' := h) _ hn_64 hk_64_1 rfl ?_
  have r840a := Int32.le_toInt x
  have r840b := Int32.toInt_lt x
  refine AR.pT hk_64_2 (by decide) hH F (q := 3) (by decide) (by decide +kernel) (show ax_cls[6]? = some hy_c6 from rfl) (by decide +kernel) (by decide) rfl (by rw [hy_t3_2]; exact ⟨_, rfl, by omega, by omega, Or.inl rfl⟩) (by decide +kernel) (by decide +kernel) ?_
  rintro g841 ⟨Hg841, Fg841, Gg841, Eg841⟩
  show AR _ _ _ _ _ _ _ 5 [(0, .ref 3), (1, .int x), (2, .int y)] [] g841 _ _
  have pg841 : pf [3] h g841 := pf_st P0 Gg841.1 Eg841 (by simp)
  have zg841_1 : hy_z g841 3 1 = hy_z h 3 1 := (hf_put Eg841 1).trans (if_neg (by decide))
  have zg841_2 : hy_z g841 3 2 = x.toInt := (hf_put Eg841 2).trans (if_pos rfl)
  have zg841_4 : hy_z g841 3 4 = hy_z h 3 4 := (hf_put Eg841 4).trans (if_neg (by decide))
  have zg841_5 : hy_z g841 3 5 = hy_z h 3 5 := (hf_put Eg841 5).trans (if_neg (by decide))
  have zg841_7 : hy_z g841 3 7 = hy_z h 3 7 := (hf_put Eg841 7).trans (if_neg (by decide))
  have zg841_8 : hy_z g841 3 8 = hy_z h 3 8 := (hf_put Eg841 8).trans (if_neg (by decide))
  show AR _ _ _ _ _ _ _ 5 [(0, .ref 3), (1, .int x), (2, .int y)] [] g841 _ _
  refine AR.s (pc' := 6) (lv' := [(0, .ref 3), (1, .int x), (2, .int y)]) (st' := [.ref 3]) (h' := g841) _ hn_64 hk_64_5 rfl ?_
  refine AR.s (pc' := 7) (lv' := [(0, .ref 3), (1, .int x), (2, .int y)]) (st' := [.ref 3, .ref 3]) (h' := g841) _ hn_64 hk_64_6 rfl ?_
  refine AR.gI hk_64_7 (by decide) Hg841 (q := 3) (n := 9) (by decide) (by decide +kernel) (by decide +kernel) (by decide) hy_t3_1 (fun x842 dx842 lx842 ux842 => ?_)
  show AR _ _ _ _ _ _ _ 10 [(0, .ref 3), (1, .int x), (2, .int y)] [.int x842, .ref 3] g841 _ _
  have sx842 := hy_zi dx842
  refine AR.s (pc' := 11) (lv' := [(0, .ref 3), (1, .int x), (2, .int y)]) (st' := [.int y, .int x842, .ref 3]) (h' := g841) _ hn_64 hk_64_10 rfl ?_
  refine AR.addT hk_64_11 (by omega) (by omega) (fun z843 ez843 => ?_)
  show AR _ _ _ _ _ _ _ 12 [(0, .ref 3), (1, .int x), (2, .int y)] [.int z843, .ref 3] g841 _ _
  have r844a := Int32.le_toInt z843
  have r844b := Int32.toInt_lt z843
  refine AR.pT hk_64_12 (by decide) Hg841 Fg841 (q := 3) (by decide) (by decide +kernel) (show ax_cls[6]? = some hy_c6 from rfl) (by decide +kernel) (by decide) rfl (by rw [hy_t3_1]; exact ⟨_, rfl, by omega, by omega, Or.inl rfl⟩) (by decide +kernel) (by decide +kernel) ?_
  rintro g845 ⟨Hg845, Fg845, Gg845, Eg845⟩
  show AR _ _ _ _ _ _ _ 15 [(0, .ref 3), (1, .int x), (2, .int y)] [] g845 _ _
  have pg845 : pf [3] h g845 := pf_st pg841 Gg845.1 Eg845 (by simp)
  have zg845_1 : hy_z g845 3 1 = z843.toInt := (hf_put Eg845 1).trans (if_pos rfl)
  have zg845_2 : hy_z g845 3 2 = hy_z g841 3 2 := (hf_put Eg845 2).trans (if_neg (by decide))
  have zg845_4 : hy_z g845 3 4 = hy_z g841 3 4 := (hf_put Eg845 4).trans (if_neg (by decide))
  have zg845_5 : hy_z g845 3 5 = hy_z g841 3 5 := (hf_put Eg845 5).trans (if_neg (by decide))
  have zg845_7 : hy_z g845 3 7 = hy_z g841 3 7 := (hf_put Eg845 7).trans (if_neg (by decide))
  have zg845_8 : hy_z g845 3 8 = hy_z g841 3 8 := (hf_put Eg845 8).trans (if_neg (by decide))
  show AR _ _ _ _ _ _ _ 15 [(0, .ref 3), (1, .int x), (2, .int y)] [] g845 _ _
  exact AR.vret hk_64_15 hr_64 ⟨rfl, Hg845, pg845, ⟨by omega, by omega⟩, by omega, by omega, by omega, by omega⟩
theorem q_63 (hlst : l.stackTraces = false) (hH : hy_H 0 h) (h0 : 0 ≤ hy_z h 3 1) (h2 : hy_z h 3 1 ≤ 199) (hx : x.toInt = t_B h (hy_z h 3 1)) : AM ax_ns l (ax_mm 63) 1 ty_R (0) (0) [.ref 3, .int x] h (q_tk h (t_sy (t_B h (hy_z h 3 1)) (t_B h (hy_z h 3 1 + 1))).1 (hy_z h 3 1 + (t_sy (t_B h (hy_z h 3 1)) (t_B h (hy_z h 3 1 + 1))).2)) := by
  refine AM.of (ax_mfacts (by decide +kernel : ax_has 63 = true)).2.2.2.2.2.2 hlst (by rw [hn_63]; exact Nat.le_of_ble_eq_true rfl) ?_
  show AR ax_ns l (ax_mm 63) 1 ty_R _ _ 0 [(0, .ref 3), (1, .int x)] [] h (0) (0)
  rw [← hx]
  show AR _ _ _ _ _ _ _ 0 [(0, .ref 3), (1, .int x)] [] h _ _
  refine AR.s (pc' := 1) (lv' := [(0, .ref 3), (1, .int x)]) (st' := [.ref 3]) (h' := h) _ hn_63 hk_63_0 rfl ?_
  refine AR.gR hk_63_1 (by decide) hH (q := 3) (n := 9) (by decide) (by decide +kernel) (by decide +kernel) (by decide) hy_t3_0 ?_
  show AR _ _ _ _ _ _ _ 4 [(0, .ref 3), (1, .int x)] [.ref 1] h _ _
  refine AR.s (pc' := 5) (lv' := [(0, .ref 3), (1, .int x)]) (st' := [.ref 3, .ref 1]) (h' := h) _ hn_63 hk_63_4 rfl ?_
  refine AR.gI hk_63_5 (by decide) hH (q := 3) (n := 9) (by decide) (by decide +kernel) (by decide +kernel) (by decide) hy_t3_1 (fun x846 dx846 lx846 ux846 => ?_)
  show AR _ _ _ _ _ _ _ 8 [(0, .ref 3), (1, .int x)] [.int x846, .ref 1] h _ _
  have sx846 := hy_zi dx846
  refine AR.iconstT hk_63_8 (by decide) (fun z847 ez847 => ?_)
  show AR _ _ _ _ _ _ _ 9 [(0, .ref 3), (1, .int x)] [.int z847, .int x846, .ref 1] h _ _
  refine AR.addT hk_63_9 (by omega) (by omega) (fun z848 ez848 => ?_)
  show AR _ _ _ _ _ _ _ 10 [(0, .ref 3), (1, .int x)] [.int z848, .ref 1] h _ _
  obtain ⟨vc852, cc852⟩ := q_c1 hH
  refine AR.jr (r := 1) (as := [.int z848]) (rest := []) hk_63_10 (by decide) (by decide +kernel) (by decide) cc852 rfl rfl (Nat.le_of_ble_eq_true rfl) (q_68 hlst hH) (by decide) (Nat.zero_le _) (Nat.zero_le _) ?_ (fun E h' q => by obtain ⟨-, x, e, -⟩ := q; cases e)
  rintro w850 g851 ⟨eg851, z849, e, ez849⟩
  cases e
  obtain rfl := eg851.symm
  show AR _ _ _ _ _ _ _ 13 [(0, .ref 3), (1, .int x)] [.int z849] h _ _
  have ed : t_B h (hy_z h 3 1 + 1) = z849.toInt := by rw [ez849]; congr 1; omega
  rw [ed]
  show AR _ _ _ _ _ _ _ 13 [(0, .ref 3), (1, .int x)] [.int z849] h _ _
  refine AR.bipushT hk_63_13 (by decide) (fun z853 ez853 => ?_)
  show AR _ _ _ _ _ _ _ 15 [(0, .ref 3), (1, .int x)] [.int z853, .int z849] h _ _
  refine AR.jne hk_63_15 (tgt := 22) (by decide) (fun p1 => ?_) (fun p2 => ?_)
  · refine AR.iconstT hk_63_22 (by decide) (fun z854 ez854 => ?_)
    show AR _ _ _ _ _ _ _ 23 [(0, .ref 3), (1, .int x)] [.int z854] h _ _
    refine AR.s (pc' := 24) (lv' := [(2, .int z854), (0, .ref 3), (1, .int x)]) (st' := []) (h' := h) _ hn_63 hk_63_23 rfl ?_
    refine AR.s (pc' := 25) (lv' := [(2, .int z854), (0, .ref 3), (1, .int x)]) (st' := [.int x]) (h' := h) _ hn_63 hk_63_24 rfl ?_
    refine AR.zge hk_63_25 (tgt := 37) (by decide) (fun n0 => ?_) (fun m0 => ?_)
    · refine AR.s (pc' := 38) (lv' := [(2, .int z854), (0, .ref 3), (1, .int x)]) (st' := [.int x]) (h' := h) _ hn_63 hk_63_37 rfl ?_
      refine AR.bipushT hk_63_38 (by decide) (fun z858 ez858 => ?_)
      show AR _ _ _ _ _ _ _ 40 [(2, .int z854), (0, .ref 3), (1, .int x)] [.int z858, .int x] h _ _
      refine AR.jne hk_63_40 (tgt := 52) (by decide) (fun n1 => ?_) (fun mn1 => ?_)
      · refine AR.s (pc' := 53) (lv' := [(2, .int z854), (0, .ref 3), (1, .int x)]) (st' := [.int x]) (h' := h) _ hn_63 hk_63_52 rfl ?_
        refine AR.bipushT hk_63_53 (by decide) (fun z862 ez862 => ?_)
        show AR _ _ _ _ _ _ _ 55 [(2, .int z854), (0, .ref 3), (1, .int x)] [.int z862, .int x] h _ _
        refine AR.jne hk_63_55 (tgt := 67) (by decide) (fun n2 => ?_) (fun mn2 => ?_)
        · refine AR.s (pc' := 68) (lv' := [(2, .int z854), (0, .ref 3), (1, .int x)]) (st' := [.int x]) (h' := h) _ hn_63 hk_63_67 rfl ?_
          refine AR.bipushT hk_63_68 (by decide) (fun z866 ez866 => ?_)
          show AR _ _ _ _ _ _ _ 70 [(2, .int z854), (0, .ref 3), (1, .int x)] [.int z866, .int x] h _ _
          refine AR.jne hk_63_70 (tgt := 83) (by decide) (fun n3 => ?_) (fun mn3 => ?_)
          · refine AR.s (pc' := 84) (lv' := [(2, .int z854), (0, .ref 3), (1, .int x)]) (st' := [.int x]) (h' := h) _ hn_63 hk_63_83 rfl ?_
            refine AR.bipushT hk_63_84 (by decide) (fun z870 ez870 => ?_)
            show AR _ _ _ _ _ _ _ 86 [(2, .int z854), (0, .ref 3), (1, .int x)] [.int z870, .int x] h _ _
            refine AR.jne hk_63_86 (tgt := 99) (by decide) (fun n4 => ?_) (fun mn4 => ?_)
            · refine AR.s (pc' := 100) (lv' := [(2, .int z854), (0, .ref 3), (1, .int x)]) (st' := [.int x]) (h' := h) _ hn_63 hk_63_99 rfl ?_
              refine AR.bipushT hk_63_100 (by decide) (fun z874 ez874 => ?_)
              show AR _ _ _ _ _ _ _ 102 [(2, .int z854), (0, .ref 3), (1, .int x)] [.int z874, .int x] h _ _
              refine AR.jne hk_63_102 (tgt := 119) (by decide) (fun n5 => ?_) (fun mn5 => ?_)
              · refine AR.s (pc' := 120) (lv' := [(2, .int z854), (0, .ref 3), (1, .int x)]) (st' := [.int x]) (h' := h) _ hn_63 hk_63_119 rfl ?_
                refine AR.bipushT hk_63_120 (by decide) (fun z879 ez879 => ?_)
                show AR _ _ _ _ _ _ _ 122 [(2, .int z854), (0, .ref 3), (1, .int x)] [.int z879, .int x] h _ _
                refine AR.jne hk_63_122 (tgt := 139) (by decide) (fun n6 => ?_) (fun mn6 => ?_)
                · refine AR.s (pc' := 140) (lv' := [(2, .int z854), (0, .ref 3), (1, .int x)]) (st' := [.ref 3]) (h' := h) _ hn_63 hk_63_139 rfl ?_
                  refine AR.iconstT hk_63_140 (by decide) (fun z883 ez883 => ?_)
                  show AR _ _ _ _ _ _ _ 141 [(2, .int z854), (0, .ref 3), (1, .int x)] [.int z883, .ref 3] h _ _
                  refine AR.iconstT hk_63_141 (by decide) (fun z884 ez884 => ?_)
                  show AR _ _ _ _ _ _ _ 142 [(2, .int z854), (0, .ref 3), (1, .int x)] [.int z884, .int z883, .ref 3] h _ _
                  obtain ⟨vc885, cc885⟩ := q_c3 hH
                  refine AR.jr (r := 3) (as := [.int z883, .int z884]) (rest := []) hk_63_142 (by decide) (by decide +kernel) (by decide) cc885 rfl rfl (Nat.le_of_ble_eq_true rfl) (q_64 hlst hH (by omega) (by omega) (by omega) h0 (by omega)) (by decide) (Nat.zero_le _) (Nat.zero_le _) ?_ (fun E h' q => by cases q.1)
                  rintro w g ⟨e, Hg, Pg, Kg, a1, a2, a3, a4⟩
                  cases e
                  show AR _ _ _ _ _ _ _ 145 [(2, .int z854), (0, .ref 3), (1, .int x)] [] g _ _
                  have es : t_sy x.toInt z849.toInt = (1, 0) := by unfold t_sy; (repeat' split) <;> first | rfl | (exfalso; omega)
                  rw [es]
                  exact AR.vret hk_63_145 hr_63 ⟨rfl, Hg, Pg, Kg, by omega, by omega, a3, a4⟩
                · refine AR.s (pc' := 126) (lv' := [(2, .int z854), (0, .ref 3), (1, .int x)]) (st' := [.int z854]) (h' := h) _ hn_63 hk_63_125 rfl ?_
                  refine AR.zeq hk_63_126 (tgt := 139) (by decide) (fun kn6 => ?_) (fun ln6 => ?_)
                  · refine AR.s (pc' := 140) (lv' := [(2, .int z854), (0, .ref 3), (1, .int x)]) (st' := [.ref 3]) (h' := h) _ hn_63 hk_63_139 rfl ?_
                    refine AR.iconstT hk_63_140 (by decide) (fun z880 ez880 => ?_)
                    show AR _ _ _ _ _ _ _ 141 [(2, .int z854), (0, .ref 3), (1, .int x)] [.int z880, .ref 3] h _ _
                    refine AR.iconstT hk_63_141 (by decide) (fun z881 ez881 => ?_)
                    show AR _ _ _ _ _ _ _ 142 [(2, .int z854), (0, .ref 3), (1, .int x)] [.int z881, .int z880, .ref 3] h _ _
                    obtain ⟨vc882, cc882⟩ := q_c3 hH
                    refine AR.jr (r := 3) (as := [.int z880, .int z881]) (rest := []) hk_63_142 (by decide) (by decide +kernel) (by decide) cc882 rfl rfl (Nat.le_of_ble_eq_true rfl) (q_64 hlst hH (by omega) (by omega) (by omega) h0 (by omega)) (by decide) (Nat.zero_le _) (Nat.zero_le _) ?_ (fun E h' q => by cases q.1)
                    rintro w g ⟨e, Hg, Pg, Kg, a1, a2, a3, a4⟩
                    cases e
                    show AR _ _ _ _ _ _ _ 145 [(2, .int z854), (0, .ref 3), (1, .int x)] [] g _ _
                    have es : t_sy x.toInt z849.toInt = (1, 0) := by unfold t_sy; (repeat' split) <;> first | rfl | (exfalso; omega)
                    rw [es]
                    exact AR.vret hk_63_145 hr_63 ⟨rfl, Hg, Pg, Kg, by omega, by omega, a3, a4⟩
                  · exact absurd ln6 (by omega)
              · refine AR.s (pc' := 106) (lv' := [(2, .int z854), (0, .ref 3), (1, .int x)]) (st' := [.int z854]) (h' := h) _ hn_63 hk_63_105 rfl ?_
                refine AR.zeq hk_63_106 (tgt := 119) (by decide) (fun kn5 => ?_) (fun ln5 => ?_)
                · refine AR.s (pc' := 120) (lv' := [(2, .int z854), (0, .ref 3), (1, .int x)]) (st' := [.int x]) (h' := h) _ hn_63 hk_63_119 rfl ?_
                  refine AR.bipushT hk_63_120 (by decide) (fun z875 ez875 => ?_)
                  show AR _ _ _ _ _ _ _ 122 [(2, .int z854), (0, .ref 3), (1, .int x)] [.int z875, .int x] h _ _
                  refine AR.jne hk_63_122 (tgt := 139) (by decide) (fun x1 => ?_) (fun x2 => ?_)
                  · refine AR.s (pc' := 140) (lv' := [(2, .int z854), (0, .ref 3), (1, .int x)]) (st' := [.ref 3]) (h' := h) _ hn_63 hk_63_139 rfl ?_
                    refine AR.iconstT hk_63_140 (by decide) (fun z876 ez876 => ?_)
                    show AR _ _ _ _ _ _ _ 141 [(2, .int z854), (0, .ref 3), (1, .int x)] [.int z876, .ref 3] h _ _
                    refine AR.iconstT hk_63_141 (by decide) (fun z877 ez877 => ?_)
                    show AR _ _ _ _ _ _ _ 142 [(2, .int z854), (0, .ref 3), (1, .int x)] [.int z877, .int z876, .ref 3] h _ _
                    obtain ⟨vc878, cc878⟩ := q_c3 hH
                    refine AR.jr (r := 3) (as := [.int z876, .int z877]) (rest := []) hk_63_142 (by decide) (by decide +kernel) (by decide) cc878 rfl rfl (Nat.le_of_ble_eq_true rfl) (q_64 hlst hH (by omega) (by omega) (by omega) h0 (by omega)) (by decide) (Nat.zero_le _) (Nat.zero_le _) ?_ (fun E h' q => by cases q.1)
                    rintro w g ⟨e, Hg, Pg, Kg, a1, a2, a3, a4⟩
                    cases e
                    show AR _ _ _ _ _ _ _ 145 [(2, .int z854), (0, .ref 3), (1, .int x)] [] g _ _
                    have es : t_sy x.toInt z849.toInt = (1, 0) := by unfold t_sy; (repeat' split) <;> first | rfl | (exfalso; omega)
                    rw [es]
                    exact AR.vret hk_63_145 hr_63 ⟨rfl, Hg, Pg, Kg, by omega, by omega, a3, a4⟩
                  · exact absurd x2 (by omega)
                · exact absurd ln5 (by omega)
            · refine AR.s (pc' := 90) (lv' := [(2, .int z854), (0, .ref 3), (1, .int x)]) (st' := [.ref 3]) (h' := h) _ hn_63 hk_63_89 rfl ?_
              refine AR.bipushT hk_63_90 (by decide) (fun z871 ez871 => ?_)
              show AR _ _ _ _ _ _ _ 92 [(2, .int z854), (0, .ref 3), (1, .int x)] [.int z871, .ref 3] h _ _
              refine AR.iconstT hk_63_92 (by decide) (fun z872 ez872 => ?_)
              show AR _ _ _ _ _ _ _ 93 [(2, .int z854), (0, .ref 3), (1, .int x)] [.int z872, .int z871, .ref 3] h _ _
              obtain ⟨vc873, cc873⟩ := q_c3 hH
              refine AR.jr (r := 3) (as := [.int z871, .int z872]) (rest := []) hk_63_93 (by decide) (by decide +kernel) (by decide) cc873 rfl rfl (Nat.le_of_ble_eq_true rfl) (q_64 hlst hH (by omega) (by omega) (by omega) h0 (by omega)) (by decide) (Nat.zero_le _) (Nat.zero_le _) ?_ (fun E h' q => by cases q.1)
              rintro w g ⟨e, Hg, Pg, Kg, a1, a2, a3, a4⟩
              cases e
              show AR _ _ _ _ _ _ _ 96 [(2, .int z854), (0, .ref 3), (1, .int x)] [] g _ _
              refine AR.gotoT hk_63_96 (tgt := 145) (by decide) ?_
              have es : t_sy x.toInt z849.toInt = (9, 1) := by unfold t_sy; (repeat' split) <;> first | rfl | (exfalso; omega)
              rw [es]
              exact AR.vret hk_63_145 hr_63 ⟨rfl, Hg, Pg, Kg, by omega, by omega, a3, a4⟩
          · refine AR.s (pc' := 74) (lv' := [(2, .int z854), (0, .ref 3), (1, .int x)]) (st' := [.ref 3]) (h' := h) _ hn_63 hk_63_73 rfl ?_
            refine AR.bipushT hk_63_74 (by decide) (fun z867 ez867 => ?_)
            show AR _ _ _ _ _ _ _ 76 [(2, .int z854), (0, .ref 3), (1, .int x)] [.int z867, .ref 3] h _ _
            refine AR.iconstT hk_63_76 (by decide) (fun z868 ez868 => ?_)
            show AR _ _ _ _ _ _ _ 77 [(2, .int z854), (0, .ref 3), (1, .int x)] [.int z868, .int z867, .ref 3] h _ _
            obtain ⟨vc869, cc869⟩ := q_c3 hH
            refine AR.jr (r := 3) (as := [.int z867, .int z868]) (rest := []) hk_63_77 (by decide) (by decide +kernel) (by decide) cc869 rfl rfl (Nat.le_of_ble_eq_true rfl) (q_64 hlst hH (by omega) (by omega) (by omega) h0 (by omega)) (by decide) (Nat.zero_le _) (Nat.zero_le _) ?_ (fun E h' q => by cases q.1)
            rintro w g ⟨e, Hg, Pg, Kg, a1, a2, a3, a4⟩
            cases e
            show AR _ _ _ _ _ _ _ 80 [(2, .int z854), (0, .ref 3), (1, .int x)] [] g _ _
            refine AR.gotoT hk_63_80 (tgt := 145) (by decide) ?_
            have es : t_sy x.toInt z849.toInt = (6, 1) := by unfold t_sy; (repeat' split) <;> first | rfl | (exfalso; omega)
            rw [es]
            exact AR.vret hk_63_145 hr_63 ⟨rfl, Hg, Pg, Kg, by omega, by omega, a3, a4⟩
        · refine AR.s (pc' := 59) (lv' := [(2, .int z854), (0, .ref 3), (1, .int x)]) (st' := [.ref 3]) (h' := h) _ hn_63 hk_63_58 rfl ?_
          refine AR.iconstT hk_63_59 (by decide) (fun z863 ez863 => ?_)
          show AR _ _ _ _ _ _ _ 60 [(2, .int z854), (0, .ref 3), (1, .int x)] [.int z863, .ref 3] h _ _
          refine AR.iconstT hk_63_60 (by decide) (fun z864 ez864 => ?_)
          show AR _ _ _ _ _ _ _ 61 [(2, .int z854), (0, .ref 3), (1, .int x)] [.int z864, .int z863, .ref 3] h _ _
          obtain ⟨vc865, cc865⟩ := q_c3 hH
          refine AR.jr (r := 3) (as := [.int z863, .int z864]) (rest := []) hk_63_61 (by decide) (by decide +kernel) (by decide) cc865 rfl rfl (Nat.le_of_ble_eq_true rfl) (q_64 hlst hH (by omega) (by omega) (by omega) h0 (by omega)) (by decide) (Nat.zero_le _) (Nat.zero_le _) ?_ (fun E h' q => by cases q.1)
          rintro w g ⟨e, Hg, Pg, Kg, a1, a2, a3, a4⟩
          cases e
          show AR _ _ _ _ _ _ _ 64 [(2, .int z854), (0, .ref 3), (1, .int x)] [] g _ _
          refine AR.gotoT hk_63_64 (tgt := 145) (by decide) ?_
          have es : t_sy x.toInt z849.toInt = (5, 1) := by unfold t_sy; (repeat' split) <;> first | rfl | (exfalso; omega)
          rw [es]
          exact AR.vret hk_63_145 hr_63 ⟨rfl, Hg, Pg, Kg, by omega, by omega, a3, a4⟩
      · refine AR.s (pc' := 44) (lv' := [(2, .int z854), (0, .ref 3), (1, .int x)]) (st' := [.ref 3]) (h' := h) _ hn_63 hk_63_43 rfl ?_
        refine AR.iconstT hk_63_44 (by decide) (fun z859 ez859 => ?_)
        show AR _ _ _ _ _ _ _ 45 [(2, .int z854), (0, .ref 3), (1, .int x)] [.int z859, .ref 3] h _ _
        refine AR.iconstT hk_63_45 (by decide) (fun z860 ez860 => ?_)
        show AR _ _ _ _ _ _ _ 46 [(2, .int z854), (0, .ref 3), (1, .int x)] [.int z860, .int z859, .ref 3] h _ _
        obtain ⟨vc861, cc861⟩ := q_c3 hH
        refine AR.jr (r := 3) (as := [.int z859, .int z860]) (rest := []) hk_63_46 (by decide) (by decide +kernel) (by decide) cc861 rfl rfl (Nat.le_of_ble_eq_true rfl) (q_64 hlst hH (by omega) (by omega) (by omega) h0 (by omega)) (by decide) (Nat.zero_le _) (Nat.zero_le _) ?_ (fun E h' q => by cases q.1)
        rintro w g ⟨e, Hg, Pg, Kg, a1, a2, a3, a4⟩
        cases e
        show AR _ _ _ _ _ _ _ 49 [(2, .int z854), (0, .ref 3), (1, .int x)] [] g _ _
        refine AR.gotoT hk_63_49 (tgt := 145) (by decide) ?_
        have es : t_sy x.toInt z849.toInt = (4, 1) := by unfold t_sy; (repeat' split) <;> first | rfl | (exfalso; omega)
        rw [es]
        exact AR.vret hk_63_145 hr_63 ⟨rfl, Hg, Pg, Kg, by omega, by omega, a3, a4⟩
    · refine AR.s (pc' := 29) (lv' := [(2, .int z854), (0, .ref 3), (1, .int x)]) (st' := [.ref 3]) (h' := h) _ hn_63 hk_63_28 rfl ?_
      refine AR.iconstT hk_63_29 (by decide) (fun z855 ez855 => ?_)
      show AR _ _ _ _ _ _ _ 30 [(2, .int z854), (0, .ref 3), (1, .int x)] [.int z855, .ref 3] h _ _
      refine AR.iconstT hk_63_30 (by decide) (fun z856 ez856 => ?_)
      show AR _ _ _ _ _ _ _ 31 [(2, .int z854), (0, .ref 3), (1, .int x)] [.int z856, .int z855, .ref 3] h _ _
      obtain ⟨vc857, cc857⟩ := q_c3 hH
      refine AR.jr (r := 3) (as := [.int z855, .int z856]) (rest := []) hk_63_31 (by decide) (by decide +kernel) (by decide) cc857 rfl rfl (Nat.le_of_ble_eq_true rfl) (q_64 hlst hH (by omega) (by omega) (by omega) h0 (by omega)) (by decide) (Nat.zero_le _) (Nat.zero_le _) ?_ (fun E h' q => by cases q.1)
      rintro w g ⟨e, Hg, Pg, Kg, a1, a2, a3, a4⟩
      cases e
      show AR _ _ _ _ _ _ _ 34 [(2, .int z854), (0, .ref 3), (1, .int x)] [] g _ _
      refine AR.gotoT hk_63_34 (tgt := 145) (by decide) ?_
      have es : t_sy x.toInt z849.toInt = (0, 0) := by unfold t_sy; (repeat' split) <;> first | rfl | (exfalso; omega)
      rw [es]
      exact AR.vret hk_63_145 hr_63 ⟨rfl, Hg, Pg, Kg, by omega, by omega, a3, a4⟩
  · refine AR.iconstT hk_63_18 (by decide) (fun z886 ez886 => ?_)
    show AR _ _ _ _ _ _ _ 19 [(0, .ref 3), (1, .int x)] [.int z886] h _ _
    refine AR.gotoT hk_63_19 (tgt := 23) (by decide) ?_
    refine AR.s (pc' := 24) (lv' := [(2, .int z886), (0, .ref 3), (1, .int x)]) (st' := []) (h' := h) _ hn_63 hk_63_23 rfl ?_
    refine AR.s (pc' := 25) (lv' := [(2, .int z886), (0, .ref 3), (1, .int x)]) (st' := [.int x]) (h' := h) _ hn_63 hk_63_24 rfl ?_
    refine AR.zge hk_63_25 (tgt := 37) (by decide) (fun n0 => ?_) (fun m0 => ?_)
    · refine AR.s (pc' := 38) (lv' := [(2, .int z886), (0, .ref 3), (1, .int x)]) (st' := [.int x]) (h' := h) _ hn_63 hk_63_37 rfl ?_
      refine AR.bipushT hk_63_38 (by decide) (fun z890 ez890 => ?_)
      show AR _ _ _ _ _ _ _ 40 [(2, .int z886), (0, .ref 3), (1, .int x)] [.int z890, .int x] h _ _
      refine AR.jne hk_63_40 (tgt := 52) (by decide) (fun n1 => ?_) (fun mn1 => ?_)
      · refine AR.s (pc' := 53) (lv' := [(2, .int z886), (0, .ref 3), (1, .int x)]) (st' := [.int x]) (h' := h) _ hn_63 hk_63_52 rfl ?_
        refine AR.bipushT hk_63_53 (by decide) (fun z894 ez894 => ?_)
        show AR _ _ _ _ _ _ _ 55 [(2, .int z886), (0, .ref 3), (1, .int x)] [.int z894, .int x] h _ _
        refine AR.jne hk_63_55 (tgt := 67) (by decide) (fun n2 => ?_) (fun mn2 => ?_)
        · refine AR.s (pc' := 68) (lv' := [(2, .int z886), (0, .ref 3), (1, .int x)]) (st' := [.int x]) (h' := h) _ hn_63 hk_63_67 rfl ?_
          refine AR.bipushT hk_63_68 (by decide) (fun z898 ez898 => ?_)
          show AR _ _ _ _ _ _ _ 70 [(2, .int z886), (0, .ref 3), (1, .int x)] [.int z898, .int x] h _ _
          refine AR.jne hk_63_70 (tgt := 83) (by decide) (fun n3 => ?_) (fun mn3 => ?_)
          · refine AR.s (pc' := 84) (lv' := [(2, .int z886), (0, .ref 3), (1, .int x)]) (st' := [.int x]) (h' := h) _ hn_63 hk_63_83 rfl ?_
            refine AR.bipushT hk_63_84 (by decide) (fun z902 ez902 => ?_)
            show AR _ _ _ _ _ _ _ 86 [(2, .int z886), (0, .ref 3), (1, .int x)] [.int z902, .int x] h _ _
            refine AR.jne hk_63_86 (tgt := 99) (by decide) (fun n4 => ?_) (fun mn4 => ?_)
            · refine AR.s (pc' := 100) (lv' := [(2, .int z886), (0, .ref 3), (1, .int x)]) (st' := [.int x]) (h' := h) _ hn_63 hk_63_99 rfl ?_
              refine AR.bipushT hk_63_100 (by decide) (fun z906 ez906 => ?_)
              show AR _ _ _ _ _ _ _ 102 [(2, .int z886), (0, .ref 3), (1, .int x)] [.int z906, .int x] h _ _
              refine AR.jne hk_63_102 (tgt := 119) (by decide) (fun n5 => ?_) (fun mn5 => ?_)
              · refine AR.s (pc' := 120) (lv' := [(2, .int z886), (0, .ref 3), (1, .int x)]) (st' := [.int x]) (h' := h) _ hn_63 hk_63_119 rfl ?_
                refine AR.bipushT hk_63_120 (by decide) (fun z910 ez910 => ?_)
                show AR _ _ _ _ _ _ _ 122 [(2, .int z886), (0, .ref 3), (1, .int x)] [.int z910, .int x] h _ _
                refine AR.jne hk_63_122 (tgt := 139) (by decide) (fun n6 => ?_) (fun mn6 => ?_)
                · refine AR.s (pc' := 140) (lv' := [(2, .int z886), (0, .ref 3), (1, .int x)]) (st' := [.ref 3]) (h' := h) _ hn_63 hk_63_139 rfl ?_
                  refine AR.iconstT hk_63_140 (by decide) (fun z914 ez914 => ?_)
                  show AR _ _ _ _ _ _ _ 141 [(2, .int z886), (0, .ref 3), (1, .int x)] [.int z914, .ref 3] h _ _
                  refine AR.iconstT hk_63_141 (by decide) (fun z915 ez915 => ?_)
                  show AR _ _ _ _ _ _ _ 142 [(2, .int z886), (0, .ref 3), (1, .int x)] [.int z915, .int z914, .ref 3] h _ _
                  obtain ⟨vc916, cc916⟩ := q_c3 hH
                  refine AR.jr (r := 3) (as := [.int z914, .int z915]) (rest := []) hk_63_142 (by decide) (by decide +kernel) (by decide) cc916 rfl rfl (Nat.le_of_ble_eq_true rfl) (q_64 hlst hH (by omega) (by omega) (by omega) h0 (by omega)) (by decide) (Nat.zero_le _) (Nat.zero_le _) ?_ (fun E h' q => by cases q.1)
                  rintro w g ⟨e, Hg, Pg, Kg, a1, a2, a3, a4⟩
                  cases e
                  show AR _ _ _ _ _ _ _ 145 [(2, .int z886), (0, .ref 3), (1, .int x)] [] g _ _
                  have es : t_sy x.toInt z849.toInt = (1, 0) := by unfold t_sy; (repeat' split) <;> first | rfl | (exfalso; omega)
                  rw [es]
                  exact AR.vret hk_63_145 hr_63 ⟨rfl, Hg, Pg, Kg, by omega, by omega, a3, a4⟩
                · refine AR.s (pc' := 126) (lv' := [(2, .int z886), (0, .ref 3), (1, .int x)]) (st' := [.int z886]) (h' := h) _ hn_63 hk_63_125 rfl ?_
                  refine AR.zeq hk_63_126 (tgt := 139) (by decide) (fun kn6 => ?_) (fun ln6 => ?_)
                  · exact absurd kn6 (by omega)
                  · refine AR.s (pc' := 130) (lv' := [(2, .int z886), (0, .ref 3), (1, .int x)]) (st' := [.ref 3]) (h' := h) _ hn_63 hk_63_129 rfl ?_
                    refine AR.bipushT hk_63_130 (by decide) (fun z911 ez911 => ?_)
                    show AR _ _ _ _ _ _ _ 132 [(2, .int z886), (0, .ref 3), (1, .int x)] [.int z911, .ref 3] h _ _
                    refine AR.iconstT hk_63_132 (by decide) (fun z912 ez912 => ?_)
                    show AR _ _ _ _ _ _ _ 133 [(2, .int z886), (0, .ref 3), (1, .int x)] [.int z912, .int z911, .ref 3] h _ _
                    obtain ⟨vc913, cc913⟩ := q_c3 hH
                    refine AR.jr (r := 3) (as := [.int z911, .int z912]) (rest := []) hk_63_133 (by decide) (by decide +kernel) (by decide) cc913 rfl rfl (Nat.le_of_ble_eq_true rfl) (q_64 hlst hH (by omega) (by omega) (by omega) h0 (by omega)) (by decide) (Nat.zero_le _) (Nat.zero_le _) ?_ (fun E h' q => by cases q.1)
                    rintro w g ⟨e, Hg, Pg, Kg, a1, a2, a3, a4⟩
                    cases e
                    show AR _ _ _ _ _ _ _ 136 [(2, .int z886), (0, .ref 3), (1, .int x)] [] g _ _
                    refine AR.gotoT hk_63_136 (tgt := 145) (by decide) ?_
                    have es : t_sy x.toInt z849.toInt = (8, 2) := by unfold t_sy; (repeat' split) <;> first | rfl | (exfalso; omega)
                    rw [es]
                    exact AR.vret hk_63_145 hr_63 ⟨rfl, Hg, Pg, Kg, by omega, by omega, a3, a4⟩
              · refine AR.s (pc' := 106) (lv' := [(2, .int z886), (0, .ref 3), (1, .int x)]) (st' := [.int z886]) (h' := h) _ hn_63 hk_63_105 rfl ?_
                refine AR.zeq hk_63_106 (tgt := 119) (by decide) (fun kn5 => ?_) (fun ln5 => ?_)
                · exact absurd kn5 (by omega)
                · refine AR.s (pc' := 110) (lv' := [(2, .int z886), (0, .ref 3), (1, .int x)]) (st' := [.ref 3]) (h' := h) _ hn_63 hk_63_109 rfl ?_
                  refine AR.bipushT hk_63_110 (by decide) (fun z907 ez907 => ?_)
                  show AR _ _ _ _ _ _ _ 112 [(2, .int z886), (0, .ref 3), (1, .int x)] [.int z907, .ref 3] h _ _
                  refine AR.iconstT hk_63_112 (by decide) (fun z908 ez908 => ?_)
                  show AR _ _ _ _ _ _ _ 113 [(2, .int z886), (0, .ref 3), (1, .int x)] [.int z908, .int z907, .ref 3] h _ _
                  obtain ⟨vc909, cc909⟩ := q_c3 hH
                  refine AR.jr (r := 3) (as := [.int z907, .int z908]) (rest := []) hk_63_113 (by decide) (by decide +kernel) (by decide) cc909 rfl rfl (Nat.le_of_ble_eq_true rfl) (q_64 hlst hH (by omega) (by omega) (by omega) h0 (by omega)) (by decide) (Nat.zero_le _) (Nat.zero_le _) ?_ (fun E h' q => by cases q.1)
                  rintro w g ⟨e, Hg, Pg, Kg, a1, a2, a3, a4⟩
                  cases e
                  show AR _ _ _ _ _ _ _ 116 [(2, .int z886), (0, .ref 3), (1, .int x)] [] g _ _
                  refine AR.gotoT hk_63_116 (tgt := 145) (by decide) ?_
                  have es : t_sy x.toInt z849.toInt = (7, 2) := by unfold t_sy; (repeat' split) <;> first | rfl | (exfalso; omega)
                  rw [es]
                  exact AR.vret hk_63_145 hr_63 ⟨rfl, Hg, Pg, Kg, by omega, by omega, a3, a4⟩
            · refine AR.s (pc' := 90) (lv' := [(2, .int z886), (0, .ref 3), (1, .int x)]) (st' := [.ref 3]) (h' := h) _ hn_63 hk_63_89 rfl ?_
              refine AR.bipushT hk_63_90 (by decide) (fun z903 ez903 => ?_)
              show AR _ _ _ _ _ _ _ 92 [(2, .int z886), (0, .ref 3), (1, .int x)] [.int z903, .ref 3] h _ _
              refine AR.iconstT hk_63_92 (by decide) (fun z904 ez904 => ?_)
              show AR _ _ _ _ _ _ _ 93 [(2, .int z886), (0, .ref 3), (1, .int x)] [.int z904, .int z903, .ref 3] h _ _
              obtain ⟨vc905, cc905⟩ := q_c3 hH
              refine AR.jr (r := 3) (as := [.int z903, .int z904]) (rest := []) hk_63_93 (by decide) (by decide +kernel) (by decide) cc905 rfl rfl (Nat.le_of_ble_eq_true rfl) (q_64 hlst hH (by omega) (by omega) (by omega) h0 (by omega)) (by decide) (Nat.zero_le _) (Nat.zero_le _) ?_ (fun E h' q => by cases q.1)
              rintro w g ⟨e, Hg, Pg, Kg, a1, a2, a3, a4⟩
              cases e
              show AR _ _ _ _ _ _ _ 96 [(2, .int z886), (0, .ref 3), (1, .int x)] [] g _ _
              refine AR.gotoT hk_63_96 (tgt := 145) (by decide) ?_
              have es : t_sy x.toInt z849.toInt = (9, 1) := by unfold t_sy; (repeat' split) <;> first | rfl | (exfalso; omega)
              rw [es]
              exact AR.vret hk_63_145 hr_63 ⟨rfl, Hg, Pg, Kg, by omega, by omega, a3, a4⟩
          · refine AR.s (pc' := 74) (lv' := [(2, .int z886), (0, .ref 3), (1, .int x)]) (st' := [.ref 3]) (h' := h) _ hn_63 hk_63_73 rfl ?_
            refine AR.bipushT hk_63_74 (by decide) (fun z899 ez899 => ?_)
            show AR _ _ _ _ _ _ _ 76 [(2, .int z886), (0, .ref 3), (1, .int x)] [.int z899, .ref 3] h _ _
            refine AR.iconstT hk_63_76 (by decide) (fun z900 ez900 => ?_)
            show AR _ _ _ _ _ _ _ 77 [(2, .int z886), (0, .ref 3), (1, .int x)] [.int z900, .int z899, .ref 3] h _ _
            obtain ⟨vc901, cc901⟩ := q_c3 hH
            refine AR.jr (r := 3) (as := [.int z899, .int z900]) (rest := []) hk_63_77 (by decide) (by decide +kernel) (by decide) cc901 rfl rfl (Nat.le_of_ble_eq_true rfl) (q_64 hlst hH (by omega) (by omega) (by omega) h0 (by omega)) (by decide) (Nat.zero_le _) (Nat.zero_le _) ?_ (fun E h' q => by cases q.1)
            rintro w g ⟨e, Hg, Pg, Kg, a1, a2, a3, a4⟩
            cases e
            show AR _ _ _ _ _ _ _ 80 [(2, .int z886), (0, .ref 3), (1, .int x)] [] g _ _
            refine AR.gotoT hk_63_80 (tgt := 145) (by decide) ?_
            have es : t_sy x.toInt z849.toInt = (6, 1) := by unfold t_sy; (repeat' split) <;> first | rfl | (exfalso; omega)
            rw [es]
            exact AR.vret hk_63_145 hr_63 ⟨rfl, Hg, Pg, Kg, by omega, by omega, a3, a4⟩
        · refine AR.s (pc' := 59) (lv' := [(2, .int z886), (0, .ref 3), (1, .int x)]) (st' := [.ref 3]) (h' := h) _ hn_63 hk_63_58 rfl ?_
          refine AR.iconstT hk_63_59 (by decide) (fun z895 ez895 => ?_)
          show AR _ _ _ _ _ _ _ 60 [(2, .int z886), (0, .ref 3), (1, .int x)] [.int z895, .ref 3] h _ _
          refine AR.iconstT hk_63_60 (by decide) (fun z896 ez896 => ?_)
          show AR _ _ _ _ _ _ _ 61 [(2, .int z886), (0, .ref 3), (1, .int x)] [.int z896, .int z895, .ref 3] h _ _
          obtain ⟨vc897, cc897⟩ := q_c3 hH
          refine AR.jr (r := 3) (as := [.int z895, .int z896]) (rest := []) hk_63_61 (by decide) (by decide +kernel) (by decide) cc897 rfl rfl (Nat.le_of_ble_eq_true rfl) (q_64 hlst hH (by omega) (by omega) (by omega) h0 (by omega)) (by decide) (Nat.zero_le _) (Nat.zero_le _) ?_ (fun E h' q => by cases q.1)
          rintro w g ⟨e, Hg, Pg, Kg, a1, a2, a3, a4⟩
          cases e
          show AR _ _ _ _ _ _ _ 64 [(2, .int z886), (0, .ref 3), (1, .int x)] [] g _ _
          refine AR.gotoT hk_63_64 (tgt := 145) (by decide) ?_
          have es : t_sy x.toInt z849.toInt = (5, 1) := by unfold t_sy; (repeat' split) <;> first | rfl | (exfalso; omega)
          rw [es]
          exact AR.vret hk_63_145 hr_63 ⟨rfl, Hg, Pg, Kg, by omega, by omega, a3, a4⟩
      · refine AR.s (pc' := 44) (lv' := [(2, .int z886), (0, .ref 3), (1, .int x)]) (st' := [.ref 3]) (h' := h) _ hn_63 hk_63_43 rfl ?_
        refine AR.iconstT hk_63_44 (by decide) (fun z891 ez891 => ?_)
        show AR _ _ _ _ _ _ _ 45 [(2, .int z886), (0, .ref 3), (1, .int x)] [.int z891, .ref 3] h _ _
        refine AR.iconstT hk_63_45 (by decide) (fun z892 ez892 => ?_)
        show AR _ _ _ _ _ _ _ 46 [(2, .int z886), (0, .ref 3), (1, .int x)] [.int z892, .int z891, .ref 3] h _ _
        obtain ⟨vc893, cc893⟩ := q_c3 hH
        refine AR.jr (r := 3) (as := [.int z891, .int z892]) (rest := []) hk_63_46 (by decide) (by decide +kernel) (by decide) cc893 rfl rfl (Nat.le_of_ble_eq_true rfl) (q_64 hlst hH (by omega) (by omega) (by omega) h0 (by omega)) (by decide) (Nat.zero_le _) (Nat.zero_le _) ?_ (fun E h' q => by cases q.1)
        rintro w g ⟨e, Hg, Pg, Kg, a1, a2, a3, a4⟩
        cases e
        show AR _ _ _ _ _ _ _ 49 [(2, .int z886), (0, .ref 3), (1, .int x)] [] g _ _
        refine AR.gotoT hk_63_49 (tgt := 145) (by decide) ?_
        have es : t_sy x.toInt z849.toInt = (4, 1) := by unfold t_sy; (repeat' split) <;> first | rfl | (exfalso; omega)
        rw [es]
        exact AR.vret hk_63_145 hr_63 ⟨rfl, Hg, Pg, Kg, by omega, by omega, a3, a4⟩
    · refine AR.s (pc' := 29) (lv' := [(2, .int z886), (0, .ref 3), (1, .int x)]) (st' := [.ref 3]) (h' := h) _ hn_63 hk_63_28 rfl ?_
      refine AR.iconstT hk_63_29 (by decide) (fun z887 ez887 => ?_)
      show AR _ _ _ _ _ _ _ 30 [(2, .int z886), (0, .ref 3), (1, .int x)] [.int z887, .ref 3] h _ _
      refine AR.iconstT hk_63_30 (by decide) (fun z888 ez888 => ?_)
      show AR _ _ _ _ _ _ _ 31 [(2, .int z886), (0, .ref 3), (1, .int x)] [.int z888, .int z887, .ref 3] h _ _
      obtain ⟨vc889, cc889⟩ := q_c3 hH
      refine AR.jr (r := 3) (as := [.int z887, .int z888]) (rest := []) hk_63_31 (by decide) (by decide +kernel) (by decide) cc889 rfl rfl (Nat.le_of_ble_eq_true rfl) (q_64 hlst hH (by omega) (by omega) (by omega) h0 (by omega)) (by decide) (Nat.zero_le _) (Nat.zero_le _) ?_ (fun E h' q => by cases q.1)
      rintro w g ⟨e, Hg, Pg, Kg, a1, a2, a3, a4⟩
      cases e
      show AR _ _ _ _ _ _ _ 34 [(2, .int z886), (0, .ref 3), (1, .int x)] [] g _ _
      refine AR.gotoT hk_63_34 (tgt := 145) (by decide) ?_
      have es : t_sy x.toInt z849.toInt = (0, 0) := by unfold t_sy; (repeat' split) <;> first | rfl | (exfalso; omega)
      rw [es]
      exact AR.vret hk_63_145 hr_63 ⟨rfl, Hg, Pg, Kg, by omega, by omega, a3, a4⟩
theorem q_62 (hlst : l.stackTraces = false) (hH : hy_H 0 h) (h0 : 0 ≤ hy_z h 3 1) (h2 : hy_z h 3 1 ≤ 198) (d1 : t_dig (t_B h (hy_z h 3 1)) = true) (d2 : t_dig (t_B h (hy_z h 3 1 + 1)) = false) : AM ax_ns l (ax_mm 62) 1 ty_R (0) (0) [.ref 3] h (fun res g => res = .inl none ∧ hy_H 0 g ∧ pf [3] h g ∧ q_k h g ∧ hy_z g 3 1 = hy_z h 3 1 + 1 ∧ hy_z g 3 2 = 2 ∧ hy_z g 3 4 = t_B h (hy_z h 3 1) - 48 ∧ hy_z g 3 5 = hy_z h 3 5) := by
  refine AM.of (ax_mfacts (by decide +kernel : ax_has 62 = true)).2.2.2.2.2.2 hlst (by rw [hn_62]; exact Nat.le_of_ble_eq_true rfl) ?_
  show AR ax_ns l (ax_mm 62) 1 ty_R _ _ 0 [(0, .ref 3)] [] h (0) (0)
  have F : ty_F pW h h := ty_F_refl _ _
  have P0 : pf [3] h h := pf_r _ _
  have dr1 : 48 ≤ t_B h (hy_z h 3 1) ∧ t_B h (hy_z h 3 1) ≤ 57 := by unfold t_dig at d1; rw [Bool.and_eq_true] at d1; simp only [decide_eq_true_eq] at d1; exact d1
  show AR _ _ _ _ _ _ _ 0 [(0, .ref 3)] [] h _ _
  refine AR.iconstT hk_62_0 (by decide) (fun z917 ez917 => ?_)
  show AR _ _ _ _ _ _ _ 1 [(0, .ref 3)] [.int z917] h _ _
  refine AR.s (pc' := 2) (lv' := [(1, .int z917), (0, .ref 3)]) (st' := []) (h' := h) _ hn_62 hk_62_1 rfl ?_
  refine AR.s (pc' := 3) (lv' := [(1, .int z917), (0, .ref 3)]) (st' := [.ref 3]) (h' := h) _ hn_62 hk_62_2 rfl ?_
  refine AR.iconstT hk_62_3 (by decide) (fun z918 ez918 => ?_)
  show AR _ _ _ _ _ _ _ 4 [(1, .int z917), (0, .ref 3)] [.int z918, .ref 3] h _ _
  have r919a := Int32.le_toInt z918
  have r919b := Int32.toInt_lt z918
  refine AR.pT hk_62_4 (by decide) hH F (q := 3) (by decide) (by decide +kernel) (show ax_cls[6]? = some hy_c6 from rfl) (by decide +kernel) (by decide) rfl (by rw [hy_t3_4]; exact ⟨_, rfl, by omega, by omega, Or.inl rfl⟩) (by decide +kernel) (by decide +kernel) ?_
  rintro g920 ⟨Hg920, Fg920, Gg920, Eg920⟩
  show AR _ _ _ _ _ _ _ 7 [(1, .int z917), (0, .ref 3)] [] g920 _ _
  have pg920 : pf [3] h g920 := pf_st P0 Gg920.1 Eg920 (by simp)
  have zg920_1 : hy_z g920 3 1 = hy_z h 3 1 := (hf_put Eg920 1).trans (if_neg (by decide))
  have zg920_2 : hy_z g920 3 2 = hy_z h 3 2 := (hf_put Eg920 2).trans (if_neg (by decide))
  have zg920_4 : hy_z g920 3 4 = z918.toInt := (hf_put Eg920 4).trans (if_pos rfl)
  have zg920_5 : hy_z g920 3 5 = hy_z h 3 5 := (hf_put Eg920 5).trans (if_neg (by decide))
  have zg920_7 : hy_z g920 3 7 = hy_z h 3 7 := (hf_put Eg920 7).trans (if_neg (by decide))
  have zg920_8 : hy_z g920 3 8 = hy_z h 3 8 := (hf_put Eg920 8).trans (if_neg (by decide))
  show AR _ _ _ _ _ _ _ 7 [(1, .int z917), (0, .ref 3)] [] g920 _ _
  refine AR.s (pc' := 8) (lv' := [(1, .int z917), (0, .ref 3)]) (st' := [.ref 3]) (h' := g920) _ hn_62 hk_62_7 rfl ?_
  refine AR.gI hk_62_8 (by decide) Hg920 (q := 3) (n := 9) (by decide) (by decide +kernel) (by decide +kernel) (by decide) hy_t3_1 (fun x921 dx921 lx921 ux921 => ?_)
  show AR _ _ _ _ _ _ _ 11 [(1, .int z917), (0, .ref 3)] [.int x921] g920 _ _
  have sx921 := hy_zi dx921
  refine AR.sipushT hk_62_11 (by decide) (fun z922 ez922 => ?_)
  show AR _ _ _ _ _ _ _ 14 [(1, .int z917), (0, .ref 3)] [.int z922, .int x921] g920 _ _
  refine AR.jge hk_62_14 (tgt := 82) (by decide) (fun p1 => ?_) (fun p2 => ?_)
  · exact absurd p1 (by omega)
  · refine AR.s (pc' := 18) (lv' := [(1, .int z917), (0, .ref 3)]) (st' := [.ref 3]) (h' := g920) _ hn_62 hk_62_17 rfl ?_
    refine AR.gR hk_62_18 (by decide) Hg920 (q := 3) (n := 9) (by decide) (by decide +kernel) (by decide +kernel) (by decide) hy_t3_0 ?_
    show AR _ _ _ _ _ _ _ 21 [(1, .int z917), (0, .ref 3)] [.ref 1] g920 _ _
    refine AR.s (pc' := 22) (lv' := [(1, .int z917), (0, .ref 3)]) (st' := [.ref 3, .ref 1]) (h' := g920) _ hn_62 hk_62_21 rfl ?_
    refine AR.gI hk_62_22 (by decide) Hg920 (q := 3) (n := 9) (by decide) (by decide +kernel) (by decide +kernel) (by decide) hy_t3_1 (fun x923 dx923 lx923 ux923 => ?_)
    show AR _ _ _ _ _ _ _ 25 [(1, .int z917), (0, .ref 3)] [.int x923, .ref 1] g920 _ _
    have sx923 := hy_zi dx923
    obtain ⟨vc927, cc927⟩ := q_c1 Hg920
    refine AR.jr (r := 1) (as := [.int x923]) (rest := []) hk_62_25 (by decide) (by decide +kernel) (by decide) cc927 rfl rfl (Nat.le_of_ble_eq_true rfl) (q_68 hlst Hg920) (by decide) (Nat.zero_le _) (Nat.zero_le _) ?_ (fun E h' q => by obtain ⟨-, x, e, -⟩ := q; cases e)
    rintro w925 g926 ⟨eg926, z924, e, ez924⟩
    cases e
    obtain rfl := eg926.symm
    show AR _ _ _ _ _ _ _ 28 [(1, .int z917), (0, .ref 3)] [.int z924] g920 _ _
    have b1 : z924.toInt = t_B h (hy_z h 3 1) := by rw [ez924, t_Bp pg920 (by decide) (by decide)]; congr 1; omega
    show AR _ _ _ _ _ _ _ 28 [(1, .int z917), (0, .ref 3)] [.int z924] g920 _ _
    refine AR.cs (as := [.int z924]) (rest := []) hk_62_28 (by decide +kernel) rfl rfl (Nat.le_of_ble_eq_true rfl) (q_65 hlst) (by decide) (Nat.zero_le _) (Nat.zero_le _) (fun E h' q => by obtain ⟨-, x, e, -⟩ := q; cases e) ?_
    rintro w929 g930 ⟨eg930, z928, e, Az928⟩
    cases e
    obtain rfl := eg930.symm
    show AR _ _ _ _ _ _ _ 31 [(1, .int z917), (0, .ref 3)] [.int z928] g920 _ _
    have r1 : z928.toInt = 1 := by rcases Az928 with ⟨e, -⟩ | ⟨-, e⟩; exact e; rw [b1, d1] at e; cases e
    show AR _ _ _ _ _ _ _ 31 [(1, .int z917), (0, .ref 3)] [.int z928] g920 _ _
    refine AR.zeq hk_62_31 (tgt := 82) (by decide) (fun q1 => ?_) (fun q2 => ?_)
    · exact absurd q1 (by omega)
    · refine AR.s (pc' := 35) (lv' := [(1, .int z917), (0, .ref 3)]) (st' := [.int z917]) (h' := g920) _ hn_62 hk_62_34 rfl ?_
      refine AR.bipushT hk_62_35 (by decide) (fun z931 ez931 => ?_)
      show AR _ _ _ _ _ _ _ 37 [(1, .int z917), (0, .ref 3)] [.int z931, .int z917] g920 _ _
      refine AR.jge hk_62_37 (tgt := 66) (by decide) (fun t1 => ?_) (fun t2 => ?_)
      · exact absurd t1 (by omega)
      · refine AR.s (pc' := 41) (lv' := [(1, .int z917), (0, .ref 3)]) (st' := [.ref 3]) (h' := g920) _ hn_62 hk_62_40 rfl ?_
        refine AR.s (pc' := 42) (lv' := [(1, .int z917), (0, .ref 3)]) (st' := [.ref 3, .ref 3]) (h' := g920) _ hn_62 hk_62_41 rfl ?_
        refine AR.gI hk_62_42 (by decide) Hg920 (q := 3) (n := 9) (by decide) (by decide +kernel) (by decide +kernel) (by decide) hy_t3_4 (fun x932 dx932 lx932 ux932 => ?_)
        show AR _ _ _ _ _ _ _ 45 [(1, .int z917), (0, .ref 3)] [.int x932, .ref 3] g920 _ _
        have sx932 := hy_zi dx932
        refine AR.bipushT hk_62_45 (by decide) (fun z933 ez933 => ?_)
        show AR _ _ _ _ _ _ _ 47 [(1, .int z917), (0, .ref 3)] [.int z933, .int x932, .ref 3] g920 _ _
        refine AR.mulk hk_62_47 ez933 (by omega) (by omega) (fun z934 ez934 => ?_)
        show AR _ _ _ _ _ _ _ 48 [(1, .int z917), (0, .ref 3)] [.int z934, .ref 3] g920 _ _
        refine AR.s (pc' := 49) (lv' := [(1, .int z917), (0, .ref 3)]) (st' := [.ref 3, .int z934, .ref 3]) (h' := g920) _ hn_62 hk_62_48 rfl ?_
        refine AR.gR hk_62_49 (by decide) Hg920 (q := 3) (n := 9) (by decide) (by decide +kernel) (by decide +kernel) (by decide) hy_t3_0 ?_
        show AR _ _ _ _ _ _ _ 52 [(1, .int z917), (0, .ref 3)] [.ref 1, .int z934, .ref 3] g920 _ _
        refine AR.s (pc' := 53) (lv' := [(1, .int z917), (0, .ref 3)]) (st' := [.ref 3, .ref 1, .int z934, .ref 3]) (h' := g920) _ hn_62 hk_62_52 rfl ?_
        refine AR.gI hk_62_53 (by decide) Hg920 (q := 3) (n := 9) (by decide) (by decide +kernel) (by decide +kernel) (by decide) hy_t3_1 (fun x935 dx935 lx935 ux935 => ?_)
        show AR _ _ _ _ _ _ _ 56 [(1, .int z917), (0, .ref 3)] [.int x935, .ref 1, .int z934, .ref 3] g920 _ _
        have sx935 := hy_zi dx935
        obtain ⟨vc939, cc939⟩ := q_c1 Hg920
        refine AR.jr (r := 1) (as := [.int x935]) (rest := [.int z934, .ref 3]) hk_62_56 (by decide) (by decide +kernel) (by decide) cc939 rfl rfl (Nat.le_of_ble_eq_true rfl) (q_68 hlst Hg920) (by decide) (Nat.zero_le _) (Nat.zero_le _) ?_ (fun E h' q => by obtain ⟨-, x, e, -⟩ := q; cases e)
        rintro w937 g938 ⟨eg938, z936, e, ez936⟩
        cases e
        obtain rfl := eg938.symm
        show AR _ _ _ _ _ _ _ 59 [(1, .int z917), (0, .ref 3)] [.int z936, .int z934, .ref 3] g920 _ _
        have b2 : z936.toInt = t_B h (hy_z h 3 1) := by rw [ez936, t_Bp pg920 (by decide) (by decide)]; congr 1; omega
        show AR _ _ _ _ _ _ _ 59 [(1, .int z917), (0, .ref 3)] [.int z936, .int z934, .ref 3] g920 _ _
        refine AR.addT hk_62_59 (by omega) (by omega) (fun z940 ez940 => ?_)
        show AR _ _ _ _ _ _ _ 60 [(1, .int z917), (0, .ref 3)] [.int z940, .ref 3] g920 _ _
        refine AR.bipushT hk_62_60 (by decide) (fun z941 ez941 => ?_)
        show AR _ _ _ _ _ _ _ 62 [(1, .int z917), (0, .ref 3)] [.int z941, .int z940, .ref 3] g920 _ _
        refine AR.subT hk_62_62 (by omega) (by omega) (fun z942 ez942 => ?_)
        show AR _ _ _ _ _ _ _ 63 [(1, .int z917), (0, .ref 3)] [.int z942, .ref 3] g920 _ _
        have r943a := Int32.le_toInt z942
        have r943b := Int32.toInt_lt z942
        refine AR.pT hk_62_63 (by decide) Hg920 Fg920 (q := 3) (by decide) (by decide +kernel) (show ax_cls[6]? = some hy_c6 from rfl) (by decide +kernel) (by decide) rfl (by rw [hy_t3_4]; exact ⟨_, rfl, by omega, by omega, Or.inl rfl⟩) (by decide +kernel) (by decide +kernel) ?_
        rintro g944 ⟨Hg944, Fg944, Gg944, Eg944⟩
        show AR _ _ _ _ _ _ _ 66 [(1, .int z917), (0, .ref 3)] [] g944 _ _
        have pg944 : pf [3] h g944 := pf_st pg920 Gg944.1 Eg944 (by simp)
        have zg944_1 : hy_z g944 3 1 = hy_z g920 3 1 := (hf_put Eg944 1).trans (if_neg (by decide))
        have zg944_2 : hy_z g944 3 2 = hy_z g920 3 2 := (hf_put Eg944 2).trans (if_neg (by decide))
        have zg944_4 : hy_z g944 3 4 = z942.toInt := (hf_put Eg944 4).trans (if_pos rfl)
        have zg944_5 : hy_z g944 3 5 = hy_z g920 3 5 := (hf_put Eg944 5).trans (if_neg (by decide))
        have zg944_7 : hy_z g944 3 7 = hy_z g920 3 7 := (hf_put Eg944 7).trans (if_neg (by decide))
        have zg944_8 : hy_z g944 3 8 = hy_z g920 3 8 := (hf_put Eg944 8).trans (if_neg (by decide))
        show AR _ _ _ _ _ _ _ 66 [(1, .int z917), (0, .ref 3)] [] g944 _ _
        refine AR.iincT hk_62_66 (x := z917) rfl (by rw [hn_62]; decide) (by decide) (by omega) (by omega) (fun z945 ez945 => ?_)
        show AR _ _ _ _ _ _ _ 69 [(1, .int z945), (0, .ref 3)] [] g944 _ _
        refine AR.s (pc' := 70) (lv' := [(1, .int z945), (0, .ref 3)]) (st' := [.ref 3]) (h' := g944) _ hn_62 hk_62_69 rfl ?_
        refine AR.s (pc' := 71) (lv' := [(1, .int z945), (0, .ref 3)]) (st' := [.ref 3, .ref 3]) (h' := g944) _ hn_62 hk_62_70 rfl ?_
        refine AR.gI hk_62_71 (by decide) Hg944 (q := 3) (n := 9) (by decide) (by decide +kernel) (by decide +kernel) (by decide) hy_t3_1 (fun x946 dx946 lx946 ux946 => ?_)
        show AR _ _ _ _ _ _ _ 74 [(1, .int z945), (0, .ref 3)] [.int x946, .ref 3] g944 _ _
        have sx946 := hy_zi dx946
        refine AR.iconstT hk_62_74 (by decide) (fun z947 ez947 => ?_)
        show AR _ _ _ _ _ _ _ 75 [(1, .int z945), (0, .ref 3)] [.int z947, .int x946, .ref 3] g944 _ _
        refine AR.addT hk_62_75 (by omega) (by omega) (fun z948 ez948 => ?_)
        show AR _ _ _ _ _ _ _ 76 [(1, .int z945), (0, .ref 3)] [.int z948, .ref 3] g944 _ _
        have r949a := Int32.le_toInt z948
        have r949b := Int32.toInt_lt z948
        refine AR.pT hk_62_76 (by decide) Hg944 Fg944 (q := 3) (by decide) (by decide +kernel) (show ax_cls[6]? = some hy_c6 from rfl) (by decide +kernel) (by decide) rfl (by rw [hy_t3_1]; exact ⟨_, rfl, by omega, by omega, Or.inl rfl⟩) (by decide +kernel) (by decide +kernel) ?_
        rintro g950 ⟨Hg950, Fg950, Gg950, Eg950⟩
        show AR _ _ _ _ _ _ _ 79 [(1, .int z945), (0, .ref 3)] [] g950 _ _
        have pg950 : pf [3] h g950 := pf_st pg944 Gg950.1 Eg950 (by simp)
        have zg950_1 : hy_z g950 3 1 = z948.toInt := (hf_put Eg950 1).trans (if_pos rfl)
        have zg950_2 : hy_z g950 3 2 = hy_z g944 3 2 := (hf_put Eg950 2).trans (if_neg (by decide))
        have zg950_4 : hy_z g950 3 4 = hy_z g944 3 4 := (hf_put Eg950 4).trans (if_neg (by decide))
        have zg950_5 : hy_z g950 3 5 = hy_z g944 3 5 := (hf_put Eg950 5).trans (if_neg (by decide))
        have zg950_7 : hy_z g950 3 7 = hy_z g944 3 7 := (hf_put Eg950 7).trans (if_neg (by decide))
        have zg950_8 : hy_z g950 3 8 = hy_z g944 3 8 := (hf_put Eg950 8).trans (if_neg (by decide))
        show AR _ _ _ _ _ _ _ 79 [(1, .int z945), (0, .ref 3)] [] g950 _ _
        refine AR.gotoT hk_62_79 (tgt := 7) (by decide) ?_
        refine AR.s (pc' := 8) (lv' := [(1, .int z945), (0, .ref 3)]) (st' := [.ref 3]) (h' := g950) _ hn_62 hk_62_7 rfl ?_
        refine AR.gI hk_62_8 (by decide) Hg950 (q := 3) (n := 9) (by decide) (by decide +kernel) (by decide +kernel) (by decide) hy_t3_1 (fun x951 dx951 lx951 ux951 => ?_)
        show AR _ _ _ _ _ _ _ 11 [(1, .int z945), (0, .ref 3)] [.int x951] g950 _ _
        have sx951 := hy_zi dx951
        refine AR.sipushT hk_62_11 (by decide) (fun z952 ez952 => ?_)
        show AR _ _ _ _ _ _ _ 14 [(1, .int z945), (0, .ref 3)] [.int z952, .int x951] g950 _ _
        refine AR.jge hk_62_14 (tgt := 82) (by decide) (fun s1 => ?_) (fun s2 => ?_)
        · exact absurd s1 (by omega)
        · refine AR.s (pc' := 18) (lv' := [(1, .int z945), (0, .ref 3)]) (st' := [.ref 3]) (h' := g950) _ hn_62 hk_62_17 rfl ?_
          refine AR.gR hk_62_18 (by decide) Hg950 (q := 3) (n := 9) (by decide) (by decide +kernel) (by decide +kernel) (by decide) hy_t3_0 ?_
          show AR _ _ _ _ _ _ _ 21 [(1, .int z945), (0, .ref 3)] [.ref 1] g950 _ _
          refine AR.s (pc' := 22) (lv' := [(1, .int z945), (0, .ref 3)]) (st' := [.ref 3, .ref 1]) (h' := g950) _ hn_62 hk_62_21 rfl ?_
          refine AR.gI hk_62_22 (by decide) Hg950 (q := 3) (n := 9) (by decide) (by decide +kernel) (by decide +kernel) (by decide) hy_t3_1 (fun x953 dx953 lx953 ux953 => ?_)
          show AR _ _ _ _ _ _ _ 25 [(1, .int z945), (0, .ref 3)] [.int x953, .ref 1] g950 _ _
          have sx953 := hy_zi dx953
          obtain ⟨vc957, cc957⟩ := q_c1 Hg950
          refine AR.jr (r := 1) (as := [.int x953]) (rest := []) hk_62_25 (by decide) (by decide +kernel) (by decide) cc957 rfl rfl (Nat.le_of_ble_eq_true rfl) (q_68 hlst Hg950) (by decide) (Nat.zero_le _) (Nat.zero_le _) ?_ (fun E h' q => by obtain ⟨-, x, e, -⟩ := q; cases e)
          rintro w955 g956 ⟨eg956, z954, e, ez954⟩
          cases e
          obtain rfl := eg956.symm
          show AR _ _ _ _ _ _ _ 28 [(1, .int z945), (0, .ref 3)] [.int z954] g950 _ _
          have b3 : z954.toInt = t_B h (hy_z h 3 1 + 1) := by rw [ez954, t_Bp pg950 (by decide) (by decide)]; congr 1; omega
          show AR _ _ _ _ _ _ _ 28 [(1, .int z945), (0, .ref 3)] [.int z954] g950 _ _
          refine AR.cs (as := [.int z954]) (rest := []) hk_62_28 (by decide +kernel) rfl rfl (Nat.le_of_ble_eq_true rfl) (q_65 hlst) (by decide) (Nat.zero_le _) (Nat.zero_le _) (fun E h' q => by obtain ⟨-, x, e, -⟩ := q; cases e) ?_
          rintro w959 g960 ⟨eg960, z958, e, Az958⟩
          cases e
          obtain rfl := eg960.symm
          show AR _ _ _ _ _ _ _ 31 [(1, .int z945), (0, .ref 3)] [.int z958] g950 _ _
          have r3 : z958.toInt = 0 := by rcases Az958 with ⟨-, e⟩ | ⟨e, -⟩; rw [b3, d2] at e; cases e; exact e
          show AR _ _ _ _ _ _ _ 31 [(1, .int z945), (0, .ref 3)] [.int z958] g950 _ _
          refine AR.zeq hk_62_31 (tgt := 82) (by decide) (fun u1 => ?_) (fun u2 => ?_)
          · refine AR.s (pc' := 83) (lv' := [(1, .int z945), (0, .ref 3)]) (st' := [.ref 3]) (h' := g950) _ hn_62 hk_62_82 rfl ?_
            refine AR.s (pc' := 84) (lv' := [(1, .int z945), (0, .ref 3)]) (st' := [.int z945, .ref 3]) (h' := g950) _ hn_62 hk_62_83 rfl ?_
            refine AR.bipushT hk_62_84 (by decide) (fun z961 ez961 => ?_)
            show AR _ _ _ _ _ _ _ 86 [(1, .int z945), (0, .ref 3)] [.int z961, .int z945, .ref 3] g950 _ _
            refine AR.jgt hk_62_86 (tgt := 93) (by decide) (fun x1 => ?_) (fun x2 => ?_)
            · exact absurd x1 (by omega)
            · refine AR.iconstT hk_62_89 (by decide) (fun z962 ez962 => ?_)
              show AR _ _ _ _ _ _ _ 90 [(1, .int z945), (0, .ref 3)] [.int z962, .ref 3] g950 _ _
              refine AR.gotoT hk_62_90 (tgt := 94) (by decide) ?_
              have r963a := Int32.le_toInt z962
              have r963b := Int32.toInt_lt z962
              refine AR.pT hk_62_94 (by decide) Hg950 Fg950 (q := 3) (by decide) (by decide +kernel) (show ax_cls[6]? = some hy_c6 from rfl) (by decide +kernel) (by decide) rfl (by rw [hy_t3_2]; exact ⟨_, rfl, by omega, by omega, Or.inl rfl⟩) (by decide +kernel) (by decide +kernel) ?_
              rintro g964 ⟨Hg964, Fg964, Gg964, Eg964⟩
              show AR _ _ _ _ _ _ _ 97 [(1, .int z945), (0, .ref 3)] [] g964 _ _
              have pg964 : pf [3] h g964 := pf_st pg950 Gg964.1 Eg964 (by simp)
              have zg964_1 : hy_z g964 3 1 = hy_z g950 3 1 := (hf_put Eg964 1).trans (if_neg (by decide))
              have zg964_2 : hy_z g964 3 2 = z962.toInt := (hf_put Eg964 2).trans (if_pos rfl)
              have zg964_4 : hy_z g964 3 4 = hy_z g950 3 4 := (hf_put Eg964 4).trans (if_neg (by decide))
              have zg964_5 : hy_z g964 3 5 = hy_z g950 3 5 := (hf_put Eg964 5).trans (if_neg (by decide))
              have zg964_7 : hy_z g964 3 7 = hy_z g950 3 7 := (hf_put Eg964 7).trans (if_neg (by decide))
              have zg964_8 : hy_z g964 3 8 = hy_z g950 3 8 := (hf_put Eg964 8).trans (if_neg (by decide))
              show AR _ _ _ _ _ _ _ 97 [(1, .int z945), (0, .ref 3)] [] g964 _ _
              exact AR.vret hk_62_97 hr_62 ⟨rfl, Hg964, pg964, ⟨by omega, by omega⟩, by omega, by omega, by omega, by omega⟩
          · exact absurd u2 (by omega)
end PF
