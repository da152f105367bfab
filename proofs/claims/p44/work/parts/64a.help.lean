/-! p44, 6: the law's own helpers -/
theorem hs_132_2 : ax_site (ax_mm 132) (ax_mm 275) 9 0 := by
  have m := ax_mfacts (by decide +kernel : ax_has 275 = true)
  exact ⟨m.1, m.2.1, ax_wk_mem (ix := 3187) (by decide +kernel), ⟨m.2.2.2.1, m.2.2.2.2.1, by decide +kernel⟩, m.2.2.2.2.2.1⟩
theorem hs_132_10 : ax_site (ax_mm 132) (ax_mm 149) 15 1 := by
  have m := ax_mfacts (by decide +kernel : ax_has 149 = true)
  exact ⟨m.1, m.2.1, ax_wk_mem (ix := 3202) (by decide +kernel), ⟨m.2.2.2.1, m.2.2.2.2.1, by decide +kernel⟩, m.2.2.2.2.2.1⟩
theorem hs_137_142 : ax_site (ax_mm 137) (ax_mm 262) 50 1 := by
  have m := ax_mfacts (by decide +kernel : ax_has 262 = true)
  exact ⟨m.1, m.2.1, ax_wk_mem (ix := 4023) (by decide +kernel), ⟨m.2.2.2.1, m.2.2.2.2.1, by decide +kernel⟩, m.2.2.2.2.2.1⟩
theorem hs_137_151 : ax_site (ax_mm 137) (ax_mm 260) 71 1 := by
  have m := ax_mfacts (by decide +kernel : ax_has 260 = true)
  exact ⟨m.1, m.2.1, ax_wk_mem (ix := 4212) (by decide +kernel), ⟨m.2.2.2.1, m.2.2.2.2.1, by decide +kernel⟩, m.2.2.2.2.2.1⟩
theorem hs_137_154 : ax_site (ax_mm 137) (ax_mm 154) 61 0 := by
  have m := ax_mfacts (by decide +kernel : ax_has 154 = true)
  exact ⟨m.1, m.2.1, ax_wk_mem (ix := 4151) (by decide +kernel), ⟨m.2.2.2.1, m.2.2.2.2.1, by decide +kernel⟩, m.2.2.2.2.2.1⟩
theorem hs_137_123 : ax_site (ax_mm 137) (ax_mm 262) 50 1 := by
  have m := ax_mfacts (by decide +kernel : ax_has 262 = true)
  exact ⟨m.1, m.2.1, ax_wk_mem (ix := 4023) (by decide +kernel), ⟨m.2.2.2.1, m.2.2.2.2.1, by decide +kernel⟩, m.2.2.2.2.2.1⟩
theorem hs_137_112 : ax_site (ax_mm 137) (ax_mm 262) 50 1 := by
  have m := ax_mfacts (by decide +kernel : ax_has 262 = true)
  exact ⟨m.1, m.2.1, ax_wk_mem (ix := 4023) (by decide +kernel), ⟨m.2.2.2.1, m.2.2.2.2.1, by decide +kernel⟩, m.2.2.2.2.2.1⟩
theorem hs_137_117 : ax_site (ax_mm 137) (ax_mm 261) 58 1 := by
  have m := ax_mfacts (by decide +kernel : ax_has 261 = true)
  exact ⟨m.1, m.2.1, ax_wk_mem (ix := 4126) (by decide +kernel), ⟨m.2.2.2.1, m.2.2.2.2.1, by decide +kernel⟩, m.2.2.2.2.2.1⟩
theorem hs_137_120 : ax_site (ax_mm 137) (ax_mm 154) 61 0 := by
  have m := ax_mfacts (by decide +kernel : ax_has 154 = true)
  exact ⟨m.1, m.2.1, ax_wk_mem (ix := 4151) (by decide +kernel), ⟨m.2.2.2.1, m.2.2.2.2.1, by decide +kernel⟩, m.2.2.2.2.2.1⟩
theorem hs_137_88 : ax_site (ax_mm 137) (ax_mm 262) 50 1 := by
  have m := ax_mfacts (by decide +kernel : ax_has 262 = true)
  exact ⟨m.1, m.2.1, ax_wk_mem (ix := 4023) (by decide +kernel), ⟨m.2.2.2.1, m.2.2.2.2.1, by decide +kernel⟩, m.2.2.2.2.2.1⟩
theorem hs_137_94 : ax_site (ax_mm 137) (ax_mm 261) 58 1 := by
  have m := ax_mfacts (by decide +kernel : ax_has 261 = true)
  exact ⟨m.1, m.2.1, ax_wk_mem (ix := 4126) (by decide +kernel), ⟨m.2.2.2.1, m.2.2.2.2.1, by decide +kernel⟩, m.2.2.2.2.2.1⟩
theorem hs_137_97 : ax_site (ax_mm 137) (ax_mm 154) 61 0 := by
  have m := ax_mfacts (by decide +kernel : ax_has 154 = true)
  exact ⟨m.1, m.2.1, ax_wk_mem (ix := 4151) (by decide +kernel), ⟨m.2.2.2.1, m.2.2.2.2.1, by decide +kernel⟩, m.2.2.2.2.2.1⟩
theorem hs_137_54 : ax_site (ax_mm 137) (ax_mm 262) 50 1 := by
  have m := ax_mfacts (by decide +kernel : ax_has 262 = true)
  exact ⟨m.1, m.2.1, ax_wk_mem (ix := 4023) (by decide +kernel), ⟨m.2.2.2.1, m.2.2.2.2.1, by decide +kernel⟩, m.2.2.2.2.2.1⟩
theorem hs_137_196 : ax_site (ax_mm 137) (ax_mm 262) 50 1 := by
  have m := ax_mfacts (by decide +kernel : ax_has 262 = true)
  exact ⟨m.1, m.2.1, ax_wk_mem (ix := 4023) (by decide +kernel), ⟨m.2.2.2.1, m.2.2.2.2.1, by decide +kernel⟩, m.2.2.2.2.2.1⟩
theorem hs_137_200 : ax_site (ax_mm 137) (ax_mm 261) 58 1 := by
  have m := ax_mfacts (by decide +kernel : ax_has 261 = true)
  exact ⟨m.1, m.2.1, ax_wk_mem (ix := 4126) (by decide +kernel), ⟨m.2.2.2.1, m.2.2.2.2.1, by decide +kernel⟩, m.2.2.2.2.2.1⟩
theorem hs_137_203 : ax_site (ax_mm 137) (ax_mm 154) 61 0 := by
  have m := ax_mfacts (by decide +kernel : ax_has 154 = true)
  exact ⟨m.1, m.2.1, ax_wk_mem (ix := 4151) (by decide +kernel), ⟨m.2.2.2.1, m.2.2.2.2.1, by decide +kernel⟩, m.2.2.2.2.2.1⟩
theorem hs_137_172 : ax_site (ax_mm 137) (ax_mm 262) 50 1 := by
  have m := ax_mfacts (by decide +kernel : ax_has 262 = true)
  exact ⟨m.1, m.2.1, ax_wk_mem (ix := 4023) (by decide +kernel), ⟨m.2.2.2.1, m.2.2.2.2.1, by decide +kernel⟩, m.2.2.2.2.2.1⟩
theorem hs_137_29 : ax_site (ax_mm 137) (ax_mm 262) 50 1 := by
  have m := ax_mfacts (by decide +kernel : ax_has 262 = true)
  exact ⟨m.1, m.2.1, ax_wk_mem (ix := 4023) (by decide +kernel), ⟨m.2.2.2.1, m.2.2.2.2.1, by decide +kernel⟩, m.2.2.2.2.2.1⟩
section LWA
variable {ns : ax_NS} {l : Launch} {i d pc : Nat} {r : ax_H} {P : ax_P} {X : ax_PX} {lv : List (Nat × Value)} {st : List Value} {h : ax_H} {bc bs : Nat} {v : Value} {ws : List Nat} {w : Nat × Nat × Nat} {x y : Int32}
theorem rem_of {n : Int} (hy : y.toInt = n) (n1 : 0 < n) (hx : 0 ≤ x.toInt) : (x - x / y * y).toInt = x.toInt % n := by
  have h1 : (x / y).toInt = x.toInt / n := by
    rw [Int32.toInt_div_of_ne_right _ _ (fun e => by rw [e] at hy; rw [show (-1 : Int32).toInt = -1 from rfl] at hy; omega), hy, Int.tdiv_eq_ediv_of_nonneg hx]
  have h2 := Int32.toInt_lt x
  have h3 : x.toInt / n * n ≤ x.toInt := Int.ediv_mul_le _ (by omega)
  have h4 : 0 ≤ x.toInt / n * n := Int.mul_nonneg (Int.ediv_nonneg hx (by omega)) (by omega)
  rw [Int32.toInt_sub, Int32.toInt_mul, h1, hy, hy_bm (a := x.toInt / n * n) (by omega) (by omega), hy_bm (by omega) (by omega), Int.emod_def, Int.mul_comm]
theorem AR.remT {n : Int} (hl : ax_look i pc = some (.irem, w, v, ws)) (hy : y.toInt = n) (n1 : 0 < n) (hx : 0 ≤ x.toInt) (k : ∀ z : Int32, z.toInt = x.toInt % n → AR ax_ns l (ax_mm i) d r P X (pc + 1) lv (.int z :: st) h bc bs) : AR ax_ns l (ax_mm i) d r P X pc lv (.int y :: .int x :: st) h bc bs := by
  have h0 : ¬ y = 0 := fun e => by rw [e, show (0 : Int32).toInt = 0 from rfl] at hy; omega
  exact AR.s (pc' := pc + 1) (lv' := lv) (st' := .int (x - x / y * y) :: st) (h' := h) _ rfl hl (by simp only [ax_one, ax_d2, if_neg h0, ax_b2]; rfl) (k _ (rem_of hy n1 hx))
theorem a7_nn (x : Int32) : 0 ≤ (x &&& 2147483647).toInt := by
  have h1 : (x &&& 2147483647).toBitVec.toNat ≤ 2147483647 := by
    rw [Int32.toBitVec_and, BitVec.toNat_and]
    exact Nat.and_le_right
  have h2 : (x &&& 2147483647).toInt = ((x &&& 2147483647).toBitVec.toNat : Int) := by
    show (x &&& 2147483647).toBitVec.toInt = _
    rw [BitVec.toInt_eq_toNat_bmod]
    exact Int.bmod_eq_of_le (by show -_ ≤ ((x &&& 2147483647).toBitVec.toNat : Int); omega) (by show ((x &&& 2147483647).toBitVec.toNat : Int) < _; omega)
  omega
-- four letters in a word
theorem sh_n : ∀ s, s < 32 → ((Int32.ofNat s &&& 31).toBitVec.smod 32).toNat = s := by decide +kernel
theorem ib_shl (x : Int32) {s k : Nat} (hs : s < 32) (hk : k < 32) : ib (x <<< (Int32.ofNat s &&& 31)) k = (!decide (k < s) && ib x (k - s)) := by
  unfold ib
  rw [Int32.toBitVec_shiftLeft, BitVec.shiftLeft_eq', sh_n s hs, BitVec.getLsbD_shiftLeft, decide_eq_true hk, Bool.true_and]
theorem ib_shr (x : Int32) {s k : Nat} (hs : s < 32) (hk : s + k < 32) : ib (x >>> (Int32.ofNat s &&& 31)) k = ib x (s + k) := by
  unfold ib
  rw [Int32.toBitVec_shiftRight, BitVec.sshiftRight_eq', sh_n s hs, BitVec.getLsbD_sshiftRight, decide_eq_false (by omega), if_pos hk, Bool.not_false, Bool.true_and]
theorem ib_255 : ∀ k, k < 32 → ib 255 k = decide (k < 8) := by decide +kernel
theorem ib_and' (x y : Int32) (k : Nat) : ib (x &&& y) k = (ib x k && ib y k) := by unfold ib; rw [Int32.toBitVec_and, BitVec.getLsbD_and]
theorem ib_sk {c : Int32} (h : sk c) {k : Nat} (h7 : 7 ≤ k) (h32 : k < 32) : ib c k = false := by
  obtain ⟨h1, h2⟩ := h
  obtain ⟨n, hn, rfl⟩ : ∃ n : Nat, n < 128 ∧ c = Int32.ofNat n := ⟨c.toInt.toNat, by omega, Int32.toInt_inj.mp (by rw [Int32.toInt_ofNat_of_lt (by omega)]; omega)⟩
  have e : ∀ n, n < 128 → ∀ k, k < 32 → 7 ≤ k → ib (Int32.ofNat n) k = false := by decide +kernel
  exact e n hn k h32 h7
theorem by_is {x a : Int32} {s : Nat} (hs : s ≤ 24) (ha : sk a) (h : ∀ k, k < 8 → ib x (s + k) = ib a k) : by4 x s = a.toInt := by
  unfold by4
  congr 1
  refine Int32.toBitVec_inj.mp (BitVec.eq_of_getLsbD_eq (fun k hk => ?_))
  show ib ((x >>> (Int32.ofNat s &&& 31)) &&& 255) k = ib a k
  rw [ib_and', ib_255 k hk]
  by_cases e : k < 8
  · rw [ib_shr x (by omega) (by omega), h k e, decide_eq_true e, Bool.and_true]
  · rw [decide_eq_false e, Bool.and_false, ib_sk ha (by omega) hk]
def wdx (a b c d : Int32) : Int32 := a <<< (Int32.ofNat 24 &&& 31) ||| b <<< (Int32.ofNat 16 &&& 31) ||| c <<< (Int32.ofNat 8 &&& 31) ||| d
theorem wd_by {a b c d : Int32} (ha : sk a) (hb : sk b) (hc : sk c) (hd : sk d) : by4 (wdx a b c d) 24 = a.toInt ∧ by4 (wdx a b c d) 16 = b.toInt ∧ by4 (wdx a b c d) 8 = c.toInt ∧ by4 (wdx a b c d) 0 = d.toInt := by
  have key : ∀ k, k < 32 → ib (wdx a b c d) k = ((((!decide (k < 24) && ib a (k - 24)) || (!decide (k < 16) && ib b (k - 16))) || (!decide (k < 8) && ib c (k - 8))) || ib d k) := fun k hk => by
    unfold wdx
    rw [ib_or, ib_or, ib_or, ib_shl a (by omega) hk, ib_shl b (by omega) hk, ib_shl c (by omega) hk]
  refine ⟨by_is (by omega) ha (fun k hk => ?_), by_is (by omega) hb (fun k hk => ?_), by_is (by omega) hc (fun k hk => ?_), by_is (by omega) hd (fun k hk => ?_)⟩
  · rw [key _ (by omega), ib_sk hb (k := 24 + k - 16) (by omega) (by omega), ib_sk hc (k := 24 + k - 8) (by omega) (by omega), ib_sk hd (k := 24 + k) (by omega) (by omega), decide_eq_false (show ¬ 24 + k < 24 by omega), Nat.add_sub_cancel_left, Bool.and_false, Bool.and_false, Bool.or_false, Bool.or_false, Bool.or_false, Bool.not_false, Bool.true_and]
  · rw [key _ (by omega), decide_eq_true (show 16 + k < 24 by omega), ib_sk hc (k := 16 + k - 8) (by omega) (by omega), ib_sk hd (k := 16 + k) (by omega) (by omega), decide_eq_false (show ¬ 16 + k < 16 by omega), Nat.add_sub_cancel_left, Bool.and_false, Bool.or_false, Bool.or_false, Bool.not_true, Bool.false_and, Bool.false_or, Bool.not_false, Bool.true_and]
  · rw [key _ (by omega), decide_eq_true (show 8 + k < 24 by omega), decide_eq_true (show 8 + k < 16 by omega), ib_sk hd (k := 8 + k) (by omega) (by omega), decide_eq_false (show ¬ 8 + k < 8 by omega), Nat.add_sub_cancel_left, Bool.or_false, Bool.not_true, Bool.false_and, Bool.false_and, Bool.false_or, Bool.false_or, Bool.not_false, Bool.true_and]
  · rw [key _ (by omega), Nat.zero_add, decide_eq_true (show k < 24 by omega), decide_eq_true (show k < 16 by omega), decide_eq_true hk, Bool.not_true, Bool.false_and, Bool.false_and, Bool.false_and, Bool.false_or, Bool.false_or, Bool.false_or]
end LWA
section LWB
variable {l : Launch} {h : ax_H} {x y : Int32} {a n : Nat} {ts : List Int32}
theorem t_130 (hlst : l.stackTraces = false) {n : Int} (hy : y.toInt = n) (n1 : 0 < n) : AM ax_ns l (ax_mm 130) 0 ty_R (0) (0) [.int x, .int y] h (hq_int h (lbw x n)) := by
  refine AM.of (ax_mfacts (by decide +kernel : ax_has 130 = true)).2.2.2.2.2.2 hlst (by rw [hn_130]; exact Nat.le_of_ble_eq_true rfl) ?_
  show AR ax_ns l (ax_mm 130) 0 ty_R _ _ 0 [(0, .int x), (1, .int y)] [] h (0) (0)
  refine AR.s (pc' := 1) (lv' := [(0, .int x), (1, .int y)]) (st' := [.int x]) (h' := h) _ hn_130 hk_130_0 rfl ?_
  refine AR.ldcI hk_130_1 (fun z98 ez98 => ?_)
  show AR _ _ _ _ _ _ _ 3 [(0, .int x), (1, .int y)] [.int z98, .int x] h _ _
  obtain rfl : z98 = 2147483647 := Int32.toInt_inj.mp ez98
  show AR _ _ _ _ _ _ _ 3 [(0, .int x), (1, .int y)] [.int 2147483647, .int x] h _ _
  have a0 := a7_nn x
  refine AR.iand (z := .int (x &&& 2147483647)) (ax_look_ok hk_130_3).1 rfl ?_
  generalize gz99 : x &&& 2147483647 = z99
  show AR _ _ _ _ _ _ _ 4 [(0, .int x), (1, .int y)] [.int z99] h _ _
  refine AR.s (pc' := 5) (lv' := [(0, .int x), (1, .int y)]) (st' := [.int y, .int z99]) (h' := h) _ hn_130 hk_130_4 rfl ?_
  rw [gz99] at a0
  refine AR.remT hk_130_5 hy n1 a0 (fun z9 e9 => ?_)
  show AR _ _ _ _ _ _ _ 6 [(0, .int x), (1, .int y)] [.int z9] h _ _
  exact AR.iret hk_130_6 hr_130 ⟨rfl, _, rfl, by unfold lbw; rw [gz99]; exact e9⟩
theorem t_135 (hlst : l.stackTraces = false) (hy : y.toInt = n) (hn : n < 6) : AM ax_ns l (ax_mm 135) 1 ty_R (0) (0) [.int x, .int y] h (hq_int h (co x n)) := by
  refine AM.of (ax_mfacts (by decide +kernel : ax_has 135 = true)).2.2.2.2.2.2 hlst (by rw [hn_135]; exact Nat.le_of_ble_eq_true rfl) ?_
  show AR ax_ns l (ax_mm 135) 1 ty_R _ _ 0 [(0, .int x), (1, .int y)] [] h (0) (0)
  refine AR.s (pc' := 1) (lv' := [(0, .int x), (1, .int y)]) (st' := [.int x]) (h' := h) _ hn_135 hk_135_0 rfl ?_
  refine AR.iconstT hk_135_1 (by decide) (fun z100 ez100 => ?_)
  show AR _ _ _ _ _ _ _ 2 [(0, .int x), (1, .int y)] [.int z100, .int x] h _ _
  refine AR.s (pc' := 3) (lv' := [(0, .int x), (1, .int y)]) (st' := [.int y, .int z100, .int x]) (h' := h) _ hn_135 hk_135_2 rfl ?_
  refine AR.mulcT hk_135_3 ez100 (by omega) (by omega) (fun z101 ez101 => ?_)
  show AR _ _ _ _ _ _ _ 4 [(0, .int x), (1, .int y)] [.int z101, .int x] h _ _
  refine AR.ishr (z := .int (x >>> (z101 &&& 31))) (ax_look_ok hk_135_4).1 rfl ?_
  generalize gz102 : x >>> (z101 &&& 31) = z102
  show AR _ _ _ _ _ _ _ 5 [(0, .int x), (1, .int y)] [.int z102] h _ _
  have ec : co x n = lbw z102 7 - 3 := by unfold co; rw [← p_of (i := z101) (n := 3 * n) (by omega) (by omega), gz102]
  have bd9 := lbw_bd z102 (n := 7) (by decide)
  show AR _ _ _ _ _ _ _ 5 [(0, .int x), (1, .int y)] [.int z102] h _ _
  refine AR.bipushT hk_135_5 (by decide) (fun z103 ez103 => ?_)
  show AR _ _ _ _ _ _ _ 7 [(0, .int x), (1, .int y)] [.int z103, .int z102] h _ _
  refine AR.cs (as := [.int z102, .int z103]) (rest := []) hk_135_7 (by decide +kernel) rfl rfl (Nat.le_of_ble_eq_true rfl) (t_130 hlst (n := 7) (by omega) (by decide)) (by decide) (Nat.zero_le _) (Nat.zero_le _) (fun E h' q => by obtain ⟨-, x, e, -⟩ := q; cases e) ?_
  rintro w104 g105 ⟨eg105, z106, e, ez106⟩
  cases e
  obtain rfl := eg105.symm
  show AR _ _ _ _ _ _ _ 10 [(0, .int x), (1, .int y)] [.int z106] h _ _
  refine AR.iconstT hk_135_10 (by decide) (fun z107 ez107 => ?_)
  show AR _ _ _ _ _ _ _ 11 [(0, .int x), (1, .int y)] [.int z107, .int z106] h _ _
  refine AR.subT hk_135_11 (by omega) (by omega) (fun z108 ez108 => ?_)
  show AR _ _ _ _ _ _ _ 12 [(0, .int x), (1, .int y)] [.int z108] h _ _
  exact AR.iret hk_135_12 hr_135 ⟨rfl, _, rfl, by omega⟩
theorem t_136 (hlst : l.stackTraces = false) (hy : y.toInt = n) (hn : n < 6) : AM ax_ns l (ax_mm 136) 0 ty_R (0) (0) [.int x, .int y] h (hq_int h (if ng x n then 1 else 0)) := by
  refine AM.of (ax_mfacts (by decide +kernel : ax_has 136 = true)).2.2.2.2.2.2 hlst (by rw [hn_136]; exact Nat.le_of_ble_eq_true rfl) ?_
  show AR ax_ns l (ax_mm 136) 0 ty_R _ _ 0 [(0, .int x), (1, .int y)] [] h (0) (0)
  refine AR.s (pc' := 1) (lv' := [(0, .int x), (1, .int y)]) (st' := [.int x]) (h' := h) _ hn_136 hk_136_0 rfl ?_
  refine AR.bipushT hk_136_1 (by decide) (fun z109 ez109 => ?_)
  show AR _ _ _ _ _ _ _ 3 [(0, .int x), (1, .int y)] [.int z109, .int x] h _ _
  refine AR.s (pc' := 4) (lv' := [(0, .int x), (1, .int y)]) (st' := [.int y, .int z109, .int x]) (h' := h) _ hn_136 hk_136_3 rfl ?_
  refine AR.addT hk_136_4 (by omega) (by omega) (fun z110 ez110 => ?_)
  show AR _ _ _ _ _ _ _ 5 [(0, .int x), (1, .int y)] [.int z110, .int x] h _ _
  refine AR.ishr (z := .int (x >>> (z110 &&& 31))) (ax_look_ok hk_136_5).1 rfl ?_
  generalize gz111 : x >>> (z110 &&& 31) = z111
  show AR _ _ _ _ _ _ _ 6 [(0, .int x), (1, .int y)] [.int z111] h _ _
  refine AR.iconstT hk_136_6 (by decide) (fun z112 ez112 => ?_)
  show AR _ _ _ _ _ _ _ 7 [(0, .int x), (1, .int y)] [.int z112, .int z111] h _ _
  refine AR.iand (z := .int (z111 &&& z112)) (ax_look_ok hk_136_7).1 rfl ?_
  generalize gz113 : z111 &&& z112 = z113
  show AR _ _ _ _ _ _ _ 8 [(0, .int x), (1, .int y)] [.int z113] h _ _
  have ec : ng x n = decide (z113.toInt = 1) := by unfold ng; rw [← p_of (i := z110) (n := 20 + n) (by omega) (by omega), gz111, ← gz113, show z112 = 1 from Int32.toInt_inj.mp ez112]
  show AR _ _ _ _ _ _ _ 8 [(0, .int x), (1, .int y)] [.int z113] h _ _
  refine AR.iconstT hk_136_8 (by decide) (fun z114 ez114 => ?_)
  show AR _ _ _ _ _ _ _ 9 [(0, .int x), (1, .int y)] [.int z114, .int z113] h _ _
  refine AR.jne hk_136_9 (tgt := 16) (by decide) (fun p1 => ?_) (fun p2 => ?_)
  · refine AR.iconstT hk_136_16 (by decide) (fun z115 ez115 => ?_)
    show AR _ _ _ _ _ _ _ 17 [(0, .int x), (1, .int y)] [.int z115] h _ _
    exact AR.zret hk_136_17 hr_136 (Or.inl (by omega)) ⟨rfl, _, rfl, by rw [ec, decide_eq_false (by omega), if_neg (by decide)]; omega⟩
  · refine AR.iconstT hk_136_12 (by decide) (fun z116 ez116 => ?_)
    show AR _ _ _ _ _ _ _ 13 [(0, .int x), (1, .int y)] [.int z116] h _ _
    refine AR.gotoT hk_136_13 (tgt := 17) (by decide) ?_
    exact AR.zret hk_136_17 hr_136 (Or.inr (by omega)) ⟨rfl, _, rfl, by rw [ec, decide_eq_true (by omega), if_pos rfl]; omega⟩
theorem gd_out {ts : List Int32} {j : Nat} (h : ts.length ≤ j) : ts.getD j 0 = 0 := by rw [List.getD_eq_getElem?_getD, List.getElem?_eq_none h]; rfl
theorem sk_gd {ts : List Int32} (h : ∀ c ∈ ts, sk c) (j : Nat) : sk (ts.getD j 0) := by
  by_cases e : j < ts.length
  · exact sk_get h e
  · rw [gd_out (by omega)]
    exact ⟨by decide, by decide⟩
theorem t_132 (hlst : l.stackTraces = false) (S : sT h a ts) (x0 : 0 ≤ x.toInt) : AM ax_ns l (ax_mm 132) 4 ty_R (0) (0) [.ref a, .int x] h (sq_ca h (ts.getD x.toInt.toNat 0)) := by
  refine AM.of (ax_mfacts (by decide +kernel : ax_has 132 = true)).2.2.2.2.2.2 hlst (by rw [hn_132]; exact Nat.le_of_ble_eq_true rfl) ?_
  show AR ax_ns l (ax_mm 132) 4 ty_R _ _ 0 [(0, .ref a), (1, .int x)] [] h (0) (0)
  refine AR.s (pc' := 1) (lv' := [(0, .ref a), (1, .int x)]) (st' := [.int x]) (h' := h) _ hn_132 hk_132_0 rfl ?_
  refine AR.s (pc' := 2) (lv' := [(0, .ref a), (1, .int x)]) (st' := [.ref a, .int x]) (h' := h) _ hn_132 hk_132_1 rfl ?_
  refine AR.jS (as := []) (rest := [.int x]) hk_132_2 hs_132_2 (by decide +kernel) (by decide +kernel) (by decide +kernel) (ax_wk_mem (ix := 3189) (by decide +kernel)) S rfl rfl (Nat.le_of_ble_eq_true rfl) (s_275 hlst S) (by decide) (Nat.zero_le _) (Nat.zero_le _) (fun E h' q => by obtain ⟨-, x, e, -⟩ := q; cases e) ?_
  rintro w117 g118 ⟨eg118, z119, e, ez119⟩
  cases e
  obtain rfl := eg118.symm
  show AR _ _ _ _ _ _ _ 5 [(0, .ref a), (1, .int x)] [.int z119, .int x] h _ _
  refine AR.jge hk_132_5 (tgt := 16) (by decide) (fun p1 => ?_) (fun p2 => ?_)
  · refine AR.iconstT hk_132_16 (by decide) (fun z120 ez120 => ?_)
    show AR _ _ _ _ _ _ _ 17 [(0, .ref a), (1, .int x)] [.int z120] h _ _
    obtain rfl : z120 = 0 := Int32.toInt_inj.mp ez120
    exact AR.iret hk_132_17 hr_132 ⟨rfl, by rw [gd_out (by omega)]⟩
  · refine AR.s (pc' := 9) (lv' := [(0, .ref a), (1, .int x)]) (st' := [.ref a]) (h' := h) _ hn_132 hk_132_8 rfl ?_
    refine AR.s (pc' := 10) (lv' := [(0, .ref a), (1, .int x)]) (st' := [.int x, .ref a]) (h' := h) _ hn_132 hk_132_9 rfl ?_
    refine AR.jS (as := [.int x]) (rest := []) hk_132_10 hs_132_10 (by decide +kernel) (by decide +kernel) (by decide +kernel) (ax_wk_mem (ix := 3204) (by decide +kernel)) S rfl rfl (Nat.le_of_ble_eq_true rfl) (s_149 hlst S x0 (by omega)) (by decide) (Nat.zero_le _) (Nat.zero_le _) (fun E h' q => by cases q.2) ?_
    rintro w9 g9 ⟨e9, e⟩
    cases e
    obtain rfl := e9.symm
    show AR _ _ _ _ _ _ _ 13 [(0, .ref a), (1, .int x)] [.int (ts.getD x.toInt.toNat 0)] h _ _
    refine AR.gotoT hk_132_13 (tgt := 17) (by decide) ?_
    exact AR.iret hk_132_17 hr_132 ⟨rfl, rfl⟩
def wd (ts : List Int32) (p : Nat) : Int32 := wdx (ts.getD p 0) (ts.getD (p + 1) 0) (ts.getD (p + 2) 0) (ts.getD (p + 3) 0)
theorem t_133 (hlst : l.stackTraces = false) {p : Nat} (S : sT h a ts) (hx : x.toInt = p) (hp : p ≤ 1000) : AM ax_ns l (ax_mm 133) 5 ty_R (0) (0) [.ref a, .int x] h (sq_ca h (wd ts p)) := by
  refine AM.of (ax_mfacts (by decide +kernel : ax_has 133 = true)).2.2.2.2.2.2 hlst (by rw [hn_133]; exact Nat.le_of_ble_eq_true rfl) ?_
  show AR ax_ns l (ax_mm 133) 5 ty_R _ _ 0 [(0, .ref a), (1, .int x)] [] h (0) (0)
  refine AR.s (pc' := 1) (lv' := [(0, .ref a), (1, .int x)]) (st' := [.ref a]) (h' := h) _ hn_133 hk_133_0 rfl ?_
  refine AR.s (pc' := 2) (lv' := [(0, .ref a), (1, .int x)]) (st' := [.int x, .ref a]) (h' := h) _ hn_133 hk_133_1 rfl ?_
  refine AR.cs (as := [.ref a, .int x]) (rest := []) hk_133_2 (by decide +kernel) rfl rfl (Nat.le_of_ble_eq_true rfl) (t_132 hlst S (x := x) (by omega)) (by decide) (Nat.zero_le _) (Nat.zero_le _) (fun E h' q => by cases q.2) ?_
  rintro w09 g09 ⟨e09, e⟩
  cases e
  obtain rfl := e09.symm
  rw [show x.toInt.toNat = p by omega]
  generalize hb0 : ts.getD (p) 0 = b0
  show AR _ _ _ _ _ _ _ 5 [(0, .ref a), (1, .int x)] [.int b0] h _ _
  refine AR.bipushT hk_133_5 (by decide) (fun z121 ez121 => ?_)
  show AR _ _ _ _ _ _ _ 7 [(0, .ref a), (1, .int x)] [.int z121, .int b0] h _ _
  rw [show z121 = Int32.ofNat 24 from Int32.toInt_inj.mp (ez121.trans (by decide))]
  show AR _ _ _ _ _ _ _ 7 [(0, .ref a), (1, .int x)] [.int (Int32.ofNat 24), .int b0] h _ _
  refine AR.ishl (z := .int (b0 <<< ((Int32.ofNat 24) &&& 31))) (ax_look_ok hk_133_7).1 rfl ?_
  generalize gz122 : b0 <<< ((Int32.ofNat 24) &&& 31) = z122
  show AR _ _ _ _ _ _ _ 8 [(0, .ref a), (1, .int x)] [.int z122] h _ _
  refine AR.s (pc' := 9) (lv' := [(0, .ref a), (1, .int x)]) (st' := [.ref a, .int z122]) (h' := h) _ hn_133 hk_133_8 rfl ?_
  refine AR.s (pc' := 10) (lv' := [(0, .ref a), (1, .int x)]) (st' := [.int x, .ref a, .int z122]) (h' := h) _ hn_133 hk_133_9 rfl ?_
  refine AR.iconstT hk_133_10 (by decide) (fun z123 ez123 => ?_)
  show AR _ _ _ _ _ _ _ 11 [(0, .ref a), (1, .int x)] [.int z123, .int x, .ref a, .int z122] h _ _
  refine AR.addT hk_133_11 (by omega) (by omega) (fun z124 ez124 => ?_)
  show AR _ _ _ _ _ _ _ 12 [(0, .ref a), (1, .int x)] [.int z124, .ref a, .int z122] h _ _
  refine AR.cs (as := [.ref a, .int z124]) (rest := [.int z122]) hk_133_12 (by decide +kernel) rfl rfl (Nat.le_of_ble_eq_true rfl) (t_132 hlst S (x := z124) (by omega)) (by decide) (Nat.zero_le _) (Nat.zero_le _) (fun E h' q => by cases q.2) ?_
  rintro w19 g19 ⟨e19, e⟩
  cases e
  obtain rfl := e19.symm
  rw [show z124.toInt.toNat = p + 1 by omega]
  generalize hb1 : ts.getD (p + 1) 0 = b1
  show AR _ _ _ _ _ _ _ 15 [(0, .ref a), (1, .int x)] [.int b1, .int z122] h _ _
  refine AR.bipushT hk_133_15 (by decide) (fun z125 ez125 => ?_)
  show AR _ _ _ _ _ _ _ 17 [(0, .ref a), (1, .int x)] [.int z125, .int b1, .int z122] h _ _
  rw [show z125 = Int32.ofNat 16 from Int32.toInt_inj.mp (ez125.trans (by decide))]
  show AR _ _ _ _ _ _ _ 17 [(0, .ref a), (1, .int x)] [.int (Int32.ofNat 16), .int b1, .int z122] h _ _
  refine AR.ishl (z := .int (b1 <<< ((Int32.ofNat 16) &&& 31))) (ax_look_ok hk_133_17).1 rfl ?_
  generalize gz126 : b1 <<< ((Int32.ofNat 16) &&& 31) = z126
  show AR _ _ _ _ _ _ _ 18 [(0, .ref a), (1, .int x)] [.int z126, .int z122] h _ _
  refine AR.ior (z := .int (z122 ||| z126)) (ax_look_ok hk_133_18).1 rfl ?_
  generalize gz127 : z122 ||| z126 = z127
  show AR _ _ _ _ _ _ _ 19 [(0, .ref a), (1, .int x)] [.int z127] h _ _
  refine AR.s (pc' := 20) (lv' := [(0, .ref a), (1, .int x)]) (st' := [.ref a, .int z127]) (h' := h) _ hn_133 hk_133_19 rfl ?_
  refine AR.s (pc' := 21) (lv' := [(0, .ref a), (1, .int x)]) (st' := [.int x, .ref a, .int z127]) (h' := h) _ hn_133 hk_133_20 rfl ?_
  refine AR.iconstT hk_133_21 (by decide) (fun z128 ez128 => ?_)
  show AR _ _ _ _ _ _ _ 22 [(0, .ref a), (1, .int x)] [.int z128, .int x, .ref a, .int z127] h _ _
  refine AR.addT hk_133_22 (by omega) (by omega) (fun z129 ez129 => ?_)
  show AR _ _ _ _ _ _ _ 23 [(0, .ref a), (1, .int x)] [.int z129, .ref a, .int z127] h _ _
  refine AR.cs (as := [.ref a, .int z129]) (rest := [.int z127]) hk_133_23 (by decide +kernel) rfl rfl (Nat.le_of_ble_eq_true rfl) (t_132 hlst S (x := z129) (by omega)) (by decide) (Nat.zero_le _) (Nat.zero_le _) (fun E h' q => by cases q.2) ?_
  rintro w29 g29 ⟨e29, e⟩
  cases e
  obtain rfl := e29.symm
  rw [show z129.toInt.toNat = p + 2 by omega]
  generalize hb2 : ts.getD (p + 2) 0 = b2
  show AR _ _ _ _ _ _ _ 26 [(0, .ref a), (1, .int x)] [.int b2, .int z127] h _ _
  refine AR.bipushT hk_133_26 (by decide) (fun z130 ez130 => ?_)
  show AR _ _ _ _ _ _ _ 28 [(0, .ref a), (1, .int x)] [.int z130, .int b2, .int z127] h _ _
  rw [show z130 = Int32.ofNat 8 from Int32.toInt_inj.mp (ez130.trans (by decide))]
  show AR _ _ _ _ _ _ _ 28 [(0, .ref a), (1, .int x)] [.int (Int32.ofNat 8), .int b2, .int z127] h _ _
  refine AR.ishl (z := .int (b2 <<< ((Int32.ofNat 8) &&& 31))) (ax_look_ok hk_133_28).1 rfl ?_
  generalize gz131 : b2 <<< ((Int32.ofNat 8) &&& 31) = z131
  show AR _ _ _ _ _ _ _ 29 [(0, .ref a), (1, .int x)] [.int z131, .int z127] h _ _
  refine AR.ior (z := .int (z127 ||| z131)) (ax_look_ok hk_133_29).1 rfl ?_
  generalize gz132 : z127 ||| z131 = z132
  show AR _ _ _ _ _ _ _ 30 [(0, .ref a), (1, .int x)] [.int z132] h _ _
  refine AR.s (pc' := 31) (lv' := [(0, .ref a), (1, .int x)]) (st' := [.ref a, .int z132]) (h' := h) _ hn_133 hk_133_30 rfl ?_
  refine AR.s (pc' := 32) (lv' := [(0, .ref a), (1, .int x)]) (st' := [.int x, .ref a, .int z132]) (h' := h) _ hn_133 hk_133_31 rfl ?_
  refine AR.iconstT hk_133_32 (by decide) (fun z133 ez133 => ?_)
  show AR _ _ _ _ _ _ _ 33 [(0, .ref a), (1, .int x)] [.int z133, .int x, .ref a, .int z132] h _ _
  refine AR.addT hk_133_33 (by omega) (by omega) (fun z134 ez134 => ?_)
  show AR _ _ _ _ _ _ _ 34 [(0, .ref a), (1, .int x)] [.int z134, .ref a, .int z132] h _ _
  refine AR.cs (as := [.ref a, .int z134]) (rest := [.int z132]) hk_133_34 (by decide +kernel) rfl rfl (Nat.le_of_ble_eq_true rfl) (t_132 hlst S (x := z134) (by omega)) (by decide) (Nat.zero_le _) (Nat.zero_le _) (fun E h' q => by cases q.2) ?_
  rintro w39 g39 ⟨e39, e⟩
  cases e
  obtain rfl := e39.symm
  rw [show z134.toInt.toNat = p + 3 by omega]
  generalize hb3 : ts.getD (p + 3) 0 = b3
  show AR _ _ _ _ _ _ _ 37 [(0, .ref a), (1, .int x)] [.int b3, .int z132] h _ _
  refine AR.ior (z := .int (z132 ||| b3)) (ax_look_ok hk_133_37).1 rfl ?_
  generalize gz135 : z132 ||| b3 = z135
  show AR _ _ _ _ _ _ _ 38 [(0, .ref a), (1, .int x)] [.int z135] h _ _
  exact AR.iret hk_133_38 hr_133 ⟨rfl, by unfold wd wdx; rw [hb0, hb1, hb2, hb3, gz122, gz126, gz127, gz131, gz132, gz135]⟩
end LWB
section LWC
theorem hc_137 : (ax_mm 137).1.cls = "PseudoBooleanLaw" := by decide +kernel
theorem sl_42 : ((42, 2, [], "") : Nat × Nat × List Int32 × String) ∈ ax_sl := .head _
theorem sc_42 (h : ax_H) : sT h (1000000000 + 2) [] := ⟨by unfold sk; decide, by decide, Or.inr ⟨_, sl_42, rfl, rfl⟩⟩
theorem sl_54 : ((54, 4, [45], "-") : Nat × Nat × List Int32 × String) ∈ ax_sl := .tail _ (.head _)
theorem sc_54 (h : ax_H) : sT h (1000000000 + 4) [45] := ⟨by unfold sk; decide, by decide, Or.inr ⟨_, sl_54, rfl, rfl⟩⟩
theorem sl_56 : ((56, 6, [43], "+") : Nat × Nat × List Int32 × String) ∈ ax_sl := .tail _ (.tail _ (.head _))
theorem sc_56 (h : ax_H) : sT h (1000000000 + 6) [43] := ⟨by unfold sk; decide, by decide, Or.inr ⟨_, sl_56, rfl, rfl⟩⟩
theorem sl_69 : ((69, 8, [126], "~") : Nat × Nat × List Int32 × String) ∈ ax_sl := .tail _ (.tail _ (.tail _ (.head _)))
theorem sc_69 (h : ax_H) : sT h (1000000000 + 8) [126] := ⟨by unfold sk; decide, by decide, Or.inr ⟨_, sl_69, rfl, rfl⟩⟩
theorem sl_74 : ((74, 10, [32, 62, 61, 32], " >= ") : Nat × Nat × List Int32 × String) ∈ ax_sl := .tail _ (.tail _ (.tail _ (.tail _ (.head _))))
theorem sc_74 (h : ax_H) : sT h (1000000000 + 10) [32, 62, 61, 32] := ⟨by unfold sk; decide, by decide, Or.inr ⟨_, sl_74, rfl, rfl⟩⟩
theorem sl_76 : ((76, 12, [32, 60, 61, 32], " <= ") : Nat × Nat × List Int32 × String) ∈ ax_sl := .tail _ (.tail _ (.tail _ (.tail _ (.tail _ (.head _)))))
theorem sc_76 (h : ax_H) : sT h (1000000000 + 12) [32, 60, 61, 32] := ⟨by unfold sk; decide, by decide, Or.inr ⟨_, sl_76, rfl, rfl⟩⟩
variable {l : Launch} {P : ax_P} {X : ax_PX} {h g : ax_H} {c r d i k x y : Int32} {n0 B s a9 v : Nat} {bc bs : Nat} {us ts : List Int32}
theorem fB.mono {n1 : Nat} (F : fB n1 h g) (hn : n0 ≤ n1) : fB n0 h g := ⟨F.1, fun p hp => F.2 p (by omega)⟩
theorem sBx.lt (S : sBx h n0 B ts) : n0 ≤ h.length ∧ B < h.length ∧ (∀ c ∈ ts, sk c) ∧ n0 ≤ B := by
  obtain ⟨k, n, r, S⟩ := S
  have := sB_lt S
  exact ⟨this.2.2, this.1, S.2.2.2.2.2.2.2.2.2.1, S.2.2.2.2.2.2.1⟩
theorem sBx.fB (S : sBx h n0 B ts) (F : fB h.length h g) : sBx g n0 B ts := by
  obtain ⟨k, n, r, S⟩ := S
  have := sB_lt S
  exact ⟨k, n, r, by rw [F.2 B this.1]; exact S.1, by rw [F.2 k this.2.1]; exact S.2.1, S.2.2⟩
/-- sums of a constraint at a mask -/
def fs (c : Int32) (M : Nat) : Nat → Int
  | 0 => 0
  | v + 1 => fs c M v + (if M.testBit v = !(ng c v) then co c v else 0)
theorem fs_bd (c : Int32) (M : Nat) : ∀ v : Nat, -3 * (v : Int) ≤ fs c M v ∧ fs c M v ≤ 3 * (v : Int)
  | 0 => by show -3 * 0 ≤ (0 : Int) ∧ (0 : Int) ≤ 3 * 0; omega
  | v + 1 => by
    have a := fs_bd c M v
    have b := co_bd c v
    show _ ≤ fs c M v + _ ∧ fs c M v + _ ≤ _
    split <;> omega
def fu (r d S : Int) : Bool := if r = 0 then decide (d ≤ S) else decide (S ≤ d)
theorem fu_0 {r d S : Int} (h : r = 0) : fu r d S = decide (d ≤ S) := if_pos h
theorem fu_1 {r d S : Int} (h : r ≠ 0) : fu r d S = decide (S ≤ d) := if_neg h
theorem t138_44 (hlst : l.stackTraces = false) {p q m u : Int32} (hi : i.toInt = v) (hv : v < 6) (hs : -100 ≤ m.toInt ∧ m.toInt ≤ 100) (K : ∀ s' j' : Int32, s'.toInt = m.toInt + (if p.toInt = q.toInt then co c v else 0) → j'.toInt = (v : Int) + 1 → AR ax_ns l (ax_mm 138) 2 ty_R P X 6 [(5, .int j'), (4, .int s'), (3, .int x), (2, .int d), (1, .int r), (0, .int c)] [] h bc bs) : AR ax_ns l (ax_mm 138) 2 ty_R P X 44 [(5, .int i), (4, .int u), (3, .int x), (2, .int d), (1, .int r), (0, .int c)] [.int q, .int p, .int m] h bc bs := by
  have cb := co_bd c v
  show AR _ _ _ _ _ _ _ 44 [(5, .int i), (4, .int u), (3, .int x), (2, .int d), (1, .int r), (0, .int c)] [.int q, .int p, .int m] h _ _
  refine AR.jne hk_138_44 (tgt := 56) (by decide) (fun p1 => ?_) (fun p2 => ?_)
  · refine AR.iconstT hk_138_56 (by decide) (fun z136 ez136 => ?_)
    show AR _ _ _ _ _ _ _ 57 [(5, .int i), (4, .int u), (3, .int x), (2, .int d), (1, .int r), (0, .int c)] [.int z136, .int m] h _ _
    refine AR.addT hk_138_57 (by omega) (by omega) (fun z137 ez137 => ?_)
    show AR _ _ _ _ _ _ _ 58 [(5, .int i), (4, .int u), (3, .int x), (2, .int d), (1, .int r), (0, .int c)] [.int z137] h _ _
    refine AR.s (pc' := 60) (lv' := [(4, .int z137), (5, .int i), (3, .int x), (2, .int d), (1, .int r), (0, .int c)]) (st' := []) (h' := h) _ hn_138 hk_138_58 rfl ?_
    refine AR.iincT hk_138_60 (x := i) rfl (by rw [hn_138]; decide) (by decide) (by omega) (by omega) (fun z138 ez138 => ?_)
    show AR _ _ _ _ _ _ _ 63 [(5, .int z138), (4, .int z137), (3, .int x), (2, .int d), (1, .int r), (0, .int c)] [] h _ _
    refine AR.gotoT hk_138_63 (tgt := 6) (by decide) ?_
    refine AR.lessL (lv' := [(5, .int z138), (4, .int z137), (3, .int x), (2, .int d), (1, .int r), (0, .int c)]) (List.forall_mem_cons.mpr ⟨⟨_, by simp, ax_le_rfl rfl⟩, (List.forall_mem_cons.mpr ⟨⟨_, by simp, ax_le_rfl rfl⟩, (List.forall_mem_cons.mpr ⟨⟨_, by simp, ax_le_rfl rfl⟩, (List.forall_mem_cons.mpr ⟨⟨_, by simp, ax_le_rfl rfl⟩, (List.forall_mem_cons.mpr ⟨⟨_, by simp, ax_le_rfl rfl⟩, (List.forall_mem_cons.mpr ⟨⟨_, by simp, ax_le_rfl rfl⟩, (fun _ h => absurd h List.not_mem_nil)⟩)⟩)⟩)⟩)⟩)⟩) ?_
    exact K _ _ (by rw [if_neg p1]; omega) (by omega)
  · refine AR.s (pc' := 48) (lv' := [(5, .int i), (4, .int u), (3, .int x), (2, .int d), (1, .int r), (0, .int c)]) (st' := [.int c, .int m]) (h' := h) _ hn_138 hk_138_47 rfl ?_
    refine AR.s (pc' := 50) (lv' := [(5, .int i), (4, .int u), (3, .int x), (2, .int d), (1, .int r), (0, .int c)]) (st' := [.int i, .int c, .int m]) (h' := h) _ hn_138 hk_138_48 rfl ?_
    refine AR.cs (as := [.int c, .int i]) (rest := [.int m]) hk_138_50 (by decide +kernel) rfl rfl (Nat.le_of_ble_eq_true rfl) (t_135 hlst (n := v) hi hv) (by decide) (Nat.zero_le _) (Nat.zero_le _) (fun E h' q => by obtain ⟨-, x, e, -⟩ := q; cases e) ?_
    rintro w139 g140 ⟨eg140, z141, e, ez141⟩
    cases e
    obtain rfl := eg140.symm
    show AR _ _ _ _ _ _ _ 53 [(5, .int i), (4, .int u), (3, .int x), (2, .int d), (1, .int r), (0, .int c)] [.int z141, .int m] h _ _
    refine AR.gotoT hk_138_53 (tgt := 57) (by decide) ?_
    refine AR.addT hk_138_57 (by omega) (by omega) (fun z142 ez142 => ?_)
    show AR _ _ _ _ _ _ _ 58 [(5, .int i), (4, .int u), (3, .int x), (2, .int d), (1, .int r), (0, .int c)] [.int z142] h _ _
    refine AR.s (pc' := 60) (lv' := [(4, .int z142), (5, .int i), (3, .int x), (2, .int d), (1, .int r), (0, .int c)]) (st' := []) (h' := h) _ hn_138 hk_138_58 rfl ?_
    refine AR.iincT hk_138_60 (x := i) rfl (by rw [hn_138]; decide) (by decide) (by omega) (by omega) (fun z143 ez143 => ?_)
    show AR _ _ _ _ _ _ _ 63 [(5, .int z143), (4, .int z142), (3, .int x), (2, .int d), (1, .int r), (0, .int c)] [] h _ _
    refine AR.gotoT hk_138_63 (tgt := 6) (by decide) ?_
    refine AR.lessL (lv' := [(5, .int z143), (4, .int z142), (3, .int x), (2, .int d), (1, .int r), (0, .int c)]) (List.forall_mem_cons.mpr ⟨⟨_, by simp, ax_le_rfl rfl⟩, (List.forall_mem_cons.mpr ⟨⟨_, by simp, ax_le_rfl rfl⟩, (List.forall_mem_cons.mpr ⟨⟨_, by simp, ax_le_rfl rfl⟩, (List.forall_mem_cons.mpr ⟨⟨_, by simp, ax_le_rfl rfl⟩, (List.forall_mem_cons.mpr ⟨⟨_, by simp, ax_le_rfl rfl⟩, (List.forall_mem_cons.mpr ⟨⟨_, by simp, ax_le_rfl rfl⟩, (fun _ h => absurd h List.not_mem_nil)⟩)⟩)⟩)⟩)⟩)⟩) ?_
    exact K _ _ (by rw [if_pos p2]; omega) (by omega)
theorem t138_30 (hlst : l.stackTraces = false) {p m u : Int32} {M : Nat} (hi : i.toInt = v) (hv : v < 6) (hs : -100 ≤ m.toInt ∧ m.toInt ≤ 100) (hp : p.toInt = if M.testBit v then 1 else 0) (K : ∀ s' j' : Int32, s'.toInt = m.toInt + (if M.testBit v = !(ng c v) then co c v else 0) → j'.toInt = (v : Int) + 1 → AR ax_ns l (ax_mm 138) 2 ty_R P X 6 [(5, .int j'), (4, .int s'), (3, .int x), (2, .int d), (1, .int r), (0, .int c)] [] h bc bs) : AR ax_ns l (ax_mm 138) 2 ty_R P X 30 [(5, .int i), (4, .int u), (3, .int x), (2, .int d), (1, .int r), (0, .int c)] [.int p, .int m] h bc bs := by
  show AR _ _ _ _ _ _ _ 30 [(5, .int i), (4, .int u), (3, .int x), (2, .int d), (1, .int r), (0, .int c)] [.int p, .int m] h _ _
  refine AR.s (pc' := 31) (lv' := [(5, .int i), (4, .int u), (3, .int x), (2, .int d), (1, .int r), (0, .int c)]) (st' := [.int c, .int p, .int m]) (h' := h) _ hn_138 hk_138_30 rfl ?_
  refine AR.s (pc' := 33) (lv' := [(5, .int i), (4, .int u), (3, .int x), (2, .int d), (1, .int r), (0, .int c)]) (st' := [.int i, .int c, .int p, .int m]) (h' := h) _ hn_138 hk_138_31 rfl ?_
  refine AR.cs (as := [.int c, .int i]) (rest := [.int p, .int m]) hk_138_33 (by decide +kernel) rfl rfl (Nat.le_of_ble_eq_true rfl) (t_136 hlst (n := v) hi hv) (by decide) (Nat.zero_le _) (Nat.zero_le _) (fun E h' q => by obtain ⟨-, x, e, -⟩ := q; cases e) ?_
  rintro w144 g145 ⟨eg145, z146, e, ez146⟩
  cases e
  obtain rfl := eg145.symm
  show AR _ _ _ _ _ _ _ 36 [(5, .int i), (4, .int u), (3, .int x), (2, .int d), (1, .int r), (0, .int c)] [.int z146, .int p, .int m] h _ _
  refine AR.zne hk_138_36 (tgt := 43) (by decide) (fun p1 => ?_) (fun p2 => ?_)
  · refine AR.iconstT hk_138_43 (by decide) (fun z147 ez147 => ?_)
    show AR _ _ _ _ _ _ _ 44 [(5, .int i), (4, .int u), (3, .int x), (2, .int d), (1, .int r), (0, .int c)] [.int z147, .int p, .int m] h _ _
    refine t138_44 hlst hi hv hs (fun s' j' e1 e2 => K s' j' ?_ e2)
    rw [e1, hp, ez147]
    rw [ez146] at p1
    cases hb : M.testBit v <;> cases hg : ng c v <;> simp [hb, hg] at p1 ⊢
  · refine AR.iconstT hk_138_39 (by decide) (fun z148 ez148 => ?_)
    show AR _ _ _ _ _ _ _ 40 [(5, .int i), (4, .int u), (3, .int x), (2, .int d), (1, .int r), (0, .int c)] [.int z148, .int p, .int m] h _ _
    refine AR.gotoT hk_138_40 (tgt := 44) (by decide) ?_
    refine t138_44 hlst hi hv hs (fun s' j' e1 e2 => K s' j' ?_ e2)
    rw [e1, hp, ez148]
    rw [ez146] at p2
    cases hb : M.testBit v <;> cases hg : ng c v <;> simp [hb, hg] at p2 ⊢
def tq8 (h : ax_H) (b : Bool) : ax_Q := fun res g => g = h ∧ ∃ z : Int32, res = .inl (some (.int z)) ∧ z.toInt = if b then 1 else 0
theorem t138_L (hlst : l.stackTraces = false) {M : Nat} (hx : x.toInt = M) (hM : M < 64) (hr : r.toInt = 0 ∨ r.toInt = 1) : ∀ (n v : Nat) (j m : Int32), v + n = 6 → j.toInt = v → m.toInt = fs c M v → AR ax_ns l (ax_mm 138) 2 ty_R (ax_ret ax_ns (ax_mm 138) (tq8 h (fu r.toInt d.toInt (fs c M 6)))) X 6 [(5, .int j), (4, .int m), (3, .int x), (2, .int d), (1, .int r), (0, .int c)] [] h bc bs := by
  intro n
  induction n with
  | zero =>
    intro v j m hn hj hm
    have fb := fs_bd c M v
    show AR _ _ _ _ _ _ _ 6 [(5, .int j), (4, .int m), (3, .int x), (2, .int d), (1, .int r), (0, .int c)] [] h _ _
    refine AR.s (pc' := 8) (lv' := [(5, .int j), (4, .int m), (3, .int x), (2, .int d), (1, .int r), (0, .int c)]) (st' := [.int j]) (h' := h) _ hn_138 hk_138_6 rfl ?_
    refine AR.bipushT hk_138_8 (by decide) (fun z149 ez149 => ?_)
    show AR _ _ _ _ _ _ _ 10 [(5, .int j), (4, .int m), (3, .int x), (2, .int d), (1, .int r), (0, .int c)] [.int z149, .int j] h _ _
    refine AR.jge hk_138_10 (tgt := 66) (by decide) (fun p1 => ?_) (fun p2 => ?_)
    · obtain rfl : v = 6 := by omega
      refine AR.s (pc' := 67) (lv' := [(5, .int j), (4, .int m), (3, .int x), (2, .int d), (1, .int r), (0, .int c)]) (st' := [.int r]) (h' := h) _ hn_138 hk_138_66 rfl ?_
      refine AR.zne hk_138_67 (tgt := 84) (by decide) (fun q1 => ?_) (fun q2 => ?_)
      · refine AR.s (pc' := 85) (lv' := [(5, .int j), (4, .int m), (3, .int x), (2, .int d), (1, .int r), (0, .int c)]) (st' := [.int r]) (h' := h) _ hn_138 hk_138_84 rfl ?_
        refine AR.iconstT hk_138_85 (by decide) (fun z150 ez150 => ?_)
        show AR _ _ _ _ _ _ _ 86 [(5, .int j), (4, .int m), (3, .int x), (2, .int d), (1, .int r), (0, .int c)] [.int z150, .int r] h _ _
        refine AR.jne hk_138_86 (tgt := 103) (by decide) (fun r1 => ?_) (fun r2 => ?_)
        · exact absurd r1 (by omega)
        · refine AR.s (pc' := 91) (lv' := [(5, .int j), (4, .int m), (3, .int x), (2, .int d), (1, .int r), (0, .int c)]) (st' := [.int m]) (h' := h) _ hn_138 hk_138_89 rfl ?_
          refine AR.s (pc' := 92) (lv' := [(5, .int j), (4, .int m), (3, .int x), (2, .int d), (1, .int r), (0, .int c)]) (st' := [.int d, .int m]) (h' := h) _ hn_138 hk_138_91 rfl ?_
          refine AR.jgt hk_138_92 (tgt := 99) (by decide) (fun x1 => ?_) (fun x2 => ?_)
          · refine AR.iconstT hk_138_99 (by decide) (fun z151 ez151 => ?_)
            show AR _ _ _ _ _ _ _ 100 [(5, .int j), (4, .int m), (3, .int x), (2, .int d), (1, .int r), (0, .int c)] [.int z151] h _ _
            refine AR.gotoT hk_138_100 (tgt := 114) (by decide) ?_
            exact AR.zret hk_138_114 hr_138 (Or.inl (by omega)) ⟨rfl, _, rfl, by rw [fu_1 q1, decide_eq_false (by omega), if_neg (by decide)]; omega⟩
          · refine AR.iconstT hk_138_95 (by decide) (fun z152 ez152 => ?_)
            show AR _ _ _ _ _ _ _ 96 [(5, .int j), (4, .int m), (3, .int x), (2, .int d), (1, .int r), (0, .int c)] [.int z152] h _ _
            refine AR.gotoT hk_138_96 (tgt := 114) (by decide) ?_
            exact AR.zret hk_138_114 hr_138 (Or.inr (by omega)) ⟨rfl, _, rfl, by rw [fu_1 q1, decide_eq_true (by omega), if_pos rfl]; omega⟩
      · refine AR.s (pc' := 72) (lv' := [(5, .int j), (4, .int m), (3, .int x), (2, .int d), (1, .int r), (0, .int c)]) (st' := [.int m]) (h' := h) _ hn_138 hk_138_70 rfl ?_
        refine AR.s (pc' := 73) (lv' := [(5, .int j), (4, .int m), (3, .int x), (2, .int d), (1, .int r), (0, .int c)]) (st' := [.int d, .int m]) (h' := h) _ hn_138 hk_138_72 rfl ?_
        refine AR.jlt hk_138_73 (tgt := 80) (by decide) (fun x1 => ?_) (fun x2 => ?_)
        · refine AR.iconstT hk_138_80 (by decide) (fun z153 ez153 => ?_)
          show AR _ _ _ _ _ _ _ 81 [(5, .int j), (4, .int m), (3, .int x), (2, .int d), (1, .int r), (0, .int c)] [.int z153] h _ _
          refine AR.gotoT hk_138_81 (tgt := 114) (by decide) ?_
          exact AR.zret hk_138_114 hr_138 (Or.inl (by omega)) ⟨rfl, _, rfl, by rw [fu_0 q2, decide_eq_false (by omega), if_neg (by decide)]; omega⟩
        · refine AR.iconstT hk_138_76 (by decide) (fun z154 ez154 => ?_)
          show AR _ _ _ _ _ _ _ 77 [(5, .int j), (4, .int m), (3, .int x), (2, .int d), (1, .int r), (0, .int c)] [.int z154] h _ _
          refine AR.gotoT hk_138_77 (tgt := 114) (by decide) ?_
          exact AR.zret hk_138_114 hr_138 (Or.inr (by omega)) ⟨rfl, _, rfl, by rw [fu_0 q2, decide_eq_true (by omega), if_pos rfl]; omega⟩
    · exact absurd p2 (by omega)
  | succ n ih =>
    intro v j m hn hj hm
    have fb := fs_bd c M v
    show AR _ _ _ _ _ _ _ 6 [(5, .int j), (4, .int m), (3, .int x), (2, .int d), (1, .int r), (0, .int c)] [] h _ _
    refine AR.s (pc' := 8) (lv' := [(5, .int j), (4, .int m), (3, .int x), (2, .int d), (1, .int r), (0, .int c)]) (st' := [.int j]) (h' := h) _ hn_138 hk_138_6 rfl ?_
    refine AR.bipushT hk_138_8 (by decide) (fun z155 ez155 => ?_)
    show AR _ _ _ _ _ _ _ 10 [(5, .int j), (4, .int m), (3, .int x), (2, .int d), (1, .int r), (0, .int c)] [.int z155, .int j] h _ _
    refine AR.jge hk_138_10 (tgt := 66) (by decide) (fun p1 => ?_) (fun p2 => ?_)
    · exact absurd p1 (by omega)
    · refine AR.s (pc' := 15) (lv' := [(5, .int j), (4, .int m), (3, .int x), (2, .int d), (1, .int r), (0, .int c)]) (st' := [.int m]) (h' := h) _ hn_138 hk_138_13 rfl ?_
      refine AR.s (pc' := 16) (lv' := [(5, .int j), (4, .int m), (3, .int x), (2, .int d), (1, .int r), (0, .int c)]) (st' := [.int x, .int m]) (h' := h) _ hn_138 hk_138_15 rfl ?_
      refine AR.s (pc' := 18) (lv' := [(5, .int j), (4, .int m), (3, .int x), (2, .int d), (1, .int r), (0, .int c)]) (st' := [.int j, .int x, .int m]) (h' := h) _ hn_138 hk_138_16 rfl ?_
      refine AR.ishr (z := .int (x >>> (j &&& 31))) (ax_look_ok hk_138_18).1 rfl ?_
      generalize gz156 : x >>> (j &&& 31) = z156
      show AR _ _ _ _ _ _ _ 19 [(5, .int j), (4, .int m), (3, .int x), (2, .int d), (1, .int r), (0, .int c)] [.int z156, .int m] h _ _
      refine AR.iconstT hk_138_19 (by decide) (fun z157 ez157 => ?_)
      show AR _ _ _ _ _ _ _ 20 [(5, .int j), (4, .int m), (3, .int x), (2, .int d), (1, .int r), (0, .int c)] [.int z157, .int z156, .int m] h _ _
      refine AR.iand (z := .int (z156 &&& z157)) (ax_look_ok hk_138_20).1 rfl ?_
      generalize gz158 : z156 &&& z157 = z158
      show AR _ _ _ _ _ _ _ 21 [(5, .int j), (4, .int m), (3, .int x), (2, .int d), (1, .int r), (0, .int c)] [.int z158, .int m] h _ _
      have wt : z158.toInt = if M.testBit v then 1 else 0 := by rw [← gz158, ← gz156]; exact p_tb hx hM (by omega) (by omega) ez157
      show AR _ _ _ _ _ _ _ 21 [(5, .int j), (4, .int m), (3, .int x), (2, .int d), (1, .int r), (0, .int c)] [.int z158, .int m] h _ _
      refine AR.iconstT hk_138_21 (by decide) (fun z159 ez159 => ?_)
      show AR _ _ _ _ _ _ _ 22 [(5, .int j), (4, .int m), (3, .int x), (2, .int d), (1, .int r), (0, .int c)] [.int z159, .int z158, .int m] h _ _
      refine AR.jne hk_138_22 (tgt := 29) (by decide) (fun q1 => ?_) (fun q2 => ?_)
      · refine AR.iconstT hk_138_29 (by decide) (fun z160 ez160 => ?_)
        show AR _ _ _ _ _ _ _ 30 [(5, .int j), (4, .int m), (3, .int x), (2, .int d), (1, .int r), (0, .int c)] [.int z160, .int m] h _ _
        refine t138_30 hlst (M := M) hj (by omega) (by omega) ?_ (fun s' j' e1 e2 => ih (v + 1) j' s' (by omega) (by omega) ?_)
        · by_cases e : M.testBit v = true
          · rw [if_pos e] at wt ⊢; omega
          · rw [if_neg e] at wt ⊢; omega
        · rw [e1, hm]; rfl
      · refine AR.iconstT hk_138_25 (by decide) (fun z161 ez161 => ?_)
        show AR _ _ _ _ _ _ _ 26 [(5, .int j), (4, .int m), (3, .int x), (2, .int d), (1, .int r), (0, .int c)] [.int z161, .int m] h _ _
        refine AR.gotoT hk_138_26 (tgt := 30) (by decide) ?_
        refine t138_30 hlst (M := M) hj (by omega) (by omega) ?_ (fun s' j' e1 e2 => ih (v + 1) j' s' (by omega) (by omega) ?_)
        · by_cases e : M.testBit v = true
          · rw [if_pos e] at wt ⊢; omega
          · rw [if_neg e] at wt ⊢; omega
        · rw [e1, hm]; rfl
theorem t_138 (hlst : l.stackTraces = false) {M : Nat} (hx : x.toInt = M) (hM : M < 64) (hr : r.toInt = 0 ∨ r.toInt = 1) : AM ax_ns l (ax_mm 138) 2 ty_R (0) (0) [.int c, .int r, .int d, .int x] h (tq8 h (fu r.toInt d.toInt (fs c M 6))) := by
  refine AM.of (ax_mfacts (by decide +kernel : ax_has 138 = true)).2.2.2.2.2.2 hlst (by rw [hn_138]; exact Nat.le_of_ble_eq_true rfl) ?_
  show AR ax_ns l (ax_mm 138) 2 ty_R _ _ 0 [(0, .int c), (1, .int r), (2, .int d), (3, .int x)] [] h (0) (0)
  refine AR.iconstT hk_138_0 (by decide) (fun z162 ez162 => ?_)
  show AR _ _ _ _ _ _ _ 1 [(0, .int c), (1, .int r), (2, .int d), (3, .int x)] [.int z162] h _ _
  refine AR.s (pc' := 3) (lv' := [(4, .int z162), (0, .int c), (1, .int r), (2, .int d), (3, .int x)]) (st' := []) (h' := h) _ hn_138 hk_138_1 rfl ?_
  refine AR.iconstT hk_138_3 (by decide) (fun z163 ez163 => ?_)
  show AR _ _ _ _ _ _ _ 4 [(4, .int z162), (0, .int c), (1, .int r), (2, .int d), (3, .int x)] [.int z163] h _ _
  refine AR.s (pc' := 6) (lv' := [(5, .int z163), (4, .int z162), (0, .int c), (1, .int r), (2, .int d), (3, .int x)]) (st' := []) (h' := h) _ hn_138 hk_138_4 rfl ?_
  refine AR.lessL (lv' := [(5, .int z163), (4, .int z162), (3, .int x), (2, .int d), (1, .int r), (0, .int c)]) (List.forall_mem_cons.mpr ⟨⟨_, by simp, ax_le_rfl rfl⟩, (List.forall_mem_cons.mpr ⟨⟨_, by simp, ax_le_rfl rfl⟩, (List.forall_mem_cons.mpr ⟨⟨_, by simp, ax_le_rfl rfl⟩, (List.forall_mem_cons.mpr ⟨⟨_, by simp, ax_le_rfl rfl⟩, (List.forall_mem_cons.mpr ⟨⟨_, by simp, ax_le_rfl rfl⟩, (List.forall_mem_cons.mpr ⟨⟨_, by simp, ax_le_rfl rfl⟩, (fun _ h => absurd h List.not_mem_nil)⟩)⟩)⟩)⟩)⟩)⟩) ?_
  exact t138_L hlst hx hM hr 6 0 _ _ rfl (by omega) (by show _ = (0 : Int); omega)
theorem ch_v {z : Int32} (hz : z.toInt = 97 + (v : Int)) (hv : v < 6) : z = Int32.ofNat (97 + v) := Int32.toInt_inj.mp (by rw [hz, let_c v (by omega)])
theorem t137_142 (hlst : l.stackTraces = false) (hi : i.toInt = v) (hv : v < 6) (S : sBx g n0 B ts) (T : sT g s us) (hl : ts.length + us.length ≤ 44) (K : ∀ (g' : ax_H) (a' : Nat) (i' : Int32), fB n0 g g' → sT g' a' (ts ++ (us ++ [Int32.ofNat (97 + v)])) → i'.toInt = (v : Int) + 1 → AR ax_ns l (ax_mm 137) 6 ty_R P X 6 [(4, .int i'), (3, .ref a'), (2, .int d), (1, .int r), (0, .int c)] [] g' bc bs) : AR ax_ns l (ax_mm 137) 6 ty_R P X 142 [(5, .int k), (4, .int i), (3, .ref a9), (2, .int d), (1, .int r), (0, .int c)] [.ref s, .ref B] g (bc + 4) (bs + 304) := by
  show AR _ _ _ _ _ _ _ 142 [(5, .int k), (4, .int i), (3, .ref a9), (2, .int d), (1, .int r), (0, .int c)] [.ref s, .ref B] g _ _
  obtain ⟨ko164, no164, ro164, oo164⟩ := id S
  refine AR.jV (as := [.ref s]) (rest := []) hk_137_142 hs_137_142 (by decide +kernel) (by decide +kernel) (by decide +kernel) (ax_wk_mem (ix := 4025) (by decide +kernel)) oo164.2.2.2.2.2.1 oo164.1 rfl rfl (Nat.le_of_ble_eq_true rfl) (s_262 hlst S T (by omega)) (by decide) (by omega) (by omega) (fun E h' q => by cases q.1) ?_
  rintro w9 g1 ⟨e, F1, S1⟩
  cases e
  show AR _ _ _ _ _ _ _ 145 [(5, .int k), (4, .int i), (3, .ref a9), (2, .int d), (1, .int r), (0, .int c)] [.ref B] g1 _ _
  refine AR.bipushT hk_137_145 (by decide) (fun z165 ez165 => ?_)
  show AR _ _ _ _ _ _ _ 147 [(5, .int k), (4, .int i), (3, .ref a9), (2, .int d), (1, .int r), (0, .int c)] [.int z165, .ref B] g1 _ _
  refine AR.s (pc' := 149) (lv' := [(5, .int k), (4, .int i), (3, .ref a9), (2, .int d), (1, .int r), (0, .int c)]) (st' := [.int i, .int z165, .ref B]) (h' := g1) _ hn_137 hk_137_147 rfl ?_
  refine AR.addT hk_137_149 (by omega) (by omega) (fun z166 ez166 => ?_)
  show AR _ _ _ _ _ _ _ 150 [(5, .int k), (4, .int i), (3, .ref a9), (2, .int d), (1, .int r), (0, .int c)] [.int z166, .ref B] g1 _ _
  refine AR.i2cX hk_137_150 (by omega) (by omega) ?_
  show AR _ _ _ _ _ _ _ 151 [(5, .int k), (4, .int i), (3, .ref a9), (2, .int d), (1, .int r), (0, .int c)] [.int z166, .ref B] g1 _ _
  obtain ⟨ko167, no167, ro167, oo167⟩ := id S1
  refine AR.jV (as := [.int z166]) (rest := []) hk_137_151 hs_137_151 (by decide +kernel) (by decide +kernel) (by decide +kernel) (ax_wk_mem (ix := 4214) (by decide +kernel)) oo167.2.2.2.2.2.1 oo167.1 rfl rfl (Nat.le_of_ble_eq_true rfl) (s_260 hlst S1 (by rw [List.length_append]; omega) ⟨by omega, by omega⟩) (by decide) (by omega) (by omega) (fun E h' q => by cases q.1) ?_
  rintro w9 g2 ⟨e, F2, S2⟩
  cases e
  show AR _ _ _ _ _ _ _ 154 [(5, .int k), (4, .int i), (3, .ref a9), (2, .int d), (1, .int r), (0, .int c)] [.ref B] g2 _ _
  obtain ⟨ko168, no168, ro168, oo168⟩ := id S2
  refine AR.jV (as := []) (rest := []) hk_137_154 hs_137_154 (by decide +kernel) (by decide +kernel) (by decide +kernel) (ax_wk_mem (ix := 4153) (by decide +kernel)) oo168.2.2.2.2.2.1 oo168.1 rfl rfl (Nat.le_of_ble_eq_true rfl) (s_154 hlst S2) (by decide) (by omega) (by omega) (fun E h' q => by obtain ⟨a, gs, e, -⟩ := q; cases e) ?_
  rintro w9 g3 ⟨a3, gs, e, e3, T3⟩
  cases e
  show AR _ _ _ _ _ _ _ 157 [(5, .int k), (4, .int i), (3, .ref a9), (2, .int d), (1, .int r), (0, .int c)] [.ref a3] g3 _ _
  refine AR.s (pc' := 158) (lv' := [(3, .ref a3), (5, .int k), (4, .int i), (2, .int d), (1, .int r), (0, .int c)]) (st' := []) (h' := g3) _ hn_137 hk_137_157 rfl ?_
  refine AR.iincT hk_137_158 (x := i) rfl (by rw [hn_137]; decide) (by decide) (by omega) (by omega) (fun z169 ez169 => ?_)
  show AR _ _ _ _ _ _ _ 161 [(4, .int z169), (3, .ref a3), (5, .int k), (2, .int d), (1, .int r), (0, .int c)] [] g3 _ _
  refine AR.gotoT hk_137_161 (tgt := 6) (by decide) ?_
  refine AR.lessL (lv' := [(4, .int z169), (3, .ref a3), (2, .int d), (1, .int r), (0, .int c)]) (List.forall_mem_cons.mpr ⟨⟨_, by simp, ax_le_rfl rfl⟩, (List.forall_mem_cons.mpr ⟨⟨_, by simp, ax_le_rfl rfl⟩, (List.forall_mem_cons.mpr ⟨⟨_, by simp, ax_le_rfl rfl⟩, (List.forall_mem_cons.mpr ⟨⟨_, by simp, ax_le_rfl rfl⟩, (List.forall_mem_cons.mpr ⟨⟨_, by simp, ax_le_rfl rfl⟩, (fun _ h => absurd h List.not_mem_nil)⟩)⟩)⟩)⟩)⟩) ?_
  rw [ch_v (z := z166) (by omega) hv, List.append_assoc] at T3
  exact AR.lt (by omega) (by omega) (K g3 a3 _ ((F1.tr F2).tr (by rw [e3]; exact fB_push S2.lt.1)) T3 (by omega))
theorem t137_126 (hlst : l.stackTraces = false) (hi : i.toInt = v) (hv : v < 6) (S : sBx g n0 B ts) (hl : ts.length ≤ 40) (K : ∀ (g' : ax_H) (a' : Nat) (i' : Int32), fB n0 g g' → sT g' a' (ts ++ bdg (ng c v) v) → i'.toInt = (v : Int) + 1 → AR ax_ns l (ax_mm 137) 6 ty_R P X 6 [(4, .int i'), (3, .ref a'), (2, .int d), (1, .int r), (0, .int c)] [] g' bc bs) : AR ax_ns l (ax_mm 137) 6 ty_R P X 126 [(5, .int k), (4, .int i), (3, .ref a9), (2, .int d), (1, .int r), (0, .int c)] [.ref B] g (bc + 4) (bs + 304) := by
  show AR _ _ _ _ _ _ _ 126 [(5, .int k), (4, .int i), (3, .ref a9), (2, .int d), (1, .int r), (0, .int c)] [.ref B] g _ _
  refine AR.s (pc' := 127) (lv' := [(5, .int k), (4, .int i), (3, .ref a9), (2, .int d), (1, .int r), (0, .int c)]) (st' := [.int c, .ref B]) (h' := g) _ hn_137 hk_137_126 rfl ?_
  refine AR.s (pc' := 129) (lv' := [(5, .int k), (4, .int i), (3, .ref a9), (2, .int d), (1, .int r), (0, .int c)]) (st' := [.int i, .int c, .ref B]) (h' := g) _ hn_137 hk_137_127 rfl ?_
  refine AR.cs (as := [.int c, .int i]) (rest := [.ref B]) hk_137_129 (by decide +kernel) rfl rfl (Nat.le_of_ble_eq_true rfl) (t_136 hlst (n := v) hi hv) (by decide) (Nat.zero_le _) (Nat.zero_le _) (fun E h' q => by obtain ⟨-, x, e, -⟩ := q; cases e) ?_
  rintro w170 g171 ⟨eg171, z172, e, ez172⟩
  cases e
  obtain rfl := eg171.symm
  show AR _ _ _ _ _ _ _ 132 [(5, .int k), (4, .int i), (3, .ref a9), (2, .int d), (1, .int r), (0, .int c)] [.int z172, .ref B] g _ _
  refine AR.zeq hk_137_132 (tgt := 140) (by decide) (fun p1 => ?_) (fun p2 => ?_)
  · have hb : ng c v = false := by cases e : ng c v <;> rw [e] at ez172 <;> simp at ez172 <;> first | rfl | omega
    refine AR.ldcS (j := 2) (ax_look_ok hk_137_140).1 (by decide) (fun b o U hJ => by rw [hc_137]; exact (hJ.1 _ sl_42).2) ?_
    show AR _ _ _ _ _ _ _ 142 [(5, .int k), (4, .int i), (3, .ref a9), (2, .int d), (1, .int r), (0, .int c)] [.ref (1000000000 + 2), .ref B] g _ _
    refine t137_142 hlst hi hv S (sc_42 g) (by simp; omega) (fun g' a' i' F T e => K g' a' i' F ?_ e)
    rw [hb]; exact T
  · have hb : ng c v = true := by cases e : ng c v <;> rw [e] at ez172 <;> simp at ez172 <;> first | rfl | omega
    refine AR.ldcS (j := 8) (ax_look_ok hk_137_135).1 (by decide) (fun b o U hJ => by rw [hc_137]; exact (hJ.1 _ sl_69).2) ?_
    show AR _ _ _ _ _ _ _ 137 [(5, .int k), (4, .int i), (3, .ref a9), (2, .int d), (1, .int r), (0, .int c)] [.ref (1000000000 + 8), .ref B] g _ _
    refine AR.gotoT hk_137_137 (tgt := 142) (by decide) ?_
    refine t137_142 hlst hi hv S (sc_69 g) (by simp; omega) (fun g' a' i' F T e => K g' a' i' F ?_ e)
    rw [hb]; exact T
theorem t137_123 (hlst : l.stackTraces = false) (hi : i.toInt = v) (hv : v < 6) (S : sBx g n0 B ts) (T : sT g s us) (hl : ts.length + us.length ≤ 38) (K : ∀ (g' : ax_H) (a' : Nat) (i' : Int32), fB n0 g g' → sT g' a' (ts ++ (us ++ bdg (ng c v) v)) → i'.toInt = (v : Int) + 1 → AR ax_ns l (ax_mm 137) 6 ty_R P X 6 [(4, .int i'), (3, .ref a'), (2, .int d), (1, .int r), (0, .int c)] [] g' bc bs) : AR ax_ns l (ax_mm 137) 6 ty_R P X 123 [(5, .int k), (4, .int i), (3, .ref a9), (2, .int d), (1, .int r), (0, .int c)] [.ref s, .ref B] g (bc + 5) (bs + 404) := by
  show AR _ _ _ _ _ _ _ 123 [(5, .int k), (4, .int i), (3, .ref a9), (2, .int d), (1, .int r), (0, .int c)] [.ref s, .ref B] g _ _
  obtain ⟨ko173, no173, ro173, oo173⟩ := id S
  refine AR.jV (as := [.ref s]) (rest := []) hk_137_123 hs_137_123 (by decide +kernel) (by decide +kernel) (by decide +kernel) (ax_wk_mem (ix := 4025) (by decide +kernel)) oo173.2.2.2.2.2.1 oo173.1 rfl rfl (Nat.le_of_ble_eq_true rfl) (s_262 hlst S T (by omega)) (by decide) (by omega) (by omega) (fun E h' q => by cases q.1) ?_
  rintro w9 g1 ⟨e, F1, S1⟩
  cases e
  show AR _ _ _ _ _ _ _ 126 [(5, .int k), (4, .int i), (3, .ref a9), (2, .int d), (1, .int r), (0, .int c)] [.ref B] g1 _ _
  refine AR.lt (by omega) (by omega) (t137_126 (bc := bc) (bs := bs) hlst hi hv S1 (by rw [List.length_append]; omega) (fun g' a' i' F T' e => K g' a' i' (F1.tr F) (by rw [← List.append_assoc]; exact T') e))
theorem t137_57 (hlst : l.stackTraces = false) (hi : i.toInt = v) (hv : v < 6) (S : sBx g n0 B ts) (hk : k.toInt = co c v) (hl : ts.length ≤ 36) (K : ∀ (g' : ax_H) (a' : Nat) (i' : Int32), fB n0 g g' → sT g' a' (ts ++ bd (co c v) (ng c v) v) → i'.toInt = (v : Int) + 1 → AR ax_ns l (ax_mm 137) 6 ty_R P X 6 [(4, .int i'), (3, .ref a'), (2, .int d), (1, .int r), (0, .int c)] [] g' bc bs) : AR ax_ns l (ax_mm 137) 6 ty_R P X 57 [(5, .int k), (4, .int i), (3, .ref a9), (2, .int d), (1, .int r), (0, .int c)] [.ref B] g (bc + 12) (bs + 808) := by
  have cb := co_bd c v
  show AR _ _ _ _ _ _ _ 57 [(5, .int k), (4, .int i), (3, .ref a9), (2, .int d), (1, .int r), (0, .int c)] [.ref B] g _ _
  refine AR.s (pc' := 59) (lv' := [(5, .int k), (4, .int i), (3, .ref a9), (2, .int d), (1, .int r), (0, .int c)]) (st' := [.int k, .ref B]) (h' := g) _ hn_137 hk_137_57 rfl ?_
  refine AR.iconstT hk_137_59 (by decide) (fun z174 ez174 => ?_)
  show AR _ _ _ _ _ _ _ 60 [(5, .int k), (4, .int i), (3, .ref a9), (2, .int d), (1, .int r), (0, .int c)] [.int z174, .int k, .ref B] g _ _
  refine AR.jeq hk_137_60 (tgt := 69) (by decide) (fun p1 => ?_) (fun p2 => ?_)
  · refine AR.ldcS (j := 2) (ax_look_ok hk_137_69).1 (by decide) (fun b o U hJ => by rw [hc_137]; exact (hJ.1 _ sl_42).2) ?_
    show AR _ _ _ _ _ _ _ 71 [(5, .int k), (4, .int i), (3, .ref a9), (2, .int d), (1, .int r), (0, .int c)] [.ref (1000000000 + 2), .ref B] g _ _
    refine AR.gotoT hk_137_71 (tgt := 123) (by decide) ?_
    refine AR.lt (by omega) (by omega) (t137_123 (bc := bc) (bs := bs) hlst hi hv S (sc_42 _) (by simp; omega) (fun g' a' i' F T' e => K g' a' i' F ?_ e))
    rw [show bd (co c v) (ng c v) v = [] ++ bdg (ng c v) v from by unfold bd bdn; rw [if_pos (by omega)]]
    exact T'
  · refine AR.s (pc' := 65) (lv' := [(5, .int k), (4, .int i), (3, .ref a9), (2, .int d), (1, .int r), (0, .int c)]) (st' := [.int k, .ref B]) (h' := g) _ hn_137 hk_137_63 rfl ?_
    refine AR.iconstT hk_137_65 (by decide) (fun z175 ez175 => ?_)
    show AR _ _ _ _ _ _ _ 66 [(5, .int k), (4, .int i), (3, .ref a9), (2, .int d), (1, .int r), (0, .int c)] [.int z175, .int k, .ref B] g _ _
    refine AR.jne hk_137_66 (tgt := 74) (by decide) (fun q1 => ?_) (fun q2 => ?_)
    · refine AR.s (pc' := 76) (lv' := [(5, .int k), (4, .int i), (3, .ref a9), (2, .int d), (1, .int r), (0, .int c)]) (st' := [.int k, .ref B]) (h' := g) _ hn_137 hk_137_74 rfl ?_
      refine AR.zge hk_137_76 (tgt := 103) (by decide) (fun r1 => ?_) (fun r2 => ?_)
      · refine AR.nwB hk_137_103 (ax_wk_mem (ix := 4021) (by decide +kernel)) (ax_wk_mem (ix := 1090) (by decide +kernel)) (ax_wk_mem (ix := 1005) (by decide +kernel)) (by omega) (by omega) ?_
        show AR _ _ _ _ _ _ _ 106 [(5, .int k), (4, .int i), (3, .ref a9), (2, .int d), (1, .int r), (0, .int c)] [.ref g.length, .ref B] (g ++ [(10, [Value.null, Value.int 0, Value.int 0, Value.int 0])]) _ _
        refine AR.small (fun hzg2 => ?_)
        rw [List.length_append] at hzg2
        refine AR.s (pc' := 107) (lv' := [(5, .int k), (4, .int i), (3, .ref a9), (2, .int d), (1, .int r), (0, .int c)]) (st' := [.ref g.length, .ref g.length, .ref B]) (h' := (g ++ [(10, [Value.null, Value.int 0, Value.int 0, Value.int 0])])) _ hn_137 hk_137_106 rfl ?_
        refine AR.jI (as := []) (rest := [.ref g.length, .ref B]) (t := 0) (cB := []) hk_137_107 (by decide) (by decide +kernel) (by decide +kernel) (by decide +kernel) (by decide +kernel) rfl rfl (Nat.le_of_ble_eq_true rfl) (s_256 hlst (n0 := g.length) (B := g.length) (by omega) (hy_getl g _) (Nat.le_refl _)) (by decide) (by omega) (by omega) (fun E h' q => by cases q.1) ?_
        rintro w9 g2 ⟨e, F0g2, S2⟩
        cases e
        have F2 : fB g.length g g2 := (fB_push (Nat.le_refl _)).tr F0g2
        show AR _ _ _ _ _ _ _ 110 [(5, .int k), (4, .int i), (3, .ref a9), (2, .int d), (1, .int r), (0, .int c)] [.ref g.length, .ref B] g2 _ _
        refine AR.ldcS (j := 2) (ax_look_ok hk_137_110).1 (by decide) (fun b o U hJ => by rw [hc_137]; exact (hJ.1 _ sl_42).2) ?_
        show AR _ _ _ _ _ _ _ 112 [(5, .int k), (4, .int i), (3, .ref a9), (2, .int d), (1, .int r), (0, .int c)] [.ref (1000000000 + 2), .ref g.length, .ref B] g2 _ _
        obtain ⟨ko176, no176, ro176, oo176⟩ := id S2
        refine AR.jV (as := [.ref (1000000000 + 2)]) (rest := [.ref B]) hk_137_112 hs_137_112 (by decide +kernel) (by decide +kernel) (by decide +kernel) (ax_wk_mem (ix := 4025) (by decide +kernel)) oo176.2.2.2.2.2.1 oo176.1 rfl rfl (Nat.le_of_ble_eq_true rfl) (s_262 hlst S2 (sc_42 _) (by simp)) (by decide) (by omega) (by omega) (fun E h' q => by cases q.1) ?_
        rintro w9 g3 ⟨e, F3, S3⟩
        cases e
        show AR _ _ _ _ _ _ _ 115 [(5, .int k), (4, .int i), (3, .ref a9), (2, .int d), (1, .int r), (0, .int c)] [.ref g.length, .ref B] g3 _ _
        refine AR.s (pc' := 117) (lv' := [(5, .int k), (4, .int i), (3, .ref a9), (2, .int d), (1, .int r), (0, .int c)]) (st' := [.int k, .ref g.length, .ref B]) (h' := g3) _ hn_137 hk_137_115 rfl ?_
        obtain ⟨ko177, no177, ro177, oo177⟩ := id S3
        refine AR.jV (as := [.int k]) (rest := [.ref B]) hk_137_117 hs_137_117 (by decide +kernel) (by decide +kernel) (by decide +kernel) (ax_wk_mem (ix := 4128) (by decide +kernel)) oo177.2.2.2.2.2.1 oo177.1 rfl rfl (Nat.le_of_ble_eq_true rfl) (s_261 hlst S3 (by simp) (by omega) (by omega)) (by decide) (by omega) (by omega) (fun E h' q => by cases q.1) ?_
        rintro w9 g4 ⟨e, F4, S4⟩
        cases e
        show AR _ _ _ _ _ _ _ 120 [(5, .int k), (4, .int i), (3, .ref a9), (2, .int d), (1, .int r), (0, .int c)] [.ref g.length, .ref B] g4 _ _
        obtain ⟨ko178, no178, ro178, oo178⟩ := id S4
        refine AR.jV (as := []) (rest := [.ref B]) hk_137_120 hs_137_120 (by decide +kernel) (by decide +kernel) (by decide +kernel) (ax_wk_mem (ix := 4153) (by decide +kernel)) oo178.2.2.2.2.2.1 oo178.1 rfl rfl (Nat.le_of_ble_eq_true rfl) (s_154 hlst S4) (by decide) (by omega) (by omega) (fun E h' q => by obtain ⟨a, gs, e, -⟩ := q; cases e) ?_
        rintro w9 g5 ⟨a5, gs, e, e5, T5⟩
        cases e
        show AR _ _ _ _ _ _ _ 123 [(5, .int k), (4, .int i), (3, .ref a9), (2, .int d), (1, .int r), (0, .int c)] [.ref a5, .ref B] g5 _ _
        have F5 : fB g.length g g5 := ((F2.tr F3).tr F4).tr (by rw [e5]; exact fB_push S4.lt.1)
        have ek : dgt k.toInt = bdn (co c v) := by unfold bdn ab; rw [if_neg (by omega), if_neg (by omega)]; congr 1 <;> omega
        rw [ek, List.nil_append, List.nil_append] at T5
        have bl9 := bdn_len cb
        refine AR.lt (by omega) (by omega) (t137_123 (bc := bc) (bs := bs) hlst hi hv (S.fB F5) T5 (by omega) (fun g' a' i' F T' e => K g' a' i' ((F5.mono S.lt.1).tr F) ?_ e))
        exact T'
      · refine AR.nwB hk_137_79 (ax_wk_mem (ix := 4021) (by decide +kernel)) (ax_wk_mem (ix := 1090) (by decide +kernel)) (ax_wk_mem (ix := 1005) (by decide +kernel)) (by omega) (by omega) ?_
        show AR _ _ _ _ _ _ _ 82 [(5, .int k), (4, .int i), (3, .ref a9), (2, .int d), (1, .int r), (0, .int c)] [.ref g.length, .ref B] (g ++ [(10, [Value.null, Value.int 0, Value.int 0, Value.int 0])]) _ _
        refine AR.small (fun hzg2 => ?_)
        rw [List.length_append] at hzg2
        refine AR.s (pc' := 83) (lv' := [(5, .int k), (4, .int i), (3, .ref a9), (2, .int d), (1, .int r), (0, .int c)]) (st' := [.ref g.length, .ref g.length, .ref B]) (h' := (g ++ [(10, [Value.null, Value.int 0, Value.int 0, Value.int 0])])) _ hn_137 hk_137_82 rfl ?_
        refine AR.jI (as := []) (rest := [.ref g.length, .ref B]) (t := 0) (cB := []) hk_137_83 (by decide) (by decide +kernel) (by decide +kernel) (by decide +kernel) (by decide +kernel) rfl rfl (Nat.le_of_ble_eq_true rfl) (s_256 hlst (n0 := g.length) (B := g.length) (by omega) (hy_getl g _) (Nat.le_refl _)) (by decide) (by omega) (by omega) (fun E h' q => by cases q.1) ?_
        rintro w9 g2 ⟨e, F0g2, S2⟩
        cases e
        have F2 : fB g.length g g2 := (fB_push (Nat.le_refl _)).tr F0g2
        show AR _ _ _ _ _ _ _ 86 [(5, .int k), (4, .int i), (3, .ref a9), (2, .int d), (1, .int r), (0, .int c)] [.ref g.length, .ref B] g2 _ _
        refine AR.ldcS (j := 2) (ax_look_ok hk_137_86).1 (by decide) (fun b o U hJ => by rw [hc_137]; exact (hJ.1 _ sl_42).2) ?_
        show AR _ _ _ _ _ _ _ 88 [(5, .int k), (4, .int i), (3, .ref a9), (2, .int d), (1, .int r), (0, .int c)] [.ref (1000000000 + 2), .ref g.length, .ref B] g2 _ _
        obtain ⟨ko179, no179, ro179, oo179⟩ := id S2
        refine AR.jV (as := [.ref (1000000000 + 2)]) (rest := [.ref B]) hk_137_88 hs_137_88 (by decide +kernel) (by decide +kernel) (by decide +kernel) (ax_wk_mem (ix := 4025) (by decide +kernel)) oo179.2.2.2.2.2.1 oo179.1 rfl rfl (Nat.le_of_ble_eq_true rfl) (s_262 hlst S2 (sc_42 _) (by simp)) (by decide) (by omega) (by omega) (fun E h' q => by cases q.1) ?_
        rintro w9 g3 ⟨e, F3, S3⟩
        cases e
        show AR _ _ _ _ _ _ _ 91 [(5, .int k), (4, .int i), (3, .ref a9), (2, .int d), (1, .int r), (0, .int c)] [.ref g.length, .ref B] g3 _ _
        refine AR.s (pc' := 93) (lv' := [(5, .int k), (4, .int i), (3, .ref a9), (2, .int d), (1, .int r), (0, .int c)]) (st' := [.int k, .ref g.length, .ref B]) (h' := g3) _ hn_137 hk_137_91 rfl ?_
        refine AR.negT hk_137_93 (by omega) (fun z180 ez180 => ?_)
        show AR _ _ _ _ _ _ _ 94 [(5, .int k), (4, .int i), (3, .ref a9), (2, .int d), (1, .int r), (0, .int c)] [.int z180, .ref g.length, .ref B] g3 _ _
        obtain ⟨ko181, no181, ro181, oo181⟩ := id S3
        refine AR.jV (as := [.int z180]) (rest := [.ref B]) hk_137_94 hs_137_94 (by decide +kernel) (by decide +kernel) (by decide +kernel) (ax_wk_mem (ix := 4128) (by decide +kernel)) oo181.2.2.2.2.2.1 oo181.1 rfl rfl (Nat.le_of_ble_eq_true rfl) (s_261 hlst S3 (by simp) (by omega) (by omega)) (by decide) (by omega) (by omega) (fun E h' q => by cases q.1) ?_
        rintro w9 g4 ⟨e, F4, S4⟩
        cases e
        show AR _ _ _ _ _ _ _ 97 [(5, .int k), (4, .int i), (3, .ref a9), (2, .int d), (1, .int r), (0, .int c)] [.ref g.length, .ref B] g4 _ _
        obtain ⟨ko182, no182, ro182, oo182⟩ := id S4
        refine AR.jV (as := []) (rest := [.ref B]) hk_137_97 hs_137_97 (by decide +kernel) (by decide +kernel) (by decide +kernel) (ax_wk_mem (ix := 4153) (by decide +kernel)) oo182.2.2.2.2.2.1 oo182.1 rfl rfl (Nat.le_of_ble_eq_true rfl) (s_154 hlst S4) (by decide) (by omega) (by omega) (fun E h' q => by obtain ⟨a, gs, e, -⟩ := q; cases e) ?_
        rintro w9 g5 ⟨a5, gs, e, e5, T5⟩
        cases e
        show AR _ _ _ _ _ _ _ 100 [(5, .int k), (4, .int i), (3, .ref a9), (2, .int d), (1, .int r), (0, .int c)] [.ref a5, .ref B] g5 _ _
        refine AR.gotoT hk_137_100 (tgt := 123) (by decide) ?_
        have F5 : fB g.length g g5 := ((F2.tr F3).tr F4).tr (by rw [e5]; exact fB_push S4.lt.1)
        have ek : dgt z180.toInt = bdn (co c v) := by unfold bdn ab; rw [if_neg (by omega), if_pos (by omega)]; congr 1 <;> omega
        rw [ek, List.nil_append, List.nil_append] at T5
        have bl9 := bdn_len cb
        refine AR.lt (by omega) (by omega) (t137_123 (bc := bc) (bs := bs) hlst hi hv (S.fB F5) T5 (by omega) (fun g' a' i' F T' e => K g' a' i' ((F5.mono S.lt.1).tr F) ?_ e))
        exact T'
    · refine AR.ldcS (j := 2) (ax_look_ok hk_137_69).1 (by decide) (fun b o U hJ => by rw [hc_137]; exact (hJ.1 _ sl_42).2) ?_
      show AR _ _ _ _ _ _ _ 71 [(5, .int k), (4, .int i), (3, .ref a9), (2, .int d), (1, .int r), (0, .int c)] [.ref (1000000000 + 2), .ref B] g _ _
      refine AR.gotoT hk_137_71 (tgt := 123) (by decide) ?_
      refine AR.lt (by omega) (by omega) (t137_123 (bc := bc) (bs := bs) hlst hi hv S (sc_42 _) (by simp; omega) (fun g' a' i' F T' e => K g' a' i' F ?_ e))
      rw [show bd (co c v) (ng c v) v = [] ++ bdg (ng c v) v from by unfold bd bdn; rw [if_pos (by omega)]]
      exact T'
theorem t137_54 (hlst : l.stackTraces = false) (hi : i.toInt = v) (hv : v < 6) (S : sBx g n0 B ts) (hk : k.toInt = co c v) (T : sT g s us) (hl : ts.length + us.length ≤ 36) (K : ∀ (g' : ax_H) (a' : Nat) (i' : Int32), fB n0 g g' → sT g' a' (ts ++ (us ++ bd (co c v) (ng c v) v)) → i'.toInt = (v : Int) + 1 → AR ax_ns l (ax_mm 137) 6 ty_R P X 6 [(4, .int i'), (3, .ref a'), (2, .int d), (1, .int r), (0, .int c)] [] g' bc bs) : AR ax_ns l (ax_mm 137) 6 ty_R P X 54 [(5, .int k), (4, .int i), (3, .ref a9), (2, .int d), (1, .int r), (0, .int c)] [.ref s, .ref B] g (bc + 13) (bs + 908) := by
  show AR _ _ _ _ _ _ _ 54 [(5, .int k), (4, .int i), (3, .ref a9), (2, .int d), (1, .int r), (0, .int c)] [.ref s, .ref B] g _ _
  obtain ⟨ko183, no183, ro183, oo183⟩ := id S
  refine AR.jV (as := [.ref s]) (rest := []) hk_137_54 hs_137_54 (by decide +kernel) (by decide +kernel) (by decide +kernel) (ax_wk_mem (ix := 4025) (by decide +kernel)) oo183.2.2.2.2.2.1 oo183.1 rfl rfl (Nat.le_of_ble_eq_true rfl) (s_262 hlst S T (by omega)) (by decide) (by omega) (by omega) (fun E h' q => by cases q.1) ?_
  rintro w9 g1 ⟨e, F1, S1⟩
  cases e
  show AR _ _ _ _ _ _ _ 57 [(5, .int k), (4, .int i), (3, .ref a9), (2, .int d), (1, .int r), (0, .int c)] [.ref B] g1 _ _
  refine AR.lt (by omega) (by omega) (t137_57 (bc := bc) (bs := bs) hlst hi hv S1 hk (by rw [List.length_append]; omega) (fun g' a' i' F T' e => K g' a' i' (F1.tr F) (by rw [← List.append_assoc]; exact T') e))
theorem px_len (c : Int32) : ∀ v, (px1 c v).length ≤ 4 * v
  | 0 => Nat.le_refl _
  | v + 1 => by
    have a := px_len c v
    have b := sg_len (co c v) v
    have d := bd_len (co_bd c v) (ng c v) v
    show (px1 c v ++ (sg1 (co c v) v ++ bd (co c v) (ng c v) v)).length ≤ _
    rw [List.length_append, List.length_append]
    omega
def tq7 (h : ax_H) (T : List Int32) : ax_Q := fun res g => ∃ a : Nat, res = .inl (some (.ref a)) ∧ fB h.length h g ∧ sT g a T
theorem t137_196 (hlst : l.stackTraces = false) (S : sBx g n0 B ts) (T : sT g s us) (hl : ts.length + us.length ≤ 40) (hd : -9 ≤ d.toInt ∧ d.toInt ≤ 9) (F : fB h.length h g) (hn : h.length ≤ n0) : AR ax_ns l (ax_mm 137) 6 ty_R (ax_ret ax_ns (ax_mm 137) (tq7 h (ts ++ (us ++ dgt d.toInt)))) X 196 [(4, .int i), (3, .ref a9), (2, .int d), (1, .int r), (0, .int c)] [.ref s, .ref B] g (bc + 4) (bs + 304) := by
  show AR _ _ _ _ _ _ _ 196 [(4, .int i), (3, .ref a9), (2, .int d), (1, .int r), (0, .int c)] [.ref s, .ref B] g _ _
  obtain ⟨ko184, no184, ro184, oo184⟩ := id S
  refine AR.jV (as := [.ref s]) (rest := []) hk_137_196 hs_137_196 (by decide +kernel) (by decide +kernel) (by decide +kernel) (ax_wk_mem (ix := 4025) (by decide +kernel)) oo184.2.2.2.2.2.1 oo184.1 rfl rfl (Nat.le_of_ble_eq_true rfl) (s_262 hlst S T (by omega)) (by decide) (by omega) (by omega) (fun E h' q => by cases q.1) ?_
  rintro w9 g1 ⟨e, F1, S1⟩
  cases e
  show AR _ _ _ _ _ _ _ 199 [(4, .int i), (3, .ref a9), (2, .int d), (1, .int r), (0, .int c)] [.ref B] g1 _ _
  refine AR.s (pc' := 200) (lv' := [(4, .int i), (3, .ref a9), (2, .int d), (1, .int r), (0, .int c)]) (st' := [.int d, .ref B]) (h' := g1) _ hn_137 hk_137_199 rfl ?_
  obtain ⟨ko185, no185, ro185, oo185⟩ := id S1
  refine AR.jV (as := [.int d]) (rest := []) hk_137_200 hs_137_200 (by decide +kernel) (by decide +kernel) (by decide +kernel) (ax_wk_mem (ix := 4128) (by decide +kernel)) oo185.2.2.2.2.2.1 oo185.1 rfl rfl (Nat.le_of_ble_eq_true rfl) (s_261 hlst S1 (by rw [List.length_append]; omega) hd.1 hd.2) (by decide) (by omega) (by omega) (fun E h' q => by cases q.1) ?_
  rintro w9 g2 ⟨e, F2, S2⟩
  cases e
  show AR _ _ _ _ _ _ _ 203 [(4, .int i), (3, .ref a9), (2, .int d), (1, .int r), (0, .int c)] [.ref B] g2 _ _
  obtain ⟨ko186, no186, ro186, oo186⟩ := id S2
  refine AR.jV (as := []) (rest := []) hk_137_203 hs_137_203 (by decide +kernel) (by decide +kernel) (by decide +kernel) (ax_wk_mem (ix := 4153) (by decide +kernel)) oo186.2.2.2.2.2.1 oo186.1 rfl rfl (Nat.le_of_ble_eq_true rfl) (s_154 hlst S2) (by decide) (by omega) (by omega) (fun E h' q => by obtain ⟨a, gs, e, -⟩ := q; cases e) ?_
  rintro w9 g3 ⟨a3, gs, e, e3, T3⟩
  cases e
  show AR _ _ _ _ _ _ _ 206 [(4, .int i), (3, .ref a9), (2, .int d), (1, .int r), (0, .int c)] [.ref a3] g3 _ _
  rw [List.append_assoc] at T3
  exact AR.aret hk_137_206 hr_137 (Or.inl ⟨_, rfl⟩) ⟨a3, rfl, F.tr (((F1.tr F2).tr (by rw [e3]; exact fB_push S2.lt.1)).mono hn), T3⟩
theorem t137_L (hlst : l.stackTraces = false) (hr : r.toInt = 0 ∨ r.toInt = 1) (hd : -9 ≤ d.toInt ∧ d.toInt ≤ 9) : ∀ (n v : Nat) (g : ax_H) (a9 : Nat) (i : Int32), v + n = 6 → i.toInt = v → sT g a9 (px1 c v) → fB h.length h g → AR ax_ns l (ax_mm 137) 6 ty_R (ax_ret ax_ns (ax_mm 137) (tq7 h (tx c r.toInt d.toInt))) X 6 [(4, .int i), (3, .ref a9), (2, .int d), (1, .int r), (0, .int c)] [] g (bc + 20 * n + 10) (bs + 1100 * n + 600) := by
  intro n
  induction n with
  | zero =>
    intro v g a9 i hn hi T F
    have pl := px_len c v
    show AR _ _ _ _ _ _ _ 6 [(4, .int i), (3, .ref a9), (2, .int d), (1, .int r), (0, .int c)] [] g _ _
    refine AR.s (pc' := 8) (lv' := [(4, .int i), (3, .ref a9), (2, .int d), (1, .int r), (0, .int c)]) (st' := [.int i]) (h' := g) _ hn_137 hk_137_6 rfl ?_
    refine AR.bipushT hk_137_8 (by decide) (fun z187 ez187 => ?_)
    show AR _ _ _ _ _ _ _ 10 [(4, .int i), (3, .ref a9), (2, .int d), (1, .int r), (0, .int c)] [.int z187, .int i] g _ _
    refine AR.jge hk_137_10 (tgt := 164) (by decide) (fun p1 => ?_) (fun p2 => ?_)
    · obtain rfl : v = 6 := by omega
      refine AR.nwB hk_137_164 (ax_wk_mem (ix := 4021) (by decide +kernel)) (ax_wk_mem (ix := 1090) (by decide +kernel)) (ax_wk_mem (ix := 1005) (by decide +kernel)) (by omega) (by omega) ?_
      show AR _ _ _ _ _ _ _ 167 [(4, .int i), (3, .ref a9), (2, .int d), (1, .int r), (0, .int c)] [.ref g.length] (g ++ [(10, [Value.null, Value.int 0, Value.int 0, Value.int 0])]) _ _
      refine AR.small (fun hzg2 => ?_)
      rw [List.length_append] at hzg2
      refine AR.s (pc' := 168) (lv' := [(4, .int i), (3, .ref a9), (2, .int d), (1, .int r), (0, .int c)]) (st' := [.ref g.length, .ref g.length]) (h' := (g ++ [(10, [Value.null, Value.int 0, Value.int 0, Value.int 0])])) _ hn_137 hk_137_167 rfl ?_
      refine AR.jI (as := []) (rest := [.ref g.length]) (t := 0) (cB := []) hk_137_168 (by decide) (by decide +kernel) (by decide +kernel) (by decide +kernel) (by decide +kernel) rfl rfl (Nat.le_of_ble_eq_true rfl) (s_256 hlst (n0 := g.length) (B := g.length) (by omega) (hy_getl g _) (Nat.le_refl _)) (by decide) (by omega) (by omega) (fun E h' q => by cases q.1) ?_
      rintro w9 g2 ⟨e, F0g2, S2⟩
      cases e
      have F2 : fB g.length g g2 := (fB_push (Nat.le_refl _)).tr F0g2
      show AR _ _ _ _ _ _ _ 171 [(4, .int i), (3, .ref a9), (2, .int d), (1, .int r), (0, .int c)] [.ref g.length] g2 _ _
      refine AR.s (pc' := 172) (lv' := [(4, .int i), (3, .ref a9), (2, .int d), (1, .int r), (0, .int c)]) (st' := [.ref a9, .ref g.length]) (h' := g2) _ hn_137 hk_137_171 rfl ?_
      obtain ⟨ko188, no188, ro188, oo188⟩ := id S2
      refine AR.jV (as := [.ref a9]) (rest := []) hk_137_172 hs_137_172 (by decide +kernel) (by decide +kernel) (by decide +kernel) (ax_wk_mem (ix := 4025) (by decide +kernel)) oo188.2.2.2.2.2.1 oo188.1 rfl rfl (Nat.le_of_ble_eq_true rfl) (s_262 hlst S2 (T.fB F2 rfl) (by simp; omega)) (by decide) (by omega) (by omega) (fun E h' q => by cases q.1) ?_
      rintro w9 g3 ⟨e, F3, S3⟩
      cases e
      show AR _ _ _ _ _ _ _ 175 [(4, .int i), (3, .ref a9), (2, .int d), (1, .int r), (0, .int c)] [.ref g.length] g3 _ _
      refine AR.s (pc' := 176) (lv' := [(4, .int i), (3, .ref a9), (2, .int d), (1, .int r), (0, .int c)]) (st' := [.int r, .ref g.length]) (h' := g3) _ hn_137 hk_137_175 rfl ?_
      refine AR.zne hk_137_176 (tgt := 184) (by decide) (fun x1 => ?_) (fun x2 => ?_)
      · refine AR.s (pc' := 185) (lv' := [(4, .int i), (3, .ref a9), (2, .int d), (1, .int r), (0, .int c)]) (st' := [.int r, .ref g.length]) (h' := g3) _ hn_137 hk_137_184 rfl ?_
        refine AR.iconstT hk_137_185 (by decide) (fun z189 ez189 => ?_)
        show AR _ _ _ _ _ _ _ 186 [(4, .int i), (3, .ref a9), (2, .int d), (1, .int r), (0, .int c)] [.int z189, .int r, .ref g.length] g3 _ _
        refine AR.jne hk_137_186 (tgt := 194) (by decide) (fun y1 => ?_) (fun y2 => ?_)
        · exact absurd y1 (by omega)
        · refine AR.ldcS (j := 12) (ax_look_ok hk_137_189).1 (by decide) (fun b o U hJ => by rw [hc_137]; exact (hJ.1 _ sl_76).2) ?_
          show AR _ _ _ _ _ _ _ 191 [(4, .int i), (3, .ref a9), (2, .int d), (1, .int r), (0, .int c)] [.ref (1000000000 + 12), .ref g.length] g3 _ _
          refine AR.gotoT hk_137_191 (tgt := 196) (by decide) ?_
          have er : rl r.toInt = [32, 60, 61, 32] := by unfold rl; rw [if_neg (by omega)]
          have Q9 := t137_196 (l := l) (X := X) (bc := bc) (bs := bs) (i := i) (a9 := a9) (r := r) (c := c) hlst S3 (sc_76 g3) (by simp; omega) hd ((F.tr (F2.mono F.1)).tr (F3.mono F.1)) F.1
          rw [List.nil_append, ← er] at Q9
          exact AR.lt (by omega) (by omega) Q9
      · refine AR.ldcS (j := 10) (ax_look_ok hk_137_179).1 (by decide) (fun b o U hJ => by rw [hc_137]; exact (hJ.1 _ sl_74).2) ?_
        show AR _ _ _ _ _ _ _ 181 [(4, .int i), (3, .ref a9), (2, .int d), (1, .int r), (0, .int c)] [.ref (1000000000 + 10), .ref g.length] g3 _ _
        refine AR.gotoT hk_137_181 (tgt := 196) (by decide) ?_
        have er : rl r.toInt = [32, 62, 61, 32] := by unfold rl; rw [if_pos (by omega)]
        have Q9 := t137_196 (l := l) (X := X) (bc := bc) (bs := bs) (i := i) (a9 := a9) (r := r) (c := c) hlst S3 (sc_74 g3) (by simp; omega) hd ((F.tr (F2.mono F.1)).tr (F3.mono F.1)) F.1
        rw [List.nil_append, ← er] at Q9
        exact AR.lt (by omega) (by omega) Q9
    · exact absurd p2 (by omega)
  | succ n ih =>
    intro v g a9 i hn hi T F
    have pl := px_len c v
    show AR _ _ _ _ _ _ _ 6 [(4, .int i), (3, .ref a9), (2, .int d), (1, .int r), (0, .int c)] [] g _ _
    refine AR.s (pc' := 8) (lv' := [(4, .int i), (3, .ref a9), (2, .int d), (1, .int r), (0, .int c)]) (st' := [.int i]) (h' := g) _ hn_137 hk_137_6 rfl ?_
    refine AR.bipushT hk_137_8 (by decide) (fun z190 ez190 => ?_)
    show AR _ _ _ _ _ _ _ 10 [(4, .int i), (3, .ref a9), (2, .int d), (1, .int r), (0, .int c)] [.int z190, .int i] g _ _
    refine AR.jge hk_137_10 (tgt := 164) (by decide) (fun p1 => ?_) (fun p2 => ?_)
    · exact absurd p1 (by omega)
    · have v6 : v < 6 := by omega
      have cb := co_bd c v
      show AR _ _ _ _ _ _ _ 13 [(4, .int i), (3, .ref a9), (2, .int d), (1, .int r), (0, .int c)] [] g _ _
      refine AR.s (pc' := 14) (lv' := [(4, .int i), (3, .ref a9), (2, .int d), (1, .int r), (0, .int c)]) (st' := [.int c]) (h' := g) _ hn_137 hk_137_13 rfl ?_
      refine AR.s (pc' := 16) (lv' := [(4, .int i), (3, .ref a9), (2, .int d), (1, .int r), (0, .int c)]) (st' := [.int i, .int c]) (h' := g) _ hn_137 hk_137_14 rfl ?_
      refine AR.cs (as := [.int c, .int i]) (rest := []) hk_137_16 (by decide +kernel) rfl rfl (Nat.le_of_ble_eq_true rfl) (t_135 hlst (n := v) hi v6) (by decide) (Nat.zero_le _) (Nat.zero_le _) (fun E h' q => by obtain ⟨-, x, e, -⟩ := q; cases e) ?_
      rintro w191 g192 ⟨eg192, z193, e, ez193⟩
      cases e
      obtain rfl := eg192.symm
      show AR _ _ _ _ _ _ _ 19 [(4, .int i), (3, .ref a9), (2, .int d), (1, .int r), (0, .int c)] [.int z193] g _ _
      refine AR.s (pc' := 21) (lv' := [(5, .int z193), (4, .int i), (3, .ref a9), (2, .int d), (1, .int r), (0, .int c)]) (st' := []) (h' := g) _ hn_137 hk_137_19 rfl ?_
      refine AR.nwB hk_137_21 (ax_wk_mem (ix := 4021) (by decide +kernel)) (ax_wk_mem (ix := 1090) (by decide +kernel)) (ax_wk_mem (ix := 1005) (by decide +kernel)) (by omega) (by omega) ?_
      show AR _ _ _ _ _ _ _ 24 [(5, .int z193), (4, .int i), (3, .ref a9), (2, .int d), (1, .int r), (0, .int c)] [.ref g.length] (g ++ [(10, [Value.null, Value.int 0, Value.int 0, Value.int 0])]) _ _
      refine AR.small (fun hzg2 => ?_)
      rw [List.length_append] at hzg2
      refine AR.s (pc' := 25) (lv' := [(5, .int z193), (4, .int i), (3, .ref a9), (2, .int d), (1, .int r), (0, .int c)]) (st' := [.ref g.length, .ref g.length]) (h' := (g ++ [(10, [Value.null, Value.int 0, Value.int 0, Value.int 0])])) _ hn_137 hk_137_24 rfl ?_
      refine AR.jI (as := []) (rest := [.ref g.length]) (t := 0) (cB := []) hk_137_25 (by decide) (by decide +kernel) (by decide +kernel) (by decide +kernel) (by decide +kernel) rfl rfl (Nat.le_of_ble_eq_true rfl) (s_256 hlst (n0 := g.length) (B := g.length) (by omega) (hy_getl g _) (Nat.le_refl _)) (by decide) (by omega) (by omega) (fun E h' q => by cases q.1) ?_
      rintro w9 g2 ⟨e, F0g2, S2⟩
      cases e
      have F2 : fB g.length g g2 := (fB_push (Nat.le_refl _)).tr F0g2
      show AR _ _ _ _ _ _ _ 28 [(5, .int z193), (4, .int i), (3, .ref a9), (2, .int d), (1, .int r), (0, .int c)] [.ref g.length] g2 _ _
      refine AR.s (pc' := 29) (lv' := [(5, .int z193), (4, .int i), (3, .ref a9), (2, .int d), (1, .int r), (0, .int c)]) (st' := [.ref a9, .ref g.length]) (h' := g2) _ hn_137 hk_137_28 rfl ?_
      obtain ⟨ko194, no194, ro194, oo194⟩ := id S2
      refine AR.jV (as := [.ref a9]) (rest := []) hk_137_29 hs_137_29 (by decide +kernel) (by decide +kernel) (by decide +kernel) (ax_wk_mem (ix := 4025) (by decide +kernel)) oo194.2.2.2.2.2.1 oo194.1 rfl rfl (Nat.le_of_ble_eq_true rfl) (s_262 hlst S2 (T.fB F2 rfl) (by simp; omega)) (by decide) (by omega) (by omega) (fun E h' q => by cases q.1) ?_
      rintro w9 g3 ⟨e, F3, S3⟩
      cases e
      show AR _ _ _ _ _ _ _ 32 [(5, .int z193), (4, .int i), (3, .ref a9), (2, .int d), (1, .int r), (0, .int c)] [.ref g.length] g3 _ _
      refine AR.lessL (lv' := [(5, .int z193), (4, .int i), (3, .ref a9), (2, .int d), (1, .int r), (0, .int c)]) (List.forall_mem_cons.mpr ⟨⟨_, by simp, ax_le_rfl rfl⟩, (List.forall_mem_cons.mpr ⟨⟨_, by simp, ax_le_rfl rfl⟩, (List.forall_mem_cons.mpr ⟨⟨_, by simp, ax_le_rfl rfl⟩, (List.forall_mem_cons.mpr ⟨⟨_, by simp, ax_le_rfl rfl⟩, (List.forall_mem_cons.mpr ⟨⟨_, by simp, ax_le_rfl rfl⟩, (List.forall_mem_cons.mpr ⟨⟨_, by simp, ax_le_rfl rfl⟩, (fun _ h => absurd h List.not_mem_nil)⟩)⟩)⟩)⟩)⟩)⟩) ?_
      rw [List.nil_append] at S3
      show AR _ _ _ _ _ _ _ 32 [(5, .int z193), (4, .int i), (3, .ref a9), (2, .int d), (1, .int r), (0, .int c)] [.ref g.length] g3 _ _
      refine AR.s (pc' := 34) (lv' := [(5, .int z193), (4, .int i), (3, .ref a9), (2, .int d), (1, .int r), (0, .int c)]) (st' := [.int z193, .ref g.length]) (h' := g3) _ hn_137 hk_137_32 rfl ?_
      refine AR.zge hk_137_34 (tgt := 42) (by decide) (fun x1 => ?_) (fun x2 => ?_)
      · refine AR.s (pc' := 44) (lv' := [(5, .int z193), (4, .int i), (3, .ref a9), (2, .int d), (1, .int r), (0, .int c)]) (st' := [.int i, .ref g.length]) (h' := g3) _ hn_137 hk_137_42 rfl ?_
        refine AR.zle hk_137_44 (tgt := 52) (by decide) (fun y1 => ?_) (fun y2 => ?_)
        · refine AR.ldcS (j := 2) (ax_look_ok hk_137_52).1 (by decide) (fun b o U hJ => by rw [hc_137]; exact (hJ.1 _ sl_42).2) ?_
          show AR _ _ _ _ _ _ _ 54 [(5, .int z193), (4, .int i), (3, .ref a9), (2, .int d), (1, .int r), (0, .int c)] [.ref (1000000000 + 2), .ref g.length] g3 _ _
          have es : sg1 (co c v) v = [] := by unfold sg1; rw [if_neg (by omega), if_neg (by omega)]
          refine AR.lt (by omega) (by omega) (t137_54 (bc := bc + 20 * n + 10) (bs := bs + 1100 * n + 600) hlst hi v6 S3 (by omega) (sc_42 g3) (by simp; omega) (fun g' a' i' F' T' e => ih (v + 1) g' a' i' (by omega) (by omega) ?_ (((F.tr (F2.mono F.1)).tr (F3.mono F.1)).tr (F'.mono F.1))))
          rw [← es] at T'
          exact T'
        · refine AR.ldcS (j := 6) (ax_look_ok hk_137_47).1 (by decide) (fun b o U hJ => by rw [hc_137]; exact (hJ.1 _ sl_56).2) ?_
          show AR _ _ _ _ _ _ _ 49 [(5, .int z193), (4, .int i), (3, .ref a9), (2, .int d), (1, .int r), (0, .int c)] [.ref (1000000000 + 6), .ref g.length] g3 _ _
          refine AR.gotoT hk_137_49 (tgt := 54) (by decide) ?_
          have es : sg1 (co c v) v = [43] := by unfold sg1; rw [if_neg (by omega), if_pos (by omega)]
          refine AR.lt (by omega) (by omega) (t137_54 (bc := bc + 20 * n + 10) (bs := bs + 1100 * n + 600) hlst hi v6 S3 (by omega) (sc_56 g3) (by simp; omega) (fun g' a' i' F' T' e => ih (v + 1) g' a' i' (by omega) (by omega) ?_ (((F.tr (F2.mono F.1)).tr (F3.mono F.1)).tr (F'.mono F.1))))
          rw [← es] at T'
          exact T'
      · refine AR.ldcS (j := 4) (ax_look_ok hk_137_37).1 (by decide) (fun b o U hJ => by rw [hc_137]; exact (hJ.1 _ sl_54).2) ?_
        show AR _ _ _ _ _ _ _ 39 [(5, .int z193), (4, .int i), (3, .ref a9), (2, .int d), (1, .int r), (0, .int c)] [.ref (1000000000 + 4), .ref g.length] g3 _ _
        refine AR.gotoT hk_137_39 (tgt := 54) (by decide) ?_
        have es : sg1 (co c v) v = [45] := by unfold sg1; rw [if_pos (by omega)]
        refine AR.lt (by omega) (by omega) (t137_54 (bc := bc + 20 * n + 10) (bs := bs + 1100 * n + 600) hlst hi v6 S3 (by omega) (sc_54 g3) (by simp; omega) (fun g' a' i' F' T' e => ih (v + 1) g' a' i' (by omega) (by omega) ?_ (((F.tr (F2.mono F.1)).tr (F3.mono F.1)).tr (F'.mono F.1))))
        rw [← es] at T'
        exact T'
theorem t_137 (hlst : l.stackTraces = false) (hr : r.toInt = 0 ∨ r.toInt = 1) (hd : -9 ≤ d.toInt ∧ d.toInt ≤ 9) : AM ax_ns l (ax_mm 137) 6 ty_R (200) (8000) [.int c, .int r, .int d] h (tq7 h (tx c r.toInt d.toInt)) := by
  refine AM.of (ax_mfacts (by decide +kernel : ax_has 137 = true)).2.2.2.2.2.2 hlst (by rw [hn_137]; exact Nat.le_of_ble_eq_true rfl) ?_
  show AR ax_ns l (ax_mm 137) 6 ty_R _ _ 0 [(0, .int c), (1, .int r), (2, .int d)] [] h (200) (8000)
  refine AR.ldcS (j := 2) (ax_look_ok hk_137_0).1 (by decide) (fun b o U hJ => by rw [hc_137]; exact (hJ.1 _ sl_42).2) ?_
  show AR _ _ _ _ _ _ _ 2 [(0, .int c), (1, .int r), (2, .int d)] [.ref (1000000000 + 2)] h _ _
  refine AR.s (pc' := 3) (lv' := [(3, .ref (1000000000 + 2)), (0, .int c), (1, .int r), (2, .int d)]) (st' := []) (h' := h) _ hn_137 hk_137_2 rfl ?_
  refine AR.iconstT hk_137_3 (by decide) (fun z195 ez195 => ?_)
  show AR _ _ _ _ _ _ _ 4 [(3, .ref (1000000000 + 2)), (0, .int c), (1, .int r), (2, .int d)] [.int z195] h _ _
  refine AR.s (pc' := 6) (lv' := [(4, .int z195), (3, .ref (1000000000 + 2)), (0, .int c), (1, .int r), (2, .int d)]) (st' := []) (h' := h) _ hn_137 hk_137_4 rfl ?_
  refine AR.lessL (lv' := [(4, .int z195), (3, .ref (1000000000 + 2)), (2, .int d), (1, .int r), (0, .int c)]) (List.forall_mem_cons.mpr ⟨⟨_, by simp, ax_le_rfl rfl⟩, (List.forall_mem_cons.mpr ⟨⟨_, by simp, ax_le_rfl rfl⟩, (List.forall_mem_cons.mpr ⟨⟨_, by simp, ax_le_rfl rfl⟩, (List.forall_mem_cons.mpr ⟨⟨_, by simp, ax_le_rfl rfl⟩, (List.forall_mem_cons.mpr ⟨⟨_, by simp, ax_le_rfl rfl⟩, (fun _ h => absurd h List.not_mem_nil)⟩)⟩)⟩)⟩)⟩) ?_
  exact AR.lt (by omega) (by omega) (t137_L (bc := 0) (bs := 0) hlst hr hd 6 0 h _ _ rfl (by omega) (sc_42 h) (fB_r _ _))
end LWC
