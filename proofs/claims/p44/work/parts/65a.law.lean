/-! p44, 8: the law's body, its first two loops -/

theorem AM.weak {ns : ax_NS} {l : Launch} {k : ax_M} {d : Nat} {r r' : ax_H} {mc ms : Nat} {as : List Value} {h : ax_H} {Q : ax_Q} (hr : ∀ (s : State) (b : Nat) (o : Nat → Nat) (H : Heap), ax_O s b o r' H → ax_O s b o r H) (K : AM ns l k d r mc ms as h Q) : AM ns l k d r' mc ms as h Q := by
  intro D b o
  refine MetFree.mono (K D b o) (fun a U hp => ?_) (fun _ _ _ _ _ h9 => h9) (fun _ _ _ _ _ hq => hq)
  obtain ⟨ac, e1, e2, e3, ⟨t1, t2, t3, t4, t5, t6, t7, t8, t9, t10⟩, e5⟩ := hp
  exact ⟨ac, e1, e2, e3, ⟨t1, t2, t3, t4, t5, t6, t7, hr _ _ _ _ t8, t9, t10⟩, e5⟩
theorem ty_R_O {s : State} {b L : Nat} {o : Nat → Nat} {H : Heap} {xs : Nat → Int32} (q : ax_O s b o (ax_r L xs) H) : ax_O s b o ty_R H := fun k z hz => q k z (by
  rcases k with _ | k
  · exact hz
  · cases hz)
section LWE
variable {l : Launch} {i d pc tgt : Nat} {off : Int} {r r9 : ax_H} {P : ax_P} {X : ax_PX} {lv : List (Nat × Value)} {st : List Value} {h : ax_H} {bc bs : Nat} {v : Value} {ws : List Nat} {w : Nat × Nat × Nat} {x y : Int32}
variable {a b ix dy mc ms : Nat} {as rest : List Value} {Q : ax_Q}
theorem AW.addT (hl : ax_look i pc = some (.iadd, w, v, ws)) (h1 : -2147483648 ≤ x.toInt + y.toInt) (h2 : x.toInt + y.toInt ≤ 2147483647) (k : ∀ z : Int32, z.toInt = x.toInt + y.toInt → AR ax_ns l (ax_mm i) d r P X (pc + 1) lv (.int z :: st) h bc bs) : AR ax_ns l (ax_mm i) d r P X pc lv (.int y :: .int x :: st) h bc bs :=
  AR.s _ rfl hl rfl (k (x + y) (by rw [Int32.toInt_add]; exact hy_bm h1 h2))
theorem AW.subT (hl : ax_look i pc = some (.isub, w, v, ws)) (h1 : -2147483648 ≤ x.toInt - y.toInt) (h2 : x.toInt - y.toInt ≤ 2147483647) (k : ∀ z : Int32, z.toInt = x.toInt - y.toInt → AR ax_ns l (ax_mm i) d r P X (pc + 1) lv (.int z :: st) h bc bs) : AR ax_ns l (ax_mm i) d r P X pc lv (.int y :: .int x :: st) h bc bs :=
  AR.s _ rfl hl rfl (k (x - y) (by rw [Int32.toInt_sub]; exact hy_bm h1 h2))
theorem AW.mulT (hl : ax_look i pc = some (.imul, w, v, ws)) (h1 : -2147483648 ≤ x.toInt * y.toInt) (h2 : x.toInt * y.toInt ≤ 2147483647) (k : ∀ z : Int32, z.toInt = x.toInt * y.toInt → AR ax_ns l (ax_mm i) d r P X (pc + 1) lv (.int z :: st) h bc bs) : AR ax_ns l (ax_mm i) d r P X pc lv (.int y :: .int x :: st) h bc bs :=
  AR.s _ rfl hl rfl (k (x * y) (by rw [Int32.toInt_mul]; exact hy_bm h1 h2))
theorem AW.halfT (hl : ax_look i pc = some (.idiv, w, v, ws)) (hy : y.toInt = 2) (hx : 0 ≤ x.toInt) (k : ∀ z : Int32, z.toInt = x.toInt / 2 → AR ax_ns l (ax_mm i) d r P X (pc + 1) lv (.int z :: st) h bc bs) : AR ax_ns l (ax_mm i) d r P X pc lv (.int y :: .int x :: st) h bc bs :=
  AR.s (pc' := pc + 1) (lv' := lv) (st' := .int (x / y) :: st) (h' := h) _ rfl hl (by simp only [ax_one, ax_d2, if_neg (hy_ne0 hy), ax_b2]; rfl) (k (x / y) (hy_hf hy hx))
theorem AW.parT (hl : ax_look i pc = some (.irem, w, v, ws)) (hy : y.toInt = 2) (hx : 0 ≤ x.toInt) (k : ∀ z : Int32, z.toInt = x.toInt % 2 → AR ax_ns l (ax_mm i) d r P X (pc + 1) lv (.int z :: st) h bc bs) : AR ax_ns l (ax_mm i) d r P X pc lv (.int y :: .int x :: st) h bc bs := by
  refine AR.s (pc' := pc + 1) (lv' := lv) (st' := .int (x - x / y * y) :: st) (h' := h) _ rfl hl (by simp only [ax_one, ax_d2, if_neg (hy_ne0 hy), ax_b2]; rfl) (k _ ?_)
  have h1 := hy_hf hy hx
  have h2 := Int32.toInt_lt x
  rw [Int32.toInt_sub, Int32.toInt_mul, h1, hy, hy_bm (a := x.toInt / 2 * 2) (by omega) (by omega), hy_bm (by omega) (by omega)]
  omega
theorem AW.iconstT {n : Int} (hl : ax_look i pc = some (.iconst n, w, v, ws)) (hn : (Int32.ofInt n).toInt = n) (k : ∀ z : Int32, z.toInt = n → AR ax_ns l (ax_mm i) d r P X (pc + 1) lv (.int z :: st) h bc bs) : AR ax_ns l (ax_mm i) d r P X pc lv st h bc bs := AR.s _ rfl hl rfl (k _ hn)
theorem AW.bipushT {n : Int} (hl : ax_look i pc = some (.bipush n, w, v, ws)) (hn : (Int8.ofInt n).toInt32.toInt = n) (k : ∀ z : Int32, z.toInt = n → AR ax_ns l (ax_mm i) d r P X (pc + 2) lv (.int z :: st) h bc bs) : AR ax_ns l (ax_mm i) d r P X pc lv st h bc bs := AR.s _ rfl hl rfl (k _ hn)
theorem AW.iincT {j : Nat} {n : Int} (hl : ax_look i pc = some (.iinc j n, w, v, ws)) (hj : ax_at lv j = some (.int x)) (hm : j < (ax_mm i).2.2.1) (hn : (Int32.ofInt n).toInt = n) (h1 : -2147483648 ≤ x.toInt + n) (h2 : x.toInt + n ≤ 2147483647) (k : ∀ z : Int32, z.toInt = x.toInt + n → AR ax_ns l (ax_mm i) d r P X (pc + 3) (ax_s1 j (.int z) lv) st h bc bs) : AR ax_ns l (ax_mm i) d r P X pc lv st h bc bs := by
  refine AR.s (pc' := pc + 3) (lv' := ax_s1 j (.int (x + Int32.ofInt n)) lv) (st' := st) (h' := h) _ rfl hl ?_ (k _ ?_)
  · simp only [ax_one, hj, ax_b2, if_pos hm, ax_fv_eq, ax_fl1_eq]
    rfl
  · rw [Int32.toInt_add, hn]
    exact hy_bm h1 h2
theorem AW.jge (hl : ax_look i pc = some (.if_icmp .ge off, w, v, ws)) (ht : (pc : Int) + off = (tgt : Int)) (kt : y.toInt ≤ x.toInt → AR ax_ns l (ax_mm i) d r P X tgt lv st h bc bs) (kf : x.toInt < y.toInt → AR ax_ns l (ax_mm i) d r P X (pc + 3) lv st h bc bs) : AR ax_ns l (ax_mm i) d r P X pc lv (.int y :: .int x :: st) h bc bs :=
  AR.icmp_ge (ax_look_ok hl).1 ht (fun e => kt (Int32.le_iff_toInt_le.mp e)) (fun e => kf (Int.not_le.mp (fun z => e (Int32.le_iff_toInt_le.mpr z))))
theorem AW.jgt (hl : ax_look i pc = some (.if_icmp .gt off, w, v, ws)) (ht : (pc : Int) + off = (tgt : Int)) (kt : y.toInt < x.toInt → AR ax_ns l (ax_mm i) d r P X tgt lv st h bc bs) (kf : x.toInt ≤ y.toInt → AR ax_ns l (ax_mm i) d r P X (pc + 3) lv st h bc bs) : AR ax_ns l (ax_mm i) d r P X pc lv (.int y :: .int x :: st) h bc bs :=
  AR.icmp_gt (ax_look_ok hl).1 ht (fun e => kt (Int32.lt_iff_toInt_lt.mp e)) (fun e => kf (Int.not_lt.mp (fun z => e (Int32.lt_iff_toInt_lt.mpr z))))
theorem AW.jle (hl : ax_look i pc = some (.if_icmp .le off, w, v, ws)) (ht : (pc : Int) + off = (tgt : Int)) (kt : x.toInt ≤ y.toInt → AR ax_ns l (ax_mm i) d r P X tgt lv st h bc bs) (kf : y.toInt < x.toInt → AR ax_ns l (ax_mm i) d r P X (pc + 3) lv st h bc bs) : AR ax_ns l (ax_mm i) d r P X pc lv (.int y :: .int x :: st) h bc bs :=
  AR.icmp_le (ax_look_ok hl).1 ht (fun e => kt (Int32.le_iff_toInt_le.mp e)) (fun e => kf (Int.not_le.mp (fun z => e (Int32.le_iff_toInt_le.mpr z))))
theorem AW.jne (hl : ax_look i pc = some (.if_icmp .ne off, w, v, ws)) (ht : (pc : Int) + off = (tgt : Int)) (kt : x.toInt ≠ y.toInt → AR ax_ns l (ax_mm i) d r P X tgt lv st h bc bs) (kf : x.toInt = y.toInt → AR ax_ns l (ax_mm i) d r P X (pc + 3) lv st h bc bs) : AR ax_ns l (ax_mm i) d r P X pc lv (.int y :: .int x :: st) h bc bs :=
  AR.icmp_ne (ax_look_ok hl).1 ht (fun e => kt (fun z => e (Int32.toInt_inj.mp z))) (fun e => kf (by rw [e]))
theorem AW.jeq (hl : ax_look i pc = some (.if_icmp .eq off, w, v, ws)) (ht : (pc : Int) + off = (tgt : Int)) (kt : x.toInt = y.toInt → AR ax_ns l (ax_mm i) d r P X tgt lv st h bc bs) (kf : x.toInt ≠ y.toInt → AR ax_ns l (ax_mm i) d r P X (pc + 3) lv st h bc bs) : AR ax_ns l (ax_mm i) d r P X pc lv (.int y :: .int x :: st) h bc bs :=
  AR.icmp_eq (ax_look_ok hl).1 ht (fun e => kt (by rw [e])) (fun e => kf (fun z => e (Int32.toInt_inj.mp z)))
theorem AW.jlt (hl : ax_look i pc = some (.if_icmp .lt off, w, v, ws)) (ht : (pc : Int) + off = (tgt : Int)) (kt : x.toInt < y.toInt → AR ax_ns l (ax_mm i) d r P X tgt lv st h bc bs) (kf : y.toInt ≤ x.toInt → AR ax_ns l (ax_mm i) d r P X (pc + 3) lv st h bc bs) : AR ax_ns l (ax_mm i) d r P X pc lv (.int y :: .int x :: st) h bc bs :=
  AR.icmp_lt (ax_look_ok hl).1 ht (fun e => kt (Int32.lt_iff_toInt_lt.mp e)) (fun e => kf (Int.not_lt.mp (fun z => e (Int32.lt_iff_toInt_lt.mpr z))))
theorem AW.zeq (hl : ax_look i pc = some (.ifCond .eq off, w, v, ws)) (ht : (pc : Int) + off = (tgt : Int)) (kt : x.toInt = 0 → AR ax_ns l (ax_mm i) d r P X tgt lv st h bc bs) (kf : x.toInt ≠ 0 → AR ax_ns l (ax_mm i) d r P X (pc + 3) lv st h bc bs) : AR ax_ns l (ax_mm i) d r P X pc lv (.int x :: st) h bc bs :=
  AR.if_eq (ax_look_ok hl).1 ht (fun e => kt (by rw [e]; rfl)) (fun e => kf (fun z => e (Int32.toInt_inj.mp (by rw [z]; rfl))))
theorem AW.zne (hl : ax_look i pc = some (.ifCond .ne off, w, v, ws)) (ht : (pc : Int) + off = (tgt : Int)) (kt : x.toInt ≠ 0 → AR ax_ns l (ax_mm i) d r P X tgt lv st h bc bs) (kf : x.toInt = 0 → AR ax_ns l (ax_mm i) d r P X (pc + 3) lv st h bc bs) : AR ax_ns l (ax_mm i) d r P X pc lv (.int x :: st) h bc bs :=
  AR.if_ne (ax_look_ok hl).1 ht (fun e => kt (fun z => e (Int32.toInt_inj.mp (by rw [z]; rfl)))) (fun e => kf (by rw [e]; rfl))
theorem AW.zge (hl : ax_look i pc = some (.ifCond .ge off, w, v, ws)) (ht : (pc : Int) + off = (tgt : Int)) (kt : 0 ≤ x.toInt → AR ax_ns l (ax_mm i) d r P X tgt lv st h bc bs) (kf : x.toInt < 0 → AR ax_ns l (ax_mm i) d r P X (pc + 3) lv st h bc bs) : AR ax_ns l (ax_mm i) d r P X pc lv (.int x :: st) h bc bs :=
  AR.if_ge (ax_look_ok hl).1 ht (fun e => kt (by have := Int32.le_iff_toInt_le.mp e; rwa [hy0] at this)) (fun e => kf (Int.not_le.mp (fun z => e (Int32.le_iff_toInt_le.mpr (by rw [hy0]; exact z)))))
theorem AW.zlt (hl : ax_look i pc = some (.ifCond .lt off, w, v, ws)) (ht : (pc : Int) + off = (tgt : Int)) (kt : x.toInt < 0 → AR ax_ns l (ax_mm i) d r P X tgt lv st h bc bs) (kf : 0 ≤ x.toInt → AR ax_ns l (ax_mm i) d r P X (pc + 3) lv st h bc bs) : AR ax_ns l (ax_mm i) d r P X pc lv (.int x :: st) h bc bs :=
  AR.if_lt (ax_look_ok hl).1 ht (fun e => kt (by have := Int32.lt_iff_toInt_lt.mp e; rwa [hy0] at this)) (fun e => kf (Int.not_lt.mp (fun z => e (Int32.lt_iff_toInt_lt.mpr (by rw [hy0]; exact z)))))
theorem AW.zle (hl : ax_look i pc = some (.ifCond .le off, w, v, ws)) (ht : (pc : Int) + off = (tgt : Int)) (kt : x.toInt ≤ 0 → AR ax_ns l (ax_mm i) d r P X tgt lv st h bc bs) (kf : 0 < x.toInt → AR ax_ns l (ax_mm i) d r P X (pc + 3) lv st h bc bs) : AR ax_ns l (ax_mm i) d r P X pc lv (.int x :: st) h bc bs :=
  AR.if_le (ax_look_ok hl).1 ht (fun e => kt (by have := Int32.le_iff_toInt_le.mp e; rwa [hy0] at this)) (fun e => kf (Int.not_le.mp (fun z => e (Int32.le_iff_toInt_le.mpr (by rw [hy0]; exact z)))))
theorem AW.zgt (hl : ax_look i pc = some (.ifCond .gt off, w, v, ws)) (ht : (pc : Int) + off = (tgt : Int)) (kt : 0 < x.toInt → AR ax_ns l (ax_mm i) d r P X tgt lv st h bc bs) (kf : x.toInt ≤ 0 → AR ax_ns l (ax_mm i) d r P X (pc + 3) lv st h bc bs) : AR ax_ns l (ax_mm i) d r P X pc lv (.int x :: st) h bc bs :=
  AR.if_gt (ax_look_ok hl).1 ht (fun e => kt (by have := Int32.lt_iff_toInt_lt.mp e; rwa [hy0] at this)) (fun e => kf (Int.not_lt.mp (fun z => e (Int32.lt_iff_toInt_lt.mpr (by rw [hy0]; exact z)))))
theorem AW.gotoT (hl : ax_look i pc = some (.goto off, w, v, ws)) (ht : (pc : Int) + off = (tgt : Int)) (k : AR ax_ns l (ax_mm i) d r P X tgt lv st h bc bs) : AR ax_ns l (ax_mm i) d r P X pc lv st h bc bs := AR.goto (ax_look_ok hl).1 ht k
theorem AW.mulcT {x y : Int32} {c : Int} (hl : ax_look i pc = some (.imul, w, v, ws)) (hx : x.toInt = c) (h1 : -2147483648 ≤ c * y.toInt) (h2 : c * y.toInt ≤ 2147483647) (k : ∀ z : Int32, z.toInt = c * y.toInt → AR ax_ns l (ax_mm i) d r P X (pc + 1) lv (.int z :: st) h bc bs) : AR ax_ns l (ax_mm i) d r P X pc lv (.int y :: .int x :: st) h bc bs := by
  subst hx
  exact AW.mulT hl h1 h2 k
theorem AW.cs (hl : ax_look i pc = some (.invokestatic ix, (a, b, 0), v, ws)) (hm : ax_has a = true ∧ ax_st a = true) (hst : st = as.reverse ++ rest) (hb : as.length = b) (hcat : (rest.map fun v => v.category).sum ≤ 8) (hM : AM ax_ns l (ax_mm a) dy r mc ms as h Q) (hdy : dy + 1 ≤ d) (hmc : mc ≤ bc) (hms : ms ≤ bs) (hno : ∀ E h', ¬ Q (.inr E) h')
    (k : ∀ x h', Q (.inl x) h' → AR ax_ns l (ax_mm i) d r P X (pc + 3) lv (x.toList ++ rest) h' (bc - mc) (bs - ms)) : AR ax_ns l (ax_mm i) d r P X pc lv st h bc bs := by
  have e : as.reverse.length = b := by rw [List.length_reverse]; exact hb
  refine AR.call hl (as := as) (rest := rest) ?_ hM hdy hmc hms k (fun E h' q => absurd q (hno E h'))
  subst hst
  have d1 : (as.reverse ++ rest).drop b = rest := List.drop_left' e
  have d2 : ((as.reverse ++ rest).take b).reverse = as := by rw [List.take_left' e, List.reverse_reverse]
  have hc : ax_has a = true ∧ ax_st a = true ∧ b ≤ (as.reverse ++ rest).length ∧ (rest.map fun v => v.category).sum ≤ 8 := ⟨hm.1, hm.2, by rw [List.length_append]; omega, hcat⟩
  simp only [ax_arg, d1, d2]
  rw [if_pos hc]
theorem AW.jr {b r t dy mc ms : Nat} {as : List Value} {Q : ax_Q} {vs : List Value} (hl : ax_look i pc = some (.invokevirtual ix, (a, b, t), v, ws)) (ht : t < 11) (hm : ax_has a = true ∧ ax_st a = false ∧ (ax_mm a).2.2.2.2 = []) (hr : r < 1000000000) (hg : h[r]? = some (t, vs)) (hst : st = as.reverse ++ .ref r :: rest) (hb : as.length = b) (hcat : (rest.map fun v => v.category).sum ≤ 8) (hM : AM ax_ns l (ax_mm a) dy r9 mc ms (.ref r :: as) h Q) (hdy : dy + 1 ≤ d) (hmc : mc ≤ bc) (hms : ms ≤ bs)
    (k : ∀ x h', Q (.inl x) h' → AR ax_ns l (ax_mm i) d r9 P X (pc + 3) lv (x.toList ++ rest) h' (bc - mc) (bs - ms)) (kx : ∀ E h', Q (.inr E) h' → AX ax_ns l (ax_mm i) d r9 P X pc lv E h' (bc - mc) (bs - ms)) : AR ax_ns l (ax_mm i) d r9 P X pc lv st h bc bs := by
  obtain ⟨d1, d2, d3⟩ := hy_drop (rest := rest) (.ref r) hb
  refine AR.call hl (as := .ref r :: as) (rest := rest) ?_ hM hdy hmc hms k kx
  subst hst
  have hc : ax_has a = true ∧ ax_st a = false ∧ (ax_mm a).2.2.2.2 = [] ∧ b ≤ (as.reverse ++ .ref r :: rest).length ∧ (rest.map fun v => v.category).sum ≤ 8 ∧ True := ⟨hm.1, hm.2.1, hm.2.2, d3, hcat, trivial⟩
  have hg2 : ax_get r9 h r = some (t, vs) := by rw [ax_get_lt hr]; exact hg
  simp only [ax_arg, d1, hg2, d2]
  rw [if_pos hc]
theorem AW.jS {ts : List Int32} {c9 : Nat} (hl : ax_look i pc = some (.invokevirtual ix, w, v, ws)) (hs : ax_site (ax_mm i) (ax_mm b) ix c9) (hh : ax_has b = true) (hi : ax_st b = false) (hnil : (ax_mm b).2.2.2.2 = []) (hse : Cond.selects "java/lang/String" (ax_mm b).1 (ax_mm b).1 ∈ ax_tb) (S : sT h a ts) (hst : st = as.reverse ++ .ref a :: rest) (hb : as.length = c9) (hcat : (rest.map fun v => v.category).sum ≤ 8) (hM : AM ax_ns l (ax_mm b) dy r mc ms (.ref a :: as) h Q) (hdy : dy + 1 ≤ d) (hmc : mc ≤ bc) (hms : ms ≤ bs) (hno : ∀ E h', ¬ Q (.inr E) h')
    (k : ∀ x h', Q (.inl x) h' → AR ax_ns l (ax_mm i) d r P X (pc + 3) lv (x.toList ++ rest) h' (bc - mc) (bs - ms)) : AR ax_ns l (ax_mm i) d r P X pc lv st h bc bs := by
  obtain ⟨S1, S2, ⟨t, y, z, q1, q2, q3, q4⟩ | ⟨q, q1, e, q3⟩⟩ := S
  · exact AR.invokevirtual (q := hs_c11) hnil (ax_look_ok hl).1 hs ((ax_mst hh).2 hi) hse (show ax_cls[11]? = some hs_c11 from rfl) (by rw [ax_get_lt q1]; exact q2) hst hb hM hdy hmc hms hcat k (fun E h' q => absurd q (hno E h'))
  · subst e
    exact AR.invokestr hnil (ax_look_ok hl).1 hs ((ax_mst hh).2 hi) hse (by have := sl_lt q q1; omega) (fun b o U hJ => (hJ.1 q q1).1.1) hst hb hM hdy hmc hms hcat k (fun E h' q => absurd q (hno E h'))
/-- an array of ints -/
def ar (n : Nat) (f : Nat → Int32) : List Value := (List.range n).map (fun j => .int (f j))
theorem ar_len (n : Nat) (f : Nat → Int32) : (ar n f).length = n := by unfold ar; rw [List.length_map, List.length_range]
theorem ar_get {n j : Nat} {f : Nat → Int32} (hj : j < n) : (ar n f)[j]? = some (.int (f j)) := by
  unfold ar
  rw [List.getElem?_map, List.getElem?_range hj]
  rfl
theorem ar_set {n m : Nat} {f : Nat → Int32} {y : Int32} : (ar n f).set m (.int y) = ar n (fun j => if j = m then y else f j) := by
  refine List.ext_getElem? (fun j => ?_)
  by_cases e : j < n
  · rw [ar_get e]
    by_cases e2 : m = j
    · subst e2
      rw [List.getElem?_set_self (by rw [ar_len]; exact e), if_pos rfl]
    · rw [List.getElem?_set_ne e2, ar_get e, if_neg (fun z => e2 z.symm)]
  · rw [List.getElem?_eq_none (by rw [List.length_set, ar_len]; omega), List.getElem?_eq_none (by rw [ar_len]; omega)]
theorem ar_rep (n : Nat) : List.replicate n (Value.int 0) = ar n (fun _ => 0) := by
  refine List.ext_getElem? (fun j => ?_)
  by_cases e : j < n
  · rw [ar_get e, List.getElem?_replicate, if_pos e]
  · rw [List.getElem?_eq_none (by rw [List.length_replicate]; omega), List.getElem?_eq_none (by rw [ar_len]; omega)]
theorem lt_len : ∀ t, (ty_lt t).2.1 = 5 ∨ (ty_lt t).2.1 = 24 ∨ (ty_lt t).2.1 = 12
  | 0 => Or.inl rfl
  | 1 => Or.inr (Or.inl rfl)
  | _ + 2 => Or.inr (Or.inr rfl)
theorem hy_set {q t : Nat} {vs vs' : List Value} (hH : hy_H 0 h) (q0 : 181 ≤ q) (e : h[q]? = some (t, vs)) (hl : vs.length = 4 ∨ vs.length = 64) : hy_H 0 (h.set q (t, vs')) ∧ lf [q] h (h.set q (t, vs')) := by
  have hn : ∀ p, p ≠ q → (h.set q (t, vs'))[p]? = h[p]? := fun p hp => List.getElem?_set_ne (Ne.symm hp)
  refine ⟨hy_far hH (fun k c t' k0 h2 h3 => ?_) (by rw [List.length_set]; exact hH.1) (fun p hp => hn p (by omega)), by rw [List.length_set]; exact Nat.le_refl _, fun p hp hm => hn p (fun z => hm (by rw [z]; exact List.mem_singleton_self _))⟩
  by_cases z : k = q
  · subst z
    rw [e] at h2
    cases h2
    have h4 := h3.2.1
    have := lt_len t'
    dsimp only at h4
    omega
  · exact ⟨c, by rw [hn k z]; exact h2, h3⟩
theorem AW.ia {n m : Nat} {f : Nat → Int32} (hl : ax_look i pc = some (.iaload, w, v, ws)) (ha : a < 1000000000) (hg : h[a]? = some (100, ar n f)) (hx : x.toInt = m) (hm : m < n) (k : AR ax_ns l (ax_mm i) d r P X (pc + 1) lv (.int (f m) :: st) h bc bs) : AR ax_ns l (ax_mm i) d r P X pc lv (.int x :: .ref a :: st) h bc bs :=
  AR.iaload (vs := ar n f) (ax_look_ok hl).1 (by rw [ax_get_lt ha]; exact hg) (hj_nn (by omega)).1 (by rw [show x.toNatClampNeg = m by show x.toInt.toNat = m; omega]; exact ar_get hm) k
theorem AW.za {n m : Nat} {f : Nat → Int32} (hl : ax_look i pc = some (.baload, w, v, ws)) (ha : a < 1000000000) (hg : h[a]? = some (102, ar n f)) (hx : x.toInt = m) (hm : m < n) (k : AR ax_ns l (ax_mm i) d r P X (pc + 1) lv (.int (f m) :: st) h bc bs) : AR ax_ns l (ax_mm i) d r P X pc lv (.int x :: .ref a :: st) h bc bs :=
  AR.zaload (vs := ar n f) (ax_look_ok hl).1 (by rw [ax_get_lt ha]; exact hg) (hj_nn (by omega)).1 (by rw [show x.toNatClampNeg = m by show x.toInt.toNat = m; omega]; exact ar_get hm) k
theorem AW.ias {n m : Nat} {f : Nat → Int32} (hl : ax_look i pc = some (.iastore, w, v, ws)) (hH : hy_H 0 h) (q0 : 181 ≤ a) (ha : a < 1000000000) (hg : h[a]? = some (100, ar n f)) (n4 : n = 4 ∨ n = 64) (hx : x.toInt = m) (hm : m < n) (k : ∀ g, hy_H 0 g → lf [a] h g → g[a]? = some (100, ar n (fun j => if j = m then y else f j)) → AR ax_ns l (ax_mm i) d r P X (pc + 1) lv st g bc bs) : AR ax_ns l (ax_mm i) d r P X pc lv (.int y :: .int x :: .ref a :: st) h bc bs := by
  obtain ⟨h1, h2⟩ := hy_set (vs' := ar n (fun j => if j = m then y else f j)) hH q0 hg (by rw [ar_len]; exact n4)
  refine AR.iastore (vs := ar n f) (ax_look_ok hl).1 ha hg (hj_nn (by omega)).1 (by rw [ar_len]; show x.toInt.toNat < n; omega) rfl ?_
  rw [show x.toNatClampNeg = m by show x.toInt.toNat = m; omega, ar_set]
  exact k _ h1 h2 (List.getElem?_set_self (List.getElem?_eq_some_iff.mp hg).1)
theorem AW.zas {n m : Nat} {f : Nat → Int32} (hl : ax_look i pc = some (.bastore, w, v, ws)) (hH : hy_H 0 h) (q0 : 181 ≤ a) (ha : a < 1000000000) (hg : h[a]? = some (102, ar n f)) (n4 : n = 4 ∨ n = 64) (hx : x.toInt = m) (hm : m < n) (hy : y.toInt = 0 ∨ y.toInt = 1) (k : ∀ g, hy_H 0 g → lf [a] h g → g[a]? = some (102, ar n (fun j => if j = m then y else f j)) → AR ax_ns l (ax_mm i) d r P X (pc + 1) lv st g bc bs) : AR ax_ns l (ax_mm i) d r P X pc lv (.int y :: .int x :: .ref a :: st) h bc bs := by
  obtain ⟨h1, h2⟩ := hy_set (vs' := ar n (fun j => if j = m then y else f j)) hH q0 hg (by rw [ar_len]; exact n4)
  refine AR.zastore (vs := ar n f) (ax_look_ok hl).1 ha hg (hj_nn (by omega)).1 (by rw [ar_len]; show x.toInt.toNat < n; omega) (hy_fz (by omega)) ?_
  rw [show x.toNatClampNeg = m by show x.toInt.toNat = m; omega, ar_set]
  exact k _ h1 h2 (List.getElem?_set_self (List.getElem?_eq_some_iff.mp hg).1)
theorem AW.W {L : Nat} {xs : Nat → Int32} {k : ax_M} (K : AM ax_ns l k dy ty_R mc ms as h Q) : AM ax_ns l k dy (ax_r L xs) mc ms as h Q := AM.weak (fun s b o H q => ty_R_O q) K
theorem a3_bd {z : Int32} (hz : z.toInt = 3) : 0 ≤ (x &&& z).toInt ∧ (x &&& z).toInt ≤ 3 := by
  rw [show z = 3 from Int32.toInt_inj.mp hz]
  have h1 : (x &&& 3).toBitVec.toNat ≤ 3 := by
    rw [Int32.toBitVec_and, BitVec.toNat_and]
    exact Nat.and_le_right
  have h2 : (x &&& 3).toInt = ((x &&& 3).toBitVec.toNat : Int) := by
    show (x &&& 3).toBitVec.toInt = _
    rw [BitVec.toInt_eq_toNat_bmod]
    exact Int.bmod_eq_of_le (by show -_ ≤ ((x &&& 3).toBitVec.toNat : Int); omega) (by show ((x &&& 3).toBitVec.toNat : Int) < _; omega)
  omega
end LWE
section LWF
variable {l : Launch} {h g : ax_H} {n p L : Nat} {xs : Nat → Int32} {F G : Nat → Bool} {B B' : Int} {res : Option Value ⊕ String}
/-- a constraint that all masks of F fulfil -/
def CB (h : ax_H) (p : Nat) (F : Nat → Bool) (B : Int) : Prop := (0 ≤ hy_z h p 1 ∧ hy_z h p 1 ≤ B) ∧ (∀ k, k < 24 → 0 ≤ hy_z h (p + 1) k ∧ hy_z h (p + 1) k ≤ B) ∧ (∀ m, m < 12 → hy_z h (p + 1) (2 * m) ≤ 0 ∨ hy_z h (p + 1) (2 * m + 1) ≤ 0) ∧ ∀ w, w < 64 → ∀ k, k < 64 → F k = true → hy_z h p 1 ≤ sm (hy_z h (p + 1)) w k
theorem CB.mv (C : CB h p F B) (e1 : ∀ j, hy_z g p j = hy_z h p j) (e2 : ∀ j, hy_z g (p + 1) j = hy_z h (p + 1) j) (hF : ∀ k, k < 64 → G k = true → F k = true) (hB : B ≤ B') : CB g p G B' := by
  obtain ⟨c1, c2, c3, c4⟩ := C
  have e3 : hy_z g (p + 1) = hy_z h (p + 1) := funext e2
  unfold CB
  rw [e1, e3]
  exact ⟨by omega, fun k hk => by have := c2 k hk; omega, c3, fun w hw k hk e => c4 w hw k hk (hF k hk e)⟩
/-- what holds between two steps: n constraints, the masks F -/
def LI (h : ax_H) (n : Nat) (F : Nat → Bool) (B : Int) : Prop := hy_H 0 h ∧ pI h ∧ pC h ∧ hy_z h 0 5 = n ∧ hy_z h 1 1 = 0 ∧ (∀ w, w < 64 → ∀ k, k < 64 → pb (hw h 148 w) k = F k) ∧ ∀ c, c < n → CB h (27 + 2 * c) F B
theorem LI.mv {c : List Nat} (I : LI h n F B) (M : lf c h g) (hc : ∀ q ∈ c, 181 ≤ q) (hg : hy_H 0 g) (hn : n ≤ 60) : LI g n F B := by
  obtain ⟨i1, i2, i3, i4, i5, i6, i7⟩ := I
  have no : ∀ q, q < 181 → ¬ q ∈ c := fun q hq e => by have := hc q e; omega
  have z : ∀ q, q < 181 → ∀ j, hy_z g q j = hy_z h q j := fun q hq j => M.z i1 hq (no q hq) j
  exact ⟨hg, M.I i1 i2 (no _ (by decide)) (no _ (by decide)) (no _ (by decide)), M.C i1 i3 (no _ (by decide)), (z 0 (by decide) 5).trans i4, (z 1 (by decide) 1).trans i5, fun w hw k hk => by rw [M.w i1 (by decide) (no _ (by decide))]; exact i6 w hw k hk, fun c hc => (i7 c hc).mv (z _ (by omega)) (z _ (by omega)) (fun _ _ e => e) (Int.le_refl _)⟩
theorem LI.post (I : LI h n F B) (hn : n < 60) (hp : p = 27 + 2 * n) (hB : 100 ≤ B) (q : tP h n p G res g) : LI g (n + 1) (fun k => F k && G k) B := by
  obtain ⟨i1, i2, i3, i4, i5, i6, i7⟩ := I
  obtain ⟨q1, q2, q3, q4, q5, q6, q7, q8, q9, q10, q11, q12⟩ := q
  have z : ∀ q, 27 ≤ q → q < p → ∀ j, hy_z g q j = hy_z h q j := fun q h1 h2 j => q4.z i1 (by omega) (by simp only [List.mem_cons, List.not_mem_nil, or_false]; omega) j
  refine ⟨q1, q2, q3, by rw [q6]; omega, q7, fun w hw k hk => by rw [q11 w hw k hk, i6 w hw k hk], fun c hc => ?_⟩
  rcases (by omega : c < n ∨ c = n) with e | rfl
  · exact (i7 c e).mv (z _ (by omega) (by omega)) (z _ (by omega) (by omega)) (fun k _ e => (Bool.and_eq_true_iff.mp e).1) (Int.le_refl _)
  · rw [← hp]
    exact ⟨by omega, fun k hk => by have := q9 k hk; omega, q10, fun w hw k hk e => (q12 w hw k hk).mpr (Bool.and_eq_true_iff.mp e).2⟩
/-- a step: what it makes is implied -/
theorem LI.step {f : Nat → Int} {d : Int} (I : LI h n F B) (hn : n < 59) (hp : p = 27 + 2 * n) (hB : B ≤ B') (b0 : 0 ≤ B) (hf : ∀ k, k < 24 → 0 ≤ f k ∧ f k ≤ B') (hd : d ≤ B') (hs : ∀ w, w < 64 → ∀ k, k < 64 → F k = true → d ≤ cv f (64 * w + k) 12) (q : pN h n p f d res g) : LI g (n + 1) F B' ∧ (∃ z : Int32, res = .inl (some (.int z)) ∧ z.toInt = n) ∧ lf [0, 8, 9, 13, 14, 17, 18, 148, p, p + 1] h g := by
  obtain ⟨i1, i2, i3, i4, i5, i6, i7⟩ := I
  obtain ⟨q1, q2, q3, q4, q5, q6, q7, q8, q9⟩ := q
  have z : ∀ q, (q = 1 ∨ 27 ≤ q) → q < p → ∀ j, hy_z g q j = hy_z h q j := fun q h1 h2 j => q4.z (by simp only [List.mem_cons, List.not_mem_nil, or_false]; omega) j
  have key : ∀ w, w < 64 → ∀ k, k < 64 → F k = true → nd f d 12 ≤ sm (hy_z g (p + 1)) w k := fun w hw k hk e => by
    rw [sm_cv _ hk hw, cv_c24 q8]
    exact step_ok (fun k hk => (hf k hk).1) (hs w hw k hk e)
  have n1 := nf_le hf
  have n2 := nd_le (f := f) (d := d) (b := B') (fun k hk => (hf k hk).1) hd (by omega)
  refine ⟨⟨q1, q2, q3, by rw [q6, if_pos rfl]; omega, (z 1 (Or.inl rfl) (by omega) 1).trans i5, fun w hw k hk => ?_, fun c hc => ?_⟩, q5, q4.lf⟩
  · rw [q9 w hw k hk, i6 w hw k hk]
    cases e : F k with
    | false => rfl
    | true => rw [decide_eq_true (key w hw k hk e)]; rfl
  · rcases (by omega : c < n ∨ c = n) with e | rfl
    · exact (i7 c e).mv (z _ (by omega) (by omega)) (z _ (by omega) (by omega)) (fun k _ e => e) hB
    · rw [← hp]
      exact ⟨by rw [q7]; exact n2, fun k hk => by rw [q8 k hk]; exact n1 k hk, fun m hm => by rw [q8 _ (by omega), q8 _ (by omega)]; exact nf_pair _ m, fun w hw k hk e => by rw [q7]; exact key w hw k hk e⟩
theorem CB.cv {w k : Nat} (C : CB h p F B) (hw : w < 64) (hk : k < 64) (e : F k = true) : hy_z h p 1 ≤ cv (hy_z h (p + 1)) (64 * w + k) 12 := by
  rw [← sm_cv _ hk hw]
  exact C.2.2.2 w hw k hk e
-- the law's numbers
def rr (L : Nat) (xs : Nat → Int32) (j : Nat) : Int := lbw (sv L xs (4 + j)) 2
def dd (L : Nat) (xs : Nat → Int32) (j : Nat) : Int := lbw (sv L xs (4 + j) >>> (Int32.ofNat 4 &&& 31)) 6 - 3
def FF (L : Nat) (xs : Nat → Int32) : Nat → Nat → Bool
  | 0, _ => true
  | m + 1, k => FF L xs m k && fu (rr L xs m) (dd L xs m) (fs (sv L xs m) k 6)
theorem rr_bd (L : Nat) (xs : Nat → Int32) (j : Nat) : rr L xs j = 0 ∨ rr L xs j = 1 := by
  have := lbw_bd (sv L xs (4 + j)) (n := 2) (by decide)
  unfold rr
  omega
theorem dd_bd (L : Nat) (xs : Nat → Int32) (j : Nat) : -3 ≤ dd L xs j ∧ dd L xs j ≤ 2 := by
  have := lbw_bd (sv L xs (4 + j) >>> (Int32.ofNat 4 &&& 31)) (n := 6) (by decide)
  unfold dd
  omega
/-- the law's arrays -/
def AA (h : ax_H) (fr fd fa : Nat → Int32) : Prop := h[181]? = some (100, ar 4 fr) ∧ h[182]? = some (100, ar 4 fd) ∧ h[183]? = some (100, ar 4 fa)
theorem AA.lf {fr fd fa : Nat → Int32} {c : List Nat} (A : AA h fr fd fa) (M : lf c h g) (hc : ∀ q ∈ c, q < 181 ∨ 184 ≤ q) : AA g fr fd fa := by
  have no : ∀ q, 181 ≤ q → q < 184 → ¬ q ∈ c := fun q h1 h2 e => by have := hc q e; omega
  have lt : ∀ {q x}, h[q]? = some x → q < h.length := fun e => (List.getElem?_eq_some_iff.mp e).1
  exact ⟨(M.2 181 (lt A.1) (no _ (by decide) (by decide))).trans A.1, (M.2 182 (lt A.2.1) (no _ (by decide) (by decide))).trans A.2.1, (M.2 183 (lt A.2.2) (no _ (by decide) (by decide))).trans A.2.2⟩
def AV (L : Nat) (xs : Nat → Int32) (m : Nat) (fr fd fa : Nat → Int32) : Prop := ∀ j, j < m → (fr j).toInt = rr L xs j ∧ (fd j).toInt = dd L xs j ∧ (fa j).toInt = j
def S1 (L : Nat) (xs : Nat → Int32) (h : ax_H) (m : Nat) : Prop := LI h m (FF L xs m) 100 ∧ ∃ fr fd fa, AA h fr fd fa ∧ AV L xs m fr fd fa
theorem hn_77 : (ax_mm 77).2.2.1 = 1 := by decide +kernel
theorem hr_77 : (ax_mm 77).2.2.2.1 = (some .int) := by decide +kernel
theorem hk_77_0 : ax_look 77 0 = some (.aload_n 0, (0, 0, 0), .null, []) := by decide +kernel
theorem hk_77_1 : ax_look 77 1 = some (.getfield 42, (8, 5, 0), .null, [1228]) := by decide +kernel
theorem hk_77_4 : ax_look 77 4 = some (.ireturn, (0, 0, 0), .null, []) := by decide +kernel
theorem p_77 (hlst : l.stackTraces = false) {h : ax_H} (hH : hy_H 0 h) : AM ax_ns l (ax_mm 77) 0 ty_R (0) (0) [.ref 0] h (fun res g => g = h ∧ ∃ z : Int32, res = .inl (some (.int z)) ∧ z.toInt = hy_z h 0 5) := by
  refine AM.of (ax_mfacts (by decide +kernel : ax_has 77 = true)).2.2.2.2.2.2 hlst (by rw [hn_77]; exact Nat.le_of_ble_eq_true rfl) ?_
  show AR ax_ns l (ax_mm 77) 0 ty_R _ _ 0 [(0, .ref 0)] [] h (0) (0)
  refine AR.s (pc' := 1) (lv' := [(0, .ref 0)]) (st' := [.ref 0]) (h' := h) _ hn_77 hk_77_0 rfl ?_
  refine AR.gI hk_77_1 (by decide) hH (q := 0) (n := 18) (by decide) (by decide +kernel) (by decide +kernel) (by decide) hy_t0_5 (fun x216 dx216 lx216 ux216 => ?_)
  show AR _ _ _ _ _ _ _ 4 [(0, .ref 0)] [.int x216] h _ _
  exact AR.iret hk_77_4 hr_77 ⟨rfl, _, rfl, (hy_zi dx216).symm⟩
variable {P : ax_P} {X : ax_PX} {bc bs : Nat}
theorem w_post (c : Nat) {p q : Nat} (hp : p = 27 + 2 * c) (hc : c < 60) (h1 : 181 ≤ q) : ¬ q ∈ [0, 1, 2, 3, 4, 8, 9, 13, 14, 17, 18, 148, p, p + 1] := by simp only [List.mem_cons, List.not_mem_nil, or_false]; omega
theorem w_postl (c : Nat) {p : Nat} (hp : p = 27 + 2 * c) (hc : c < 60) : ∀ q ∈ [0, 1, 2, 3, 4, 8, 9, 13, 14, 17, 18, 148, p, p + 1], q < 181 ∨ 184 ≤ q := fun q h => by simp only [List.mem_cons, List.not_mem_nil, or_false] at h; omega
theorem w_stepl (c : Nat) {p : Nat} (hp : p = 27 + 2 * c) (hc : c < 60) : ∀ q ∈ [0, 8, 9, 13, 14, 17, 18, 148, p, p + 1], q < 181 ∨ 184 ≤ q := fun q h => by simp only [List.mem_cons, List.not_mem_nil, or_false] at h; omega
theorem l1 (hlst : l.stackTraces = false) (hL : L ≤ 3072) (K : ∀ g, S1 L xs g 4 → AR ax_ns l (ax_mm 285) 8 (ax_r L xs) P X 96 [(4, .ref 183), (3, .ref 182), (2, .ref 181), (1, .ref 0), (0, .ref 1000000001)] [] g (bc) (bs)) : ∀ (n m : Nat) (g : ax_H) (i : Int32), m + n = 4 → i.toInt = m → S1 L xs g m → AR ax_ns l (ax_mm 285) 8 (ax_r L xs) P X 24 [(5, .int i), (4, .ref 183), (3, .ref 182), (2, .ref 181), (1, .ref 0), (0, .ref 1000000001)] [] g (bc + 200 * n) (bs + 8000 * n) := by
  intro n
  induction n with
  | zero =>
    intro m g i hn hi S
    show AR _ _ _ _ _ _ _ 24 [(5, .int i), (4, .ref 183), (3, .ref 182), (2, .ref 181), (1, .ref 0), (0, .ref 1000000001)] [] g _ _
    refine AR.s (pc' := 26) (lv' := [(5, .int i), (4, .ref 183), (3, .ref 182), (2, .ref 181), (1, .ref 0), (0, .ref 1000000001)]) (st' := [.int i]) (h' := g) _ hn_285 hk_285_24 rfl ?_
    refine AW.iconstT hk_285_26 (by decide) (fun z217 ez217 => ?_)
    show AR _ _ _ _ _ _ _ 27 [(5, .int i), (4, .ref 183), (3, .ref 182), (2, .ref 181), (1, .ref 0), (0, .ref 1000000001)] [.int z217, .int i] g _ _
    refine AW.jge hk_285_27 (tgt := 96) (by decide) (fun p1 => ?_) (fun p2 => ?_)
    · obtain rfl : m = 4 := by omega
      refine AR.lessL (lv' := [(4, .ref 183), (3, .ref 182), (2, .ref 181), (1, .ref 0), (0, .ref 1000000001)]) (List.forall_mem_cons.mpr ⟨⟨_, by simp, ax_le_rfl rfl⟩, (List.forall_mem_cons.mpr ⟨⟨_, by simp, ax_le_rfl rfl⟩, (List.forall_mem_cons.mpr ⟨⟨_, by simp, ax_le_rfl rfl⟩, (List.forall_mem_cons.mpr ⟨⟨_, by simp, ax_le_rfl rfl⟩, (List.forall_mem_cons.mpr ⟨⟨_, by simp, ax_le_rfl rfl⟩, (fun _ h => absurd h List.not_mem_nil)⟩)⟩)⟩)⟩)⟩) ?_
      exact AR.lt (by omega) (by omega) (K g S)
    · exact absurd p2 (by omega)
  | succ n ih =>
    intro m g i hn hi S
    show AR _ _ _ _ _ _ _ 24 [(5, .int i), (4, .ref 183), (3, .ref 182), (2, .ref 181), (1, .ref 0), (0, .ref 1000000001)] [] g _ _
    refine AR.s (pc' := 26) (lv' := [(5, .int i), (4, .ref 183), (3, .ref 182), (2, .ref 181), (1, .ref 0), (0, .ref 1000000001)]) (st' := [.int i]) (h' := g) _ hn_285 hk_285_24 rfl ?_
    refine AW.iconstT hk_285_26 (by decide) (fun z218 ez218 => ?_)
    show AR _ _ _ _ _ _ _ 27 [(5, .int i), (4, .ref 183), (3, .ref 182), (2, .ref 181), (1, .ref 0), (0, .ref 1000000001)] [.int z218, .int i] g _ _
    refine AW.jge hk_285_27 (tgt := 96) (by decide) (fun p1 => ?_) (fun p2 => ?_)
    · exact absurd p1 (by omega)
    · obtain ⟨I, fr, fd, fa, A, V⟩ := S
      have rb := rr_bd L xs m
      have db := dd_bd L xs m
      show AR _ _ _ _ _ _ _ 30 [(5, .int i), (4, .ref 183), (3, .ref 182), (2, .ref 181), (1, .ref 0), (0, .ref 1000000001)] [] g _ _
      refine AR.s (pc' := 31) (lv' := [(5, .int i), (4, .ref 183), (3, .ref 182), (2, .ref 181), (1, .ref 0), (0, .ref 1000000001)]) (st' := [.ref 181]) (h' := g) _ hn_285 hk_285_30 rfl ?_
      refine AR.s (pc' := 33) (lv' := [(5, .int i), (4, .ref 183), (3, .ref 182), (2, .ref 181), (1, .ref 0), (0, .ref 1000000001)]) (st' := [.int i, .ref 181]) (h' := g) _ hn_285 hk_285_31 rfl ?_
      refine AR.s (pc' := 34) (lv' := [(5, .int i), (4, .ref 183), (3, .ref 182), (2, .ref 181), (1, .ref 0), (0, .ref 1000000001)]) (st' := [.ref 1000000001, .int i, .ref 181]) (h' := g) _ hn_285 hk_285_33 rfl ?_
      refine AW.iconstT hk_285_34 (by decide) (fun z219 ez219 => ?_)
      show AR _ _ _ _ _ _ _ 35 [(5, .int i), (4, .ref 183), (3, .ref 182), (2, .ref 181), (1, .ref 0), (0, .ref 1000000001)] [.int z219, .ref 1000000001, .int i, .ref 181] g _ _
      refine AR.s (pc' := 37) (lv' := [(5, .int i), (4, .ref 183), (3, .ref 182), (2, .ref 181), (1, .ref 0), (0, .ref 1000000001)]) (st' := [.int i, .int z219, .ref 1000000001, .int i, .ref 181]) (h' := g) _ hn_285 hk_285_35 rfl ?_
      refine AW.addT hk_285_37 (by omega) (by omega) (fun z220 ez220 => ?_)
      show AR _ _ _ _ _ _ _ 38 [(5, .int i), (4, .ref 183), (3, .ref 182), (2, .ref 181), (1, .ref 0), (0, .ref 1000000001)] [.int z220, .ref 1000000001, .int i, .ref 181] g _ _
      refine AW.cs (as := [.ref 1000000001, .int z220]) (rest := [.int i, .ref 181]) hk_285_38 (by decide +kernel) rfl rfl (Nat.le_of_ble_eq_true rfl) (t_131 hlst hL (k := 4 + m) (by omega) (by omega)) (by decide) (Nat.zero_le _) (Nat.zero_le _) (fun E h' q => by cases q.2) ?_
      rintro w9 g9 ⟨ee221, e⟩
      cases e
      obtain rfl := ee221.symm
      show AR _ _ _ _ _ _ _ 41 [(5, .int i), (4, .ref 183), (3, .ref 182), (2, .ref 181), (1, .ref 0), (0, .ref 1000000001)] [.int (sv L xs (4 + m)), .int i, .ref 181] g _ _
      refine AW.iconstT hk_285_41 (by decide) (fun z222 ez222 => ?_)
      show AR _ _ _ _ _ _ _ 42 [(5, .int i), (4, .ref 183), (3, .ref 182), (2, .ref 181), (1, .ref 0), (0, .ref 1000000001)] [.int z222, .int (sv L xs (4 + m)), .int i, .ref 181] g _ _
      refine AW.cs (as := [.int (sv L xs (4 + m)), .int z222]) (rest := [.int i, .ref 181]) hk_285_42 (by decide +kernel) rfl rfl (Nat.le_of_ble_eq_true rfl) (AW.W (t_130 hlst (n := 2) (by omega) (by decide))) (by decide) (Nat.zero_le _) (Nat.zero_le _) (fun E h' q => by obtain ⟨-, x, e, -⟩ := q; cases e) ?_
      rintro w223 g224 ⟨eg224, z225, e, ez225⟩
      cases e
      obtain rfl := eg224.symm
      show AR _ _ _ _ _ _ _ 45 [(5, .int i), (4, .ref 183), (3, .ref 182), (2, .ref 181), (1, .ref 0), (0, .ref 1000000001)] [.int z225, .int i, .ref 181] g _ _
      refine AW.ias hk_285_45 I.1 (by decide) (by decide) A.1 (Or.inl rfl) hi (by omega) (fun g1 H1 M1 B1 => ?_)
      show AR _ _ _ _ _ _ _ 46 [(5, .int i), (4, .ref 183), (3, .ref 182), (2, .ref 181), (1, .ref 0), (0, .ref 1000000001)] [] g1 _ _
      have I1 := I.mv M1 (by decide) H1 (by omega)
      have A1 : AA g1 _ fd fa := ⟨B1, (M1.2 182 (List.getElem?_eq_some_iff.mp A.2.1).1 (by decide)).trans A.2.1, (M1.2 183 (List.getElem?_eq_some_iff.mp A.2.2).1 (by decide)).trans A.2.2⟩
      show AR _ _ _ _ _ _ _ 46 [(5, .int i), (4, .ref 183), (3, .ref 182), (2, .ref 181), (1, .ref 0), (0, .ref 1000000001)] [] g1 _ _
      refine AR.s (pc' := 47) (lv' := [(5, .int i), (4, .ref 183), (3, .ref 182), (2, .ref 181), (1, .ref 0), (0, .ref 1000000001)]) (st' := [.ref 182]) (h' := g1) _ hn_285 hk_285_46 rfl ?_
      refine AR.s (pc' := 49) (lv' := [(5, .int i), (4, .ref 183), (3, .ref 182), (2, .ref 181), (1, .ref 0), (0, .ref 1000000001)]) (st' := [.int i, .ref 182]) (h' := g1) _ hn_285 hk_285_47 rfl ?_
      refine AR.s (pc' := 50) (lv' := [(5, .int i), (4, .ref 183), (3, .ref 182), (2, .ref 181), (1, .ref 0), (0, .ref 1000000001)]) (st' := [.ref 1000000001, .int i, .ref 182]) (h' := g1) _ hn_285 hk_285_49 rfl ?_
      refine AW.iconstT hk_285_50 (by decide) (fun z226 ez226 => ?_)
      show AR _ _ _ _ _ _ _ 51 [(5, .int i), (4, .ref 183), (3, .ref 182), (2, .ref 181), (1, .ref 0), (0, .ref 1000000001)] [.int z226, .ref 1000000001, .int i, .ref 182] g1 _ _
      refine AR.s (pc' := 53) (lv' := [(5, .int i), (4, .ref 183), (3, .ref 182), (2, .ref 181), (1, .ref 0), (0, .ref 1000000001)]) (st' := [.int i, .int z226, .ref 1000000001, .int i, .ref 182]) (h' := g1) _ hn_285 hk_285_51 rfl ?_
      refine AW.addT hk_285_53 (by omega) (by omega) (fun z227 ez227 => ?_)
      show AR _ _ _ _ _ _ _ 54 [(5, .int i), (4, .ref 183), (3, .ref 182), (2, .ref 181), (1, .ref 0), (0, .ref 1000000001)] [.int z227, .ref 1000000001, .int i, .ref 182] g1 _ _
      refine AW.cs (as := [.ref 1000000001, .int z227]) (rest := [.int i, .ref 182]) hk_285_54 (by decide +kernel) rfl rfl (Nat.le_of_ble_eq_true rfl) (t_131 hlst hL (k := 4 + m) (by omega) (by omega)) (by decide) (Nat.zero_le _) (Nat.zero_le _) (fun E h' q => by cases q.2) ?_
      rintro w9 g9 ⟨ee228, e⟩
      cases e
      obtain rfl := ee228.symm
      show AR _ _ _ _ _ _ _ 57 [(5, .int i), (4, .ref 183), (3, .ref 182), (2, .ref 181), (1, .ref 0), (0, .ref 1000000001)] [.int (sv L xs (4 + m)), .int i, .ref 182] g1 _ _
      refine AW.iconstT hk_285_57 (by decide) (fun z229 ez229 => ?_)
      show AR _ _ _ _ _ _ _ 58 [(5, .int i), (4, .ref 183), (3, .ref 182), (2, .ref 181), (1, .ref 0), (0, .ref 1000000001)] [.int z229, .int (sv L xs (4 + m)), .int i, .ref 182] g1 _ _
      rw [show z229 = Int32.ofNat 4 from Int32.toInt_inj.mp (ez229.trans (by decide))]
      show AR _ _ _ _ _ _ _ 58 [(5, .int i), (4, .ref 183), (3, .ref 182), (2, .ref 181), (1, .ref 0), (0, .ref 1000000001)] [.int (Int32.ofNat 4), .int (sv L xs (4 + m)), .int i, .ref 182] g1 _ _
      refine AR.ishr (z := .int ((sv L xs (4 + m)) >>> ((Int32.ofNat 4) &&& 31))) (ax_look_ok hk_285_58).1 rfl ?_
      generalize gz230 : (sv L xs (4 + m)) >>> ((Int32.ofNat 4) &&& 31) = z230
      show AR _ _ _ _ _ _ _ 59 [(5, .int i), (4, .ref 183), (3, .ref 182), (2, .ref 181), (1, .ref 0), (0, .ref 1000000001)] [.int z230, .int i, .ref 182] g1 _ _
      refine AW.bipushT hk_285_59 (by decide) (fun z231 ez231 => ?_)
      show AR _ _ _ _ _ _ _ 61 [(5, .int i), (4, .ref 183), (3, .ref 182), (2, .ref 181), (1, .ref 0), (0, .ref 1000000001)] [.int z231, .int z230, .int i, .ref 182] g1 _ _
      refine AW.cs (as := [.int z230, .int z231]) (rest := [.int i, .ref 182]) hk_285_61 (by decide +kernel) rfl rfl (Nat.le_of_ble_eq_true rfl) (AW.W (t_130 hlst (n := 6) (by omega) (by decide))) (by decide) (Nat.zero_le _) (Nat.zero_le _) (fun E h' q => by obtain ⟨-, x, e, -⟩ := q; cases e) ?_
      rintro w232 g233 ⟨eg233, z234, e, ez234⟩
      cases e
      obtain rfl := eg233.symm
      show AR _ _ _ _ _ _ _ 64 [(5, .int i), (4, .ref 183), (3, .ref 182), (2, .ref 181), (1, .ref 0), (0, .ref 1000000001)] [.int z234, .int i, .ref 182] g1 _ _
      have bz := lbw_bd z230 (n := 6) (by decide)
      show AR _ _ _ _ _ _ _ 64 [(5, .int i), (4, .ref 183), (3, .ref 182), (2, .ref 181), (1, .ref 0), (0, .ref 1000000001)] [.int z234, .int i, .ref 182] g1 _ _
      refine AW.iconstT hk_285_64 (by decide) (fun z235 ez235 => ?_)
      show AR _ _ _ _ _ _ _ 65 [(5, .int i), (4, .ref 183), (3, .ref 182), (2, .ref 181), (1, .ref 0), (0, .ref 1000000001)] [.int z235, .int z234, .int i, .ref 182] g1 _ _
      refine AW.subT hk_285_65 (by omega) (by omega) (fun z236 ez236 => ?_)
      show AR _ _ _ _ _ _ _ 66 [(5, .int i), (4, .ref 183), (3, .ref 182), (2, .ref 181), (1, .ref 0), (0, .ref 1000000001)] [.int z236, .int i, .ref 182] g1 _ _
      refine AW.ias hk_285_66 H1 (by decide) (by decide) A1.2.1 (Or.inl rfl) hi (by omega) (fun g2 H2 M2 B2 => ?_)
      show AR _ _ _ _ _ _ _ 67 [(5, .int i), (4, .ref 183), (3, .ref 182), (2, .ref 181), (1, .ref 0), (0, .ref 1000000001)] [] g2 _ _
      have I2 := I1.mv M2 (by decide) H2 (by omega)
      have A2 : AA g2 _ _ fa := ⟨(M2.2 181 (List.getElem?_eq_some_iff.mp A1.1).1 (by decide)).trans A1.1, B2, (M2.2 183 (List.getElem?_eq_some_iff.mp A1.2.2).1 (by decide)).trans A1.2.2⟩
      have vr : z225.toInt = rr L xs m := ez225
      have vd : z236.toInt = dd L xs m := by rw [ez236, ez234]; unfold dd; rw [← gz230]; omega
      show AR _ _ _ _ _ _ _ 67 [(5, .int i), (4, .ref 183), (3, .ref 182), (2, .ref 181), (1, .ref 0), (0, .ref 1000000001)] [] g2 _ _
      refine AR.s (pc' := 69) (lv' := [(5, .int i), (4, .ref 183), (3, .ref 182), (2, .ref 181), (1, .ref 0), (0, .ref 1000000001)]) (st' := [.ref 183]) (h' := g2) _ hn_285 hk_285_67 rfl ?_
      refine AR.s (pc' := 71) (lv' := [(5, .int i), (4, .ref 183), (3, .ref 182), (2, .ref 181), (1, .ref 0), (0, .ref 1000000001)]) (st' := [.int i, .ref 183]) (h' := g2) _ hn_285 hk_285_69 rfl ?_
      refine AR.s (pc' := 72) (lv' := [(5, .int i), (4, .ref 183), (3, .ref 182), (2, .ref 181), (1, .ref 0), (0, .ref 1000000001)]) (st' := [.ref 0, .int i, .ref 183]) (h' := g2) _ hn_285 hk_285_71 rfl ?_
      refine AR.s (pc' := 73) (lv' := [(5, .int i), (4, .ref 183), (3, .ref 182), (2, .ref 181), (1, .ref 0), (0, .ref 1000000001)]) (st' := [.ref 1000000001, .ref 0, .int i, .ref 183]) (h' := g2) _ hn_285 hk_285_72 rfl ?_
      refine AR.s (pc' := 75) (lv' := [(5, .int i), (4, .ref 183), (3, .ref 182), (2, .ref 181), (1, .ref 0), (0, .ref 1000000001)]) (st' := [.int i, .ref 1000000001, .ref 0, .int i, .ref 183]) (h' := g2) _ hn_285 hk_285_73 rfl ?_
      refine AW.cs (as := [.ref 1000000001, .int i]) (rest := [.ref 0, .int i, .ref 183]) hk_285_75 (by decide +kernel) rfl rfl (Nat.le_of_ble_eq_true rfl) (t_131 hlst hL (k := m) (by omega) (by omega)) (by decide) (Nat.zero_le _) (Nat.zero_le _) (fun E h' q => by cases q.2) ?_
      rintro w9 g9 ⟨ee237, e⟩
      cases e
      obtain rfl := ee237.symm
      show AR _ _ _ _ _ _ _ 78 [(5, .int i), (4, .ref 183), (3, .ref 182), (2, .ref 181), (1, .ref 0), (0, .ref 1000000001)] [.int (sv L xs (m)), .ref 0, .int i, .ref 183] g2 _ _
      refine AR.s (pc' := 79) (lv' := [(5, .int i), (4, .ref 183), (3, .ref 182), (2, .ref 181), (1, .ref 0), (0, .ref 1000000001)]) (st' := [.ref 181, .int (sv L xs (m)), .ref 0, .int i, .ref 183]) (h' := g2) _ hn_285 hk_285_78 rfl ?_
      refine AR.s (pc' := 81) (lv' := [(5, .int i), (4, .ref 183), (3, .ref 182), (2, .ref 181), (1, .ref 0), (0, .ref 1000000001)]) (st' := [.int i, .ref 181, .int (sv L xs (m)), .ref 0, .int i, .ref 183]) (h' := g2) _ hn_285 hk_285_79 rfl ?_
      refine AW.ia hk_285_81 (by decide) A2.1 hi (by omega) ?_
      rw [if_pos rfl]
      show AR _ _ _ _ _ _ _ 82 [(5, .int i), (4, .ref 183), (3, .ref 182), (2, .ref 181), (1, .ref 0), (0, .ref 1000000001)] [.int z225, .int (sv L xs (m)), .ref 0, .int i, .ref 183] g2 _ _
      refine AR.s (pc' := 83) (lv' := [(5, .int i), (4, .ref 183), (3, .ref 182), (2, .ref 181), (1, .ref 0), (0, .ref 1000000001)]) (st' := [.ref 182, .int z225, .int (sv L xs (m)), .ref 0, .int i, .ref 183]) (h' := g2) _ hn_285 hk_285_82 rfl ?_
      refine AR.s (pc' := 85) (lv' := [(5, .int i), (4, .ref 183), (3, .ref 182), (2, .ref 181), (1, .ref 0), (0, .ref 1000000001)]) (st' := [.int i, .ref 182, .int z225, .int (sv L xs (m)), .ref 0, .int i, .ref 183]) (h' := g2) _ hn_285 hk_285_83 rfl ?_
      refine AW.ia hk_285_85 (by decide) A2.2.1 hi (by omega) ?_
      rw [if_pos rfl]
      show AR _ _ _ _ _ _ _ 86 [(5, .int i), (4, .ref 183), (3, .ref 182), (2, .ref 181), (1, .ref 0), (0, .ref 1000000001)] [.int z236, .int z225, .int (sv L xs (m)), .ref 0, .int i, .ref 183] g2 _ _
      refine AW.cs (as := [.ref 0, .int (sv L xs (m)), .int z225, .int z236]) (rest := [.int i, .ref 183]) hk_285_86 (by decide +kernel) rfl rfl (Nat.le_of_ble_eq_true rfl) (AW.W (t_139 hlst (n := m) (p := 27 + 2 * m) H2 I2.2.1 I2.2.2.1 I2.2.2.2.1 (by omega) rfl I2.2.2.2.2.1 (by omega) (by omega))) (by decide) (by omega) (by omega) (fun E h' q => by obtain ⟨-, -, -, -, ⟨_, e, -⟩, -⟩ := q; cases e) ?_
      rintro w3 g3 q3
      have I3 := I2.post (by omega) rfl (by decide) q3
      obtain ⟨H3, -, -, M3, ⟨z5, e5, v5⟩, -⟩ := q3
      cases e5
      have A3 := A2.lf M3 (w_postl m rfl (by omega))
      show AR _ _ _ _ _ _ _ 89 [(5, .int i), (4, .ref 183), (3, .ref 182), (2, .ref 181), (1, .ref 0), (0, .ref 1000000001)] [.int z5, .int i, .ref 183] g3 _ _
      refine AW.ias hk_285_89 H3 (by decide) (by decide) A3.2.2 (Or.inl rfl) hi (by omega) (fun g4 H4 M4 B4 => ?_)
      show AR _ _ _ _ _ _ _ 90 [(5, .int i), (4, .ref 183), (3, .ref 182), (2, .ref 181), (1, .ref 0), (0, .ref 1000000001)] [] g4 _ _
      have I4 := I3.mv M4 (by decide) H4 (by omega)
      have A4 : AA g4 _ _ _ := ⟨(M4.2 181 (List.getElem?_eq_some_iff.mp A3.1).1 (by decide)).trans A3.1, (M4.2 182 (List.getElem?_eq_some_iff.mp A3.2.1).1 (by decide)).trans A3.2.1, B4⟩
      show AR _ _ _ _ _ _ _ 90 [(5, .int i), (4, .ref 183), (3, .ref 182), (2, .ref 181), (1, .ref 0), (0, .ref 1000000001)] [] g4 _ _
      refine AW.iincT hk_285_90 (x := i) rfl (by rw [hn_285]; decide) (by decide) (by omega) (by omega) (fun z238 ez238 => ?_)
      show AR _ _ _ _ _ _ _ 93 [(5, .int z238), (4, .ref 183), (3, .ref 182), (2, .ref 181), (1, .ref 0), (0, .ref 1000000001)] [] g4 _ _
      refine AW.gotoT hk_285_93 (tgt := 24) (by decide) ?_
      refine AR.lessL (lv' := [(5, .int z238), (4, .ref 183), (3, .ref 182), (2, .ref 181), (1, .ref 0), (0, .ref 1000000001)]) (List.forall_mem_cons.mpr ⟨⟨_, by simp, ax_le_rfl rfl⟩, (List.forall_mem_cons.mpr ⟨⟨_, by simp, ax_le_rfl rfl⟩, (List.forall_mem_cons.mpr ⟨⟨_, by simp, ax_le_rfl rfl⟩, (List.forall_mem_cons.mpr ⟨⟨_, by simp, ax_le_rfl rfl⟩, (List.forall_mem_cons.mpr ⟨⟨_, by simp, ax_le_rfl rfl⟩, (List.forall_mem_cons.mpr ⟨⟨_, by simp, ax_le_rfl rfl⟩, (fun _ h => absurd h List.not_mem_nil)⟩)⟩)⟩)⟩)⟩)⟩) ?_
      refine AR.lt (by omega) (by omega) (ih (m + 1) g4 _ (by omega) (by omega) ⟨?_, _, _, _, A4, fun j hj => ?_⟩)
      · rw [vr, vd] at I4; exact I4
      · by_cases e : j = m
        · subst e
          rw [if_pos rfl, if_pos rfl, if_pos rfl]
          exact ⟨vr, vd, v5⟩
        · rw [if_neg e, if_neg e, if_neg e]
          exact V j (by omega)
def S2 (L : Nat) (xs : Nat → Int32) (h : ax_H) (t : Nat) : Prop := LI h (4 + t) (FF L xs 4) (100 * 2 ^ t) ∧ ∃ fr fd fa, AA h fr fd fa ∧ AV L xs 4 fr fd fa
theorem p2_bd : ∀ t, t < 6 → (100 : Int) ≤ 100 * 2 ^ t ∧ (100 * 2 ^ t : Int) ≤ 3200 ∧ (100 * 2 ^ (t + 1) : Int) = 2 * (100 * 2 ^ t) := by decide +kernel
theorem quo_le {y a b : Int} (hy : 1 ≤ y) (hy4 : y ≤ 4) (h0 : 0 ≤ a) (h1 : a ≤ b) : 0 ≤ (a + y - 1).tdiv y ∧ (a + y - 1).tdiv y ≤ b := by
  rw [Int.tdiv_eq_ediv_of_nonneg (by omega)]
  rcases (by omega : y = 1 ∨ y = 2 ∨ y = 3 ∨ y = 4) with rfl | rfl | rfl | rfl <;> omega
theorem l2 (hlst : l.stackTraces = false) (hL : L ≤ 3072) (K : ∀ g, S2 L xs g 5 → AR ax_ns l (ax_mm 285) 8 (ax_r L xs) P X 231 [(4, .ref 183), (3, .ref 182), (2, .ref 181), (1, .ref 0), (0, .ref 1000000001)] [] g (bc) (bs)) : ∀ (n t : Nat) (g : ax_H) (i : Int32), t + n = 5 → i.toInt = t → S2 L xs g t → AR ax_ns l (ax_mm 285) 8 (ax_r L xs) P X 99 [(5, .int i), (4, .ref 183), (3, .ref 182), (2, .ref 181), (1, .ref 0), (0, .ref 1000000001)] [] g (bc) (bs) := by
  intro n
  induction n with
  | zero =>
    intro t g i hn hi S
    show AR _ _ _ _ _ _ _ 99 [(5, .int i), (4, .ref 183), (3, .ref 182), (2, .ref 181), (1, .ref 0), (0, .ref 1000000001)] [] g _ _
    refine AR.s (pc' := 101) (lv' := [(5, .int i), (4, .ref 183), (3, .ref 182), (2, .ref 181), (1, .ref 0), (0, .ref 1000000001)]) (st' := [.int i]) (h' := g) _ hn_285 hk_285_99 rfl ?_
    refine AW.iconstT hk_285_101 (by decide) (fun z239 ez239 => ?_)
    show AR _ _ _ _ _ _ _ 102 [(5, .int i), (4, .ref 183), (3, .ref 182), (2, .ref 181), (1, .ref 0), (0, .ref 1000000001)] [.int z239, .int i] g _ _
    refine AW.jge hk_285_102 (tgt := 231) (by decide) (fun p1 => ?_) (fun p2 => ?_)
    · obtain rfl : t = 5 := by omega
      refine AR.lessL (lv' := [(4, .ref 183), (3, .ref 182), (2, .ref 181), (1, .ref 0), (0, .ref 1000000001)]) (List.forall_mem_cons.mpr ⟨⟨_, by simp, ax_le_rfl rfl⟩, (List.forall_mem_cons.mpr ⟨⟨_, by simp, ax_le_rfl rfl⟩, (List.forall_mem_cons.mpr ⟨⟨_, by simp, ax_le_rfl rfl⟩, (List.forall_mem_cons.mpr ⟨⟨_, by simp, ax_le_rfl rfl⟩, (List.forall_mem_cons.mpr ⟨⟨_, by simp, ax_le_rfl rfl⟩, (fun _ h => absurd h List.not_mem_nil)⟩)⟩)⟩)⟩)⟩) ?_
      exact K g S
    · exact absurd p2 (by omega)
  | succ n ih =>
    intro t g i hn hi S
    show AR _ _ _ _ _ _ _ 99 [(5, .int i), (4, .ref 183), (3, .ref 182), (2, .ref 181), (1, .ref 0), (0, .ref 1000000001)] [] g _ _
    refine AR.s (pc' := 101) (lv' := [(5, .int i), (4, .ref 183), (3, .ref 182), (2, .ref 181), (1, .ref 0), (0, .ref 1000000001)]) (st' := [.int i]) (h' := g) _ hn_285 hk_285_99 rfl ?_
    refine AW.iconstT hk_285_101 (by decide) (fun z240 ez240 => ?_)
    show AR _ _ _ _ _ _ _ 102 [(5, .int i), (4, .ref 183), (3, .ref 182), (2, .ref 181), (1, .ref 0), (0, .ref 1000000001)] [.int z240, .int i] g _ _
    refine AW.jge hk_285_102 (tgt := 231) (by decide) (fun p1 => ?_) (fun p2 => ?_)
    · exact absurd p1 (by omega)
    · obtain ⟨I, fr, fd, fa, A, V⟩ := S
      obtain ⟨b1, b2, b3⟩ := p2_bd t (by omega)
      generalize hBB : (100 * 2 ^ t : Int) = BB at I b1 b2 b3
      obtain ⟨v0, c0⟩ := p_c8 I.1
      have i4 := I.2.2.2.1
      show AR _ _ _ _ _ _ _ 105 [(5, .int i), (4, .ref 183), (3, .ref 182), (2, .ref 181), (1, .ref 0), (0, .ref 1000000001)] [] g _ _
      refine AR.s (pc' := 106) (lv' := [(5, .int i), (4, .ref 183), (3, .ref 182), (2, .ref 181), (1, .ref 0), (0, .ref 1000000001)]) (st' := [.ref 1000000001]) (h' := g) _ hn_285 hk_285_105 rfl ?_
      refine AW.bipushT hk_285_106 (by decide) (fun z241 ez241 => ?_)
      show AR _ _ _ _ _ _ _ 108 [(5, .int i), (4, .ref 183), (3, .ref 182), (2, .ref 181), (1, .ref 0), (0, .ref 1000000001)] [.int z241, .ref 1000000001] g _ _
      refine AR.s (pc' := 110) (lv' := [(5, .int i), (4, .ref 183), (3, .ref 182), (2, .ref 181), (1, .ref 0), (0, .ref 1000000001)]) (st' := [.int i, .int z241, .ref 1000000001]) (h' := g) _ hn_285 hk_285_108 rfl ?_
      refine AW.addT hk_285_110 (by omega) (by omega) (fun z242 ez242 => ?_)
      show AR _ _ _ _ _ _ _ 111 [(5, .int i), (4, .ref 183), (3, .ref 182), (2, .ref 181), (1, .ref 0), (0, .ref 1000000001)] [.int z242, .ref 1000000001] g _ _
      refine AW.cs (as := [.ref 1000000001, .int z242]) (rest := []) hk_285_111 (by decide +kernel) rfl rfl (Nat.le_of_ble_eq_true rfl) (t_131 hlst hL (k := 8 + t) (by omega) (by omega)) (by decide) (Nat.zero_le _) (Nat.zero_le _) (fun E h' q => by cases q.2) ?_
      rintro w9 g9 ⟨ee243, e⟩
      cases e
      obtain rfl := ee243.symm
      show AR _ _ _ _ _ _ _ 114 [(5, .int i), (4, .ref 183), (3, .ref 182), (2, .ref 181), (1, .ref 0), (0, .ref 1000000001)] [.int (sv L xs (8 + t))] g _ _
      generalize sv L xs (8 + t) = y6
      show AR _ _ _ _ _ _ _ 114 [(5, .int i), (4, .ref 183), (3, .ref 182), (2, .ref 181), (1, .ref 0), (0, .ref 1000000001)] [.int y6] g _ _
      refine AR.s (pc' := 116) (lv' := [(6, .int y6), (5, .int i), (4, .ref 183), (3, .ref 182), (2, .ref 181), (1, .ref 0), (0, .ref 1000000001)]) (st' := []) (h' := g) _ hn_285 hk_285_114 rfl ?_
      refine AR.s (pc' := 117) (lv' := [(6, .int y6), (5, .int i), (4, .ref 183), (3, .ref 182), (2, .ref 181), (1, .ref 0), (0, .ref 1000000001)]) (st' := [.ref 0]) (h' := g) _ hn_285 hk_285_116 rfl ?_
      refine AW.jr (r := 0) (as := []) (rest := []) hk_285_117 (by decide) (by decide +kernel) (by decide) c0 rfl rfl (Nat.le_of_ble_eq_true rfl) (AW.W (p_77 hlst I.1)) (by decide) (Nat.zero_le _) (Nat.zero_le _) ?_ (fun E h' q => by obtain ⟨-, x, e, -⟩ := q; cases e)
      rintro w244 g245 ⟨eg245, z246, e, ez246⟩
      cases e
      obtain rfl := eg245.symm
      show AR _ _ _ _ _ _ _ 120 [(6, .int y6), (5, .int i), (4, .ref 183), (3, .ref 182), (2, .ref 181), (1, .ref 0), (0, .ref 1000000001)] [.int z246] g _ _
      refine AR.s (pc' := 122) (lv' := [(7, .int z246), (6, .int y6), (5, .int i), (4, .ref 183), (3, .ref 182), (2, .ref 181), (1, .ref 0), (0, .ref 1000000001)]) (st' := []) (h' := g) _ hn_285 hk_285_120 rfl ?_
      refine AR.s (pc' := 124) (lv' := [(7, .int z246), (6, .int y6), (5, .int i), (4, .ref 183), (3, .ref 182), (2, .ref 181), (1, .ref 0), (0, .ref 1000000001)]) (st' := [.int y6]) (h' := g) _ hn_285 hk_285_122 rfl ?_
      refine AW.iconstT hk_285_124 (by decide) (fun z247 ez247 => ?_)
      show AR _ _ _ _ _ _ _ 125 [(7, .int z246), (6, .int y6), (5, .int i), (4, .ref 183), (3, .ref 182), (2, .ref 181), (1, .ref 0), (0, .ref 1000000001)] [.int z247, .int y6] g _ _
      refine AR.ishr (z := .int (y6 >>> (z247 &&& 31))) (ax_look_ok hk_285_125).1 rfl ?_
      generalize gz248 : y6 >>> (z247 &&& 31) = z248
      show AR _ _ _ _ _ _ _ 126 [(7, .int z246), (6, .int y6), (5, .int i), (4, .ref 183), (3, .ref 182), (2, .ref 181), (1, .ref 0), (0, .ref 1000000001)] [.int z248] g _ _
      skip
      refine AR.s (pc' := 128) (lv' := [(7, .int z246), (6, .int y6), (5, .int i), (4, .ref 183), (3, .ref 182), (2, .ref 181), (1, .ref 0), (0, .ref 1000000001)]) (st' := [.int z246, .int z248]) (h' := g) _ hn_285 hk_285_126 rfl ?_
      have d8 := lbw_bd z248 (n := (4 : Int) + t) (by omega)
      refine AW.cs (as := [.int z248, .int z246]) (rest := []) hk_285_128 (by decide +kernel) rfl rfl (Nat.le_of_ble_eq_true rfl) (AW.W (t_130 hlst (n := (4 : Int) + t) (by omega) (by omega))) (by decide) (Nat.zero_le _) (Nat.zero_le _) (fun E h' q => by obtain ⟨-, x, e, -⟩ := q; cases e) ?_
      rintro w249 g250 ⟨eg250, z251, e, ez251⟩
      cases e
      obtain rfl := eg250.symm
      show AR _ _ _ _ _ _ _ 131 [(7, .int z246), (6, .int y6), (5, .int i), (4, .ref 183), (3, .ref 182), (2, .ref 181), (1, .ref 0), (0, .ref 1000000001)] [.int z251] g _ _
      refine AR.s (pc' := 133) (lv' := [(8, .int z251), (7, .int z246), (6, .int y6), (5, .int i), (4, .ref 183), (3, .ref 182), (2, .ref 181), (1, .ref 0), (0, .ref 1000000001)]) (st' := []) (h' := g) _ hn_285 hk_285_131 rfl ?_
      refine AR.s (pc' := 135) (lv' := [(8, .int z251), (7, .int z246), (6, .int y6), (5, .int i), (4, .ref 183), (3, .ref 182), (2, .ref 181), (1, .ref 0), (0, .ref 1000000001)]) (st' := [.int y6]) (h' := g) _ hn_285 hk_285_133 rfl ?_
      refine AW.bipushT hk_285_135 (by decide) (fun z252 ez252 => ?_)
      show AR _ _ _ _ _ _ _ 137 [(8, .int z251), (7, .int z246), (6, .int y6), (5, .int i), (4, .ref 183), (3, .ref 182), (2, .ref 181), (1, .ref 0), (0, .ref 1000000001)] [.int z252, .int y6] g _ _
      refine AR.ishr (z := .int (y6 >>> (z252 &&& 31))) (ax_look_ok hk_285_137).1 rfl ?_
      generalize gz253 : y6 >>> (z252 &&& 31) = z253
      show AR _ _ _ _ _ _ _ 138 [(8, .int z251), (7, .int z246), (6, .int y6), (5, .int i), (4, .ref 183), (3, .ref 182), (2, .ref 181), (1, .ref 0), (0, .ref 1000000001)] [.int z253] g _ _
      refine AR.s (pc' := 140) (lv' := [(8, .int z251), (7, .int z246), (6, .int y6), (5, .int i), (4, .ref 183), (3, .ref 182), (2, .ref 181), (1, .ref 0), (0, .ref 1000000001)]) (st' := [.int z246, .int z253]) (h' := g) _ hn_285 hk_285_138 rfl ?_
      have d9 := lbw_bd z253 (n := (4 : Int) + t) (by omega)
      refine AW.cs (as := [.int z253, .int z246]) (rest := []) hk_285_140 (by decide +kernel) rfl rfl (Nat.le_of_ble_eq_true rfl) (AW.W (t_130 hlst (n := (4 : Int) + t) (by omega) (by omega))) (by decide) (Nat.zero_le _) (Nat.zero_le _) (fun E h' q => by obtain ⟨-, x, e, -⟩ := q; cases e) ?_
      rintro w254 g255 ⟨eg255, z256, e, ez256⟩
      cases e
      obtain rfl := eg255.symm
      show AR _ _ _ _ _ _ _ 143 [(8, .int z251), (7, .int z246), (6, .int y6), (5, .int i), (4, .ref 183), (3, .ref 182), (2, .ref 181), (1, .ref 0), (0, .ref 1000000001)] [.int z256] g _ _
      refine AR.s (pc' := 145) (lv' := [(9, .int z256), (8, .int z251), (7, .int z246), (6, .int y6), (5, .int i), (4, .ref 183), (3, .ref 182), (2, .ref 181), (1, .ref 0), (0, .ref 1000000001)]) (st' := []) (h' := g) _ hn_285 hk_285_143 rfl ?_
      refine AR.s (pc' := 147) (lv' := [(9, .int z256), (8, .int z251), (7, .int z246), (6, .int y6), (5, .int i), (4, .ref 183), (3, .ref 182), (2, .ref 181), (1, .ref 0), (0, .ref 1000000001)]) (st' := [.int y6]) (h' := g) _ hn_285 hk_285_145 rfl ?_
      refine AW.iconstT hk_285_147 (by decide) (fun z257 ez257 => ?_)
      show AR _ _ _ _ _ _ _ 148 [(9, .int z256), (8, .int z251), (7, .int z246), (6, .int y6), (5, .int i), (4, .ref 183), (3, .ref 182), (2, .ref 181), (1, .ref 0), (0, .ref 1000000001)] [.int z257, .int y6] g _ _
      have d10 := a3_bd (x := y6) ez257
      refine AR.iand (z := .int (y6 &&& z257)) (ax_look_ok hk_285_148).1 rfl ?_
      generalize gz258 : y6 &&& z257 = z258
      show AR _ _ _ _ _ _ _ 149 [(9, .int z256), (8, .int z251), (7, .int z246), (6, .int y6), (5, .int i), (4, .ref 183), (3, .ref 182), (2, .ref 181), (1, .ref 0), (0, .ref 1000000001)] [.int z258] g _ _
      rw [gz258] at d10
      obtain ⟨a8, ha8, la8⟩ : ∃ a8 : Nat, z251.toInt = a8 ∧ a8 < 4 + t := ⟨z251.toInt.toNat, by omega, by omega⟩
      obtain ⟨a9, ha9, la9⟩ : ∃ a9 : Nat, z256.toInt = a9 ∧ a9 < 4 + t := ⟨z256.toInt.toNat, by omega, by omega⟩
      have C8 := I.2.2.2.2.2.2 a8 la8
      have C9 := I.2.2.2.2.2.2 a9 la9
      show AR _ _ _ _ _ _ _ 149 [(9, .int z256), (8, .int z251), (7, .int z246), (6, .int y6), (5, .int i), (4, .ref 183), (3, .ref 182), (2, .ref 181), (1, .ref 0), (0, .ref 1000000001)] [.int z258] g _ _
      refine AR.s (pc' := 151) (lv' := [(10, .int z258), (9, .int z256), (8, .int z251), (7, .int z246), (6, .int y6), (5, .int i), (4, .ref 183), (3, .ref 182), (2, .ref 181), (1, .ref 0), (0, .ref 1000000001)]) (st' := []) (h' := g) _ hn_285 hk_285_149 rfl ?_
      refine AR.s (pc' := 153) (lv' := [(10, .int z258), (9, .int z256), (8, .int z251), (7, .int z246), (6, .int y6), (5, .int i), (4, .ref 183), (3, .ref 182), (2, .ref 181), (1, .ref 0), (0, .ref 1000000001)]) (st' := [.int z258]) (h' := g) _ hn_285 hk_285_151 rfl ?_
      refine AW.zne hk_285_153 (tgt := 167) (by decide) (fun x1 => ?_) (fun x2 => ?_)
      · refine AR.s (pc' := 169) (lv' := [(10, .int z258), (9, .int z256), (8, .int z251), (7, .int z246), (6, .int y6), (5, .int i), (4, .ref 183), (3, .ref 182), (2, .ref 181), (1, .ref 0), (0, .ref 1000000001)]) (st' := [.int z258]) (h' := g) _ hn_285 hk_285_167 rfl ?_
        refine AW.iconstT hk_285_169 (by decide) (fun z260 ez260 => ?_)
        show AR _ _ _ _ _ _ _ 170 [(10, .int z258), (9, .int z256), (8, .int z251), (7, .int z246), (6, .int y6), (5, .int i), (4, .ref 183), (3, .ref 182), (2, .ref 181), (1, .ref 0), (0, .ref 1000000001)] [.int z260, .int z258] g _ _
        refine AW.jne hk_285_170 (tgt := 193) (by decide) (fun r1 => ?_) (fun r2 => ?_)
        · refine AR.s (pc' := 195) (lv' := [(10, .int z258), (9, .int z256), (8, .int z251), (7, .int z246), (6, .int y6), (5, .int i), (4, .ref 183), (3, .ref 182), (2, .ref 181), (1, .ref 0), (0, .ref 1000000001)]) (st' := [.int z258]) (h' := g) _ hn_285 hk_285_193 rfl ?_
          refine AW.iconstT hk_285_195 (by decide) (fun z270 ez270 => ?_)
          show AR _ _ _ _ _ _ _ 196 [(10, .int z258), (9, .int z256), (8, .int z251), (7, .int z246), (6, .int y6), (5, .int i), (4, .ref 183), (3, .ref 182), (2, .ref 181), (1, .ref 0), (0, .ref 1000000001)] [.int z270, .int z258] g _ _
          refine AW.jne hk_285_196 (tgt := 208) (by decide) (fun q1 => ?_) (fun q2 => ?_)
          · refine AR.s (pc' := 209) (lv' := [(10, .int z258), (9, .int z256), (8, .int z251), (7, .int z246), (6, .int y6), (5, .int i), (4, .ref 183), (3, .ref 182), (2, .ref 181), (1, .ref 0), (0, .ref 1000000001)]) (st' := [.ref 0]) (h' := g) _ hn_285 hk_285_208 rfl ?_
            refine AR.s (pc' := 211) (lv' := [(10, .int z258), (9, .int z256), (8, .int z251), (7, .int z246), (6, .int y6), (5, .int i), (4, .ref 183), (3, .ref 182), (2, .ref 181), (1, .ref 0), (0, .ref 1000000001)]) (st' := [.int z251, .ref 0]) (h' := g) _ hn_285 hk_285_209 rfl ?_
            refine AW.jr (r := 0) (as := [.int z251]) (rest := []) hk_285_211 (by decide) (by decide +kernel) (by decide) c0 rfl rfl (Nat.le_of_ble_eq_true rfl) (AW.W (p_89 hlst I.1 I.2.1 I.2.2.1 (n := 4 + t) (r := 27 + 2 * (4 + t)) i4 (by omega) rfl (p := 27 + 2 * a8) rfl ha8 la8 (fun k hk => by have := C8.2.1 k hk; omega) (by have := C8.1; omega) C8.2.2.1)) (by decide) (Nat.zero_le _) (Nat.zero_le _) ?_ (fun E h' q => by obtain ⟨D, -, -, -, -, -, -, -, ⟨_, e, -⟩, -⟩ := q; cases e)
            rintro w3 g3 q3
            obtain ⟨D, D0, D25, DG, q3⟩ := q3
            obtain ⟨I3, ⟨z5, e5, v5⟩, M3⟩ := I.step (B' := 2 * BB) (by omega) rfl (by omega) (by omega) (fun k hk => by unfold f1s; split <;> omega) (by omega) (fun w hw k hk e => card_ok (fun k hk => (C8.2.1 k hk).1) D0 DG (C8.cv hw hk e)) q3
            cases e5
            have A3 := A.lf M3 (w_stepl (4 + t) rfl (by omega))
            show AR _ _ _ _ _ _ _ 214 [(10, .int z258), (9, .int z256), (8, .int z251), (7, .int z246), (6, .int y6), (5, .int i), (4, .ref 183), (3, .ref 182), (2, .ref 181), (1, .ref 0), (0, .ref 1000000001)] [.int z5] g3 _ _
            refine AR.s (pc' := 216) (lv' := [(11, .int z5), (10, .int z258), (9, .int z256), (8, .int z251), (7, .int z246), (6, .int y6), (5, .int i), (4, .ref 183), (3, .ref 182), (2, .ref 181), (1, .ref 0), (0, .ref 1000000001)]) (st' := []) (h' := g3) _ hn_285 hk_285_214 rfl ?_
            refine AR.s (pc' := 218) (lv' := [(11, .int z5), (10, .int z258), (9, .int z256), (8, .int z251), (7, .int z246), (6, .int y6), (5, .int i), (4, .ref 183), (3, .ref 182), (2, .ref 181), (1, .ref 0), (0, .ref 1000000001)]) (st' := [.int z5]) (h' := g3) _ hn_285 hk_285_216 rfl ?_
            refine AR.s (pc' := 220) (lv' := [(11, .int z5), (10, .int z258), (9, .int z256), (8, .int z251), (7, .int z246), (6, .int y6), (5, .int i), (4, .ref 183), (3, .ref 182), (2, .ref 181), (1, .ref 0), (0, .ref 1000000001)]) (st' := [.int z246, .int z5]) (h' := g3) _ hn_285 hk_285_218 rfl ?_
            refine AW.jeq hk_285_220 (tgt := 225) (by decide) (fun y1 => ?_) (fun y2 => ?_)
            · refine AW.iincT hk_285_225 (x := i) rfl (by rw [hn_285]; decide) (by decide) (by omega) (by omega) (fun z272 ez272 => ?_)
              show AR _ _ _ _ _ _ _ 228 [(5, .int z272), (11, .int z5), (10, .int z258), (9, .int z256), (8, .int z251), (7, .int z246), (6, .int y6), (4, .ref 183), (3, .ref 182), (2, .ref 181), (1, .ref 0), (0, .ref 1000000001)] [] g3 _ _
              refine AW.gotoT hk_285_228 (tgt := 99) (by decide) ?_
              refine AR.lessL (lv' := [(5, .int z272), (4, .ref 183), (3, .ref 182), (2, .ref 181), (1, .ref 0), (0, .ref 1000000001)]) (List.forall_mem_cons.mpr ⟨⟨_, by simp, ax_le_rfl rfl⟩, (List.forall_mem_cons.mpr ⟨⟨_, by simp, ax_le_rfl rfl⟩, (List.forall_mem_cons.mpr ⟨⟨_, by simp, ax_le_rfl rfl⟩, (List.forall_mem_cons.mpr ⟨⟨_, by simp, ax_le_rfl rfl⟩, (List.forall_mem_cons.mpr ⟨⟨_, by simp, ax_le_rfl rfl⟩, (List.forall_mem_cons.mpr ⟨⟨_, by simp, ax_le_rfl rfl⟩, (fun _ h => absurd h List.not_mem_nil)⟩)⟩)⟩)⟩)⟩)⟩) ?_
              exact ih (t + 1) g3 _ (by omega) (by omega) ⟨by rw [b3]; exact I3, fr, fd, fa, A3, V⟩
            · exact absurd (by omega) y2
          · refine AR.s (pc' := 200) (lv' := [(10, .int z258), (9, .int z256), (8, .int z251), (7, .int z246), (6, .int y6), (5, .int i), (4, .ref 183), (3, .ref 182), (2, .ref 181), (1, .ref 0), (0, .ref 1000000001)]) (st' := [.ref 0]) (h' := g) _ hn_285 hk_285_199 rfl ?_
            refine AR.s (pc' := 202) (lv' := [(10, .int z258), (9, .int z256), (8, .int z251), (7, .int z246), (6, .int y6), (5, .int i), (4, .ref 183), (3, .ref 182), (2, .ref 181), (1, .ref 0), (0, .ref 1000000001)]) (st' := [.int z251, .ref 0]) (h' := g) _ hn_285 hk_285_200 rfl ?_
            refine AW.jr (r := 0) (as := [.int z251]) (rest := []) hk_285_202 (by decide) (by decide +kernel) (by decide) c0 rfl rfl (Nat.le_of_ble_eq_true rfl) (AW.W (p_86 hlst I.1 I.2.1 I.2.2.1 (n := 4 + t) (p := 27 + 2 * (4 + t)) i4 (by omega) rfl (q := 27 + 2 * a8) rfl ha8 la8 (fun k hk => by have := C8.2.1 k hk; omega) (by have := C8.1; omega))) (by decide) (Nat.zero_le _) (Nat.zero_le _) ?_ (fun E h' q => by obtain ⟨-, -, -, -, ⟨_, e, -⟩, -⟩ := q; cases e)
            rintro w3 g3 q3
            obtain ⟨I3, ⟨z5, e5, v5⟩, M3⟩ := I.step (B' := 2 * BB) (by omega) rfl (by omega) (by omega) (fun k hk => by have := C8.2.1 k hk; have := C8.1; omega) (by have := C8.1; omega) (fun w hw k hk e => sat_ok (fun k hk => (C8.2.1 k hk).1) C8.1.1 (C8.cv hw hk e)) q3
            cases e5
            have A3 := A.lf M3 (w_stepl (4 + t) rfl (by omega))
            show AR _ _ _ _ _ _ _ 205 [(10, .int z258), (9, .int z256), (8, .int z251), (7, .int z246), (6, .int y6), (5, .int i), (4, .ref 183), (3, .ref 182), (2, .ref 181), (1, .ref 0), (0, .ref 1000000001)] [.int z5] g3 _ _
            refine AW.gotoT hk_285_205 (tgt := 214) (by decide) ?_
            refine AR.s (pc' := 216) (lv' := [(11, .int z5), (10, .int z258), (9, .int z256), (8, .int z251), (7, .int z246), (6, .int y6), (5, .int i), (4, .ref 183), (3, .ref 182), (2, .ref 181), (1, .ref 0), (0, .ref 1000000001)]) (st' := []) (h' := g3) _ hn_285 hk_285_214 rfl ?_
            refine AR.s (pc' := 218) (lv' := [(11, .int z5), (10, .int z258), (9, .int z256), (8, .int z251), (7, .int z246), (6, .int y6), (5, .int i), (4, .ref 183), (3, .ref 182), (2, .ref 181), (1, .ref 0), (0, .ref 1000000001)]) (st' := [.int z5]) (h' := g3) _ hn_285 hk_285_216 rfl ?_
            refine AR.s (pc' := 220) (lv' := [(11, .int z5), (10, .int z258), (9, .int z256), (8, .int z251), (7, .int z246), (6, .int y6), (5, .int i), (4, .ref 183), (3, .ref 182), (2, .ref 181), (1, .ref 0), (0, .ref 1000000001)]) (st' := [.int z246, .int z5]) (h' := g3) _ hn_285 hk_285_218 rfl ?_
            refine AW.jeq hk_285_220 (tgt := 225) (by decide) (fun y1 => ?_) (fun y2 => ?_)
            · refine AW.iincT hk_285_225 (x := i) rfl (by rw [hn_285]; decide) (by decide) (by omega) (by omega) (fun z271 ez271 => ?_)
              show AR _ _ _ _ _ _ _ 228 [(5, .int z271), (11, .int z5), (10, .int z258), (9, .int z256), (8, .int z251), (7, .int z246), (6, .int y6), (4, .ref 183), (3, .ref 182), (2, .ref 181), (1, .ref 0), (0, .ref 1000000001)] [] g3 _ _
              refine AW.gotoT hk_285_228 (tgt := 99) (by decide) ?_
              refine AR.lessL (lv' := [(5, .int z271), (4, .ref 183), (3, .ref 182), (2, .ref 181), (1, .ref 0), (0, .ref 1000000001)]) (List.forall_mem_cons.mpr ⟨⟨_, by simp, ax_le_rfl rfl⟩, (List.forall_mem_cons.mpr ⟨⟨_, by simp, ax_le_rfl rfl⟩, (List.forall_mem_cons.mpr ⟨⟨_, by simp, ax_le_rfl rfl⟩, (List.forall_mem_cons.mpr ⟨⟨_, by simp, ax_le_rfl rfl⟩, (List.forall_mem_cons.mpr ⟨⟨_, by simp, ax_le_rfl rfl⟩, (List.forall_mem_cons.mpr ⟨⟨_, by simp, ax_le_rfl rfl⟩, (fun _ h => absurd h List.not_mem_nil)⟩)⟩)⟩)⟩)⟩)⟩) ?_
              exact ih (t + 1) g3 _ (by omega) (by omega) ⟨by rw [b3]; exact I3, fr, fd, fa, A3, V⟩
            · exact absurd (by omega) y2
        · refine AR.s (pc' := 174) (lv' := [(10, .int z258), (9, .int z256), (8, .int z251), (7, .int z246), (6, .int y6), (5, .int i), (4, .ref 183), (3, .ref 182), (2, .ref 181), (1, .ref 0), (0, .ref 1000000001)]) (st' := [.ref 0]) (h' := g) _ hn_285 hk_285_173 rfl ?_
          refine AR.s (pc' := 176) (lv' := [(10, .int z258), (9, .int z256), (8, .int z251), (7, .int z246), (6, .int y6), (5, .int i), (4, .ref 183), (3, .ref 182), (2, .ref 181), (1, .ref 0), (0, .ref 1000000001)]) (st' := [.int z251, .ref 0]) (h' := g) _ hn_285 hk_285_174 rfl ?_
          refine AW.iconstT hk_285_176 (by decide) (fun z261 ez261 => ?_)
          show AR _ _ _ _ _ _ _ 177 [(10, .int z258), (9, .int z256), (8, .int z251), (7, .int z246), (6, .int y6), (5, .int i), (4, .ref 183), (3, .ref 182), (2, .ref 181), (1, .ref 0), (0, .ref 1000000001)] [.int z261, .int z251, .ref 0] g _ _
          refine AR.s (pc' := 179) (lv' := [(10, .int z258), (9, .int z256), (8, .int z251), (7, .int z246), (6, .int y6), (5, .int i), (4, .ref 183), (3, .ref 182), (2, .ref 181), (1, .ref 0), (0, .ref 1000000001)]) (st' := [.int y6, .int z261, .int z251, .ref 0]) (h' := g) _ hn_285 hk_285_177 rfl ?_
          refine AW.bipushT hk_285_179 (by decide) (fun z262 ez262 => ?_)
          show AR _ _ _ _ _ _ _ 181 [(10, .int z258), (9, .int z256), (8, .int z251), (7, .int z246), (6, .int y6), (5, .int i), (4, .ref 183), (3, .ref 182), (2, .ref 181), (1, .ref 0), (0, .ref 1000000001)] [.int z262, .int y6, .int z261, .int z251, .ref 0] g _ _
          refine AR.ishr (z := .int (y6 >>> (z262 &&& 31))) (ax_look_ok hk_285_181).1 rfl ?_
          generalize gz263 : y6 >>> (z262 &&& 31) = z263
          show AR _ _ _ _ _ _ _ 182 [(10, .int z258), (9, .int z256), (8, .int z251), (7, .int z246), (6, .int y6), (5, .int i), (4, .ref 183), (3, .ref 182), (2, .ref 181), (1, .ref 0), (0, .ref 1000000001)] [.int z263, .int z261, .int z251, .ref 0] g _ _
          refine AW.iconstT hk_285_182 (by decide) (fun z264 ez264 => ?_)
          show AR _ _ _ _ _ _ _ 183 [(10, .int z258), (9, .int z256), (8, .int z251), (7, .int z246), (6, .int y6), (5, .int i), (4, .ref 183), (3, .ref 182), (2, .ref 181), (1, .ref 0), (0, .ref 1000000001)] [.int z264, .int z263, .int z261, .int z251, .ref 0] g _ _
          refine AW.cs (as := [.int z263, .int z264]) (rest := [.int z261, .int z251, .ref 0]) hk_285_183 (by decide +kernel) rfl rfl (Nat.le_of_ble_eq_true rfl) (AW.W (t_130 hlst (n := 4) (by omega) (by decide))) (by decide) (Nat.zero_le _) (Nat.zero_le _) (fun E h' q => by obtain ⟨-, x, e, -⟩ := q; cases e) ?_
          rintro w265 g266 ⟨eg266, z267, e, ez267⟩
          cases e
          obtain rfl := eg266.symm
          show AR _ _ _ _ _ _ _ 186 [(10, .int z258), (9, .int z256), (8, .int z251), (7, .int z246), (6, .int y6), (5, .int i), (4, .ref 183), (3, .ref 182), (2, .ref 181), (1, .ref 0), (0, .ref 1000000001)] [.int z267, .int z261, .int z251, .ref 0] g _ _
          have dq := lbw_bd z263 (n := 4) (by decide)
          show AR _ _ _ _ _ _ _ 186 [(10, .int z258), (9, .int z256), (8, .int z251), (7, .int z246), (6, .int y6), (5, .int i), (4, .ref 183), (3, .ref 182), (2, .ref 181), (1, .ref 0), (0, .ref 1000000001)] [.int z267, .int z261, .int z251, .ref 0] g _ _
          refine AW.addT hk_285_186 (by omega) (by omega) (fun z268 ez268 => ?_)
          show AR _ _ _ _ _ _ _ 187 [(10, .int z258), (9, .int z256), (8, .int z251), (7, .int z246), (6, .int y6), (5, .int i), (4, .ref 183), (3, .ref 182), (2, .ref 181), (1, .ref 0), (0, .ref 1000000001)] [.int z268, .int z251, .ref 0] g _ _
          refine AW.jr (r := 0) (as := [.int z251, .int z268]) (rest := []) hk_285_187 (by decide) (by decide +kernel) (by decide) c0 rfl rfl (Nat.le_of_ble_eq_true rfl) (AW.W (p_85 hlst I.1 I.2.1 I.2.2.1 (n := 4 + t) (p := 27 + 2 * (4 + t)) i4 (by omega) rfl (q := 27 + 2 * a8) rfl ha8 la8 (fun k hk => by have := C8.2.1 k hk; omega) (by have := C8.1; omega) (by omega) (by omega))) (by decide) (Nat.zero_le _) (Nat.zero_le _) ?_ (fun E h' q => by obtain ⟨-, -, -, -, ⟨_, e, -⟩, -⟩ := q; cases e)
          rintro w3 g3 q3
          obtain ⟨I3, ⟨z5, e5, v5⟩, M3⟩ := I.step (B' := 2 * BB) (by omega) rfl (by omega) (by omega) (fun k hk => by have := quo_le (y := z268.toInt) (by omega) (by omega) (C8.2.1 k hk).1 (C8.2.1 k hk).2; omega) (by have := quo_le (y := z268.toInt) (by omega) (by omega) C8.1.1 C8.1.2; omega) (fun w hw k hk e => quo_ok (fun k hk => (C8.2.1 k hk).1) (by omega) C8.1.1 (C8.cv hw hk e)) q3
          cases e5
          have A3 := A.lf M3 (w_stepl (4 + t) rfl (by omega))
          show AR _ _ _ _ _ _ _ 190 [(10, .int z258), (9, .int z256), (8, .int z251), (7, .int z246), (6, .int y6), (5, .int i), (4, .ref 183), (3, .ref 182), (2, .ref 181), (1, .ref 0), (0, .ref 1000000001)] [.int z5] g3 _ _
          refine AW.gotoT hk_285_190 (tgt := 214) (by decide) ?_
          refine AR.s (pc' := 216) (lv' := [(11, .int z5), (10, .int z258), (9, .int z256), (8, .int z251), (7, .int z246), (6, .int y6), (5, .int i), (4, .ref 183), (3, .ref 182), (2, .ref 181), (1, .ref 0), (0, .ref 1000000001)]) (st' := []) (h' := g3) _ hn_285 hk_285_214 rfl ?_
          refine AR.s (pc' := 218) (lv' := [(11, .int z5), (10, .int z258), (9, .int z256), (8, .int z251), (7, .int z246), (6, .int y6), (5, .int i), (4, .ref 183), (3, .ref 182), (2, .ref 181), (1, .ref 0), (0, .ref 1000000001)]) (st' := [.int z5]) (h' := g3) _ hn_285 hk_285_216 rfl ?_
          refine AR.s (pc' := 220) (lv' := [(11, .int z5), (10, .int z258), (9, .int z256), (8, .int z251), (7, .int z246), (6, .int y6), (5, .int i), (4, .ref 183), (3, .ref 182), (2, .ref 181), (1, .ref 0), (0, .ref 1000000001)]) (st' := [.int z246, .int z5]) (h' := g3) _ hn_285 hk_285_218 rfl ?_
          refine AW.jeq hk_285_220 (tgt := 225) (by decide) (fun y1 => ?_) (fun y2 => ?_)
          · refine AW.iincT hk_285_225 (x := i) rfl (by rw [hn_285]; decide) (by decide) (by omega) (by omega) (fun z269 ez269 => ?_)
            show AR _ _ _ _ _ _ _ 228 [(5, .int z269), (11, .int z5), (10, .int z258), (9, .int z256), (8, .int z251), (7, .int z246), (6, .int y6), (4, .ref 183), (3, .ref 182), (2, .ref 181), (1, .ref 0), (0, .ref 1000000001)] [] g3 _ _
            refine AW.gotoT hk_285_228 (tgt := 99) (by decide) ?_
            refine AR.lessL (lv' := [(5, .int z269), (4, .ref 183), (3, .ref 182), (2, .ref 181), (1, .ref 0), (0, .ref 1000000001)]) (List.forall_mem_cons.mpr ⟨⟨_, by simp, ax_le_rfl rfl⟩, (List.forall_mem_cons.mpr ⟨⟨_, by simp, ax_le_rfl rfl⟩, (List.forall_mem_cons.mpr ⟨⟨_, by simp, ax_le_rfl rfl⟩, (List.forall_mem_cons.mpr ⟨⟨_, by simp, ax_le_rfl rfl⟩, (List.forall_mem_cons.mpr ⟨⟨_, by simp, ax_le_rfl rfl⟩, (List.forall_mem_cons.mpr ⟨⟨_, by simp, ax_le_rfl rfl⟩, (fun _ h => absurd h List.not_mem_nil)⟩)⟩)⟩)⟩)⟩)⟩) ?_
            exact ih (t + 1) g3 _ (by omega) (by omega) ⟨by rw [b3]; exact I3, fr, fd, fa, A3, V⟩
          · exact absurd (by omega) y2
      · refine AR.s (pc' := 157) (lv' := [(10, .int z258), (9, .int z256), (8, .int z251), (7, .int z246), (6, .int y6), (5, .int i), (4, .ref 183), (3, .ref 182), (2, .ref 181), (1, .ref 0), (0, .ref 1000000001)]) (st' := [.ref 0]) (h' := g) _ hn_285 hk_285_156 rfl ?_
        refine AR.s (pc' := 159) (lv' := [(10, .int z258), (9, .int z256), (8, .int z251), (7, .int z246), (6, .int y6), (5, .int i), (4, .ref 183), (3, .ref 182), (2, .ref 181), (1, .ref 0), (0, .ref 1000000001)]) (st' := [.int z251, .ref 0]) (h' := g) _ hn_285 hk_285_157 rfl ?_
        refine AR.s (pc' := 161) (lv' := [(10, .int z258), (9, .int z256), (8, .int z251), (7, .int z246), (6, .int y6), (5, .int i), (4, .ref 183), (3, .ref 182), (2, .ref 181), (1, .ref 0), (0, .ref 1000000001)]) (st' := [.int z256, .int z251, .ref 0]) (h' := g) _ hn_285 hk_285_159 rfl ?_
        refine AW.jr (r := 0) (as := [.int z251, .int z256]) (rest := []) hk_285_161 (by decide) (by decide +kernel) (by decide) c0 rfl rfl (Nat.le_of_ble_eq_true rfl) (AW.W (p_83 hlst I.1 I.2.1 I.2.2.1 (n := 4 + t) (p := 27 + 2 * (4 + t)) i4 (by omega) rfl (q := 27 + 2 * a8) rfl ha8 la8 (fun k hk => by have := C8.2.1 k hk; omega) (by have := C8.1; omega) (r := 27 + 2 * a9) rfl ha9 la9 (fun k hk => by have := C9.2.1 k hk; omega) (by have := C9.1; omega))) (by decide) (Nat.zero_le _) (Nat.zero_le _) ?_ (fun E h' q => by obtain ⟨-, -, -, -, ⟨_, e, -⟩, -⟩ := q; cases e)
        rintro w3 g3 q3
        obtain ⟨I3, ⟨z5, e5, v5⟩, M3⟩ := I.step (B' := 2 * BB) (by omega) rfl (by omega) (by omega) (fun k hk => by have := C8.2.1 k hk; have := C9.2.1 k hk; omega) (by have := C8.1; have := C9.1; omega) (fun w hw k hk e => sum_ok (C8.cv hw hk e) (C9.cv hw hk e)) q3
        cases e5
        have A3 := A.lf M3 (w_stepl (4 + t) rfl (by omega))
        show AR _ _ _ _ _ _ _ 164 [(10, .int z258), (9, .int z256), (8, .int z251), (7, .int z246), (6, .int y6), (5, .int i), (4, .ref 183), (3, .ref 182), (2, .ref 181), (1, .ref 0), (0, .ref 1000000001)] [.int z5] g3 _ _
        refine AW.gotoT hk_285_164 (tgt := 214) (by decide) ?_
        refine AR.s (pc' := 216) (lv' := [(11, .int z5), (10, .int z258), (9, .int z256), (8, .int z251), (7, .int z246), (6, .int y6), (5, .int i), (4, .ref 183), (3, .ref 182), (2, .ref 181), (1, .ref 0), (0, .ref 1000000001)]) (st' := []) (h' := g3) _ hn_285 hk_285_214 rfl ?_
        refine AR.s (pc' := 218) (lv' := [(11, .int z5), (10, .int z258), (9, .int z256), (8, .int z251), (7, .int z246), (6, .int y6), (5, .int i), (4, .ref 183), (3, .ref 182), (2, .ref 181), (1, .ref 0), (0, .ref 1000000001)]) (st' := [.int z5]) (h' := g3) _ hn_285 hk_285_216 rfl ?_
        refine AR.s (pc' := 220) (lv' := [(11, .int z5), (10, .int z258), (9, .int z256), (8, .int z251), (7, .int z246), (6, .int y6), (5, .int i), (4, .ref 183), (3, .ref 182), (2, .ref 181), (1, .ref 0), (0, .ref 1000000001)]) (st' := [.int z246, .int z5]) (h' := g3) _ hn_285 hk_285_218 rfl ?_
        refine AW.jeq hk_285_220 (tgt := 225) (by decide) (fun y1 => ?_) (fun y2 => ?_)
        · refine AW.iincT hk_285_225 (x := i) rfl (by rw [hn_285]; decide) (by decide) (by omega) (by omega) (fun z259 ez259 => ?_)
          show AR _ _ _ _ _ _ _ 228 [(5, .int z259), (11, .int z5), (10, .int z258), (9, .int z256), (8, .int z251), (7, .int z246), (6, .int y6), (4, .ref 183), (3, .ref 182), (2, .ref 181), (1, .ref 0), (0, .ref 1000000001)] [] g3 _ _
          refine AW.gotoT hk_285_228 (tgt := 99) (by decide) ?_
          refine AR.lessL (lv' := [(5, .int z259), (4, .ref 183), (3, .ref 182), (2, .ref 181), (1, .ref 0), (0, .ref 1000000001)]) (List.forall_mem_cons.mpr ⟨⟨_, by simp, ax_le_rfl rfl⟩, (List.forall_mem_cons.mpr ⟨⟨_, by simp, ax_le_rfl rfl⟩, (List.forall_mem_cons.mpr ⟨⟨_, by simp, ax_le_rfl rfl⟩, (List.forall_mem_cons.mpr ⟨⟨_, by simp, ax_le_rfl rfl⟩, (List.forall_mem_cons.mpr ⟨⟨_, by simp, ax_le_rfl rfl⟩, (List.forall_mem_cons.mpr ⟨⟨_, by simp, ax_le_rfl rfl⟩, (fun _ h => absurd h List.not_mem_nil)⟩)⟩)⟩)⟩)⟩)⟩) ?_
          exact ih (t + 1) g3 _ (by omega) (by omega) ⟨by rw [b3]; exact I3, fr, fd, fa, A3, V⟩
        · exact absurd (by omega) y2
end LWF
