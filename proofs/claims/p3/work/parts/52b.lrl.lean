/-! THE LAW, 2: rules -/
section LWP
variable {ns : ax_NS} {l : Launch} {k : ax_M} {d : Nat} {r : ax_H} {P : ax_P} {X : ax_PX} {pc : Nat} {lv : List (Nat × Value)} {st : List Value} {h : ax_H} {bc bs : Nat}
theorem AR.pop2 {x : Value} (hd : decode k.2.1 pc = .ok (.pop2, 1)) (hc : x.category = 2) (K : AR ns l k d r P X (pc + 1) lv st h bc bs) : AR ns l k d r P X pc lv (x :: st) h bc bs := by
  intro D b o TC TS p e R s m args below meth c Z hX hP hXX lvc ls stc H locs cells slots hG
  have hx := hX.1
  have hb := hX.2.1
  obtain ⟨g1, g2, g3, g4, g5, g6, g7⟩ := hG
  obtain ⟨v1, t1, rfl, hv1, hs1⟩ := g3
  exact lv_pop2_2 hx hb hd ((ax_v_cat hv1).trans hc) (K D b o TC TS p e R s m args below meth c Z hX hP hXX _ _ _ _ _ _ _ ⟨g1, g2, hs1, g4, g5, g6, g7⟩)
end LWP
section LW
variable {l : Launch} {xs : Nat → Int32} {L d pc ix : Nat} {P : ax_P} {X : ax_PX} {lv : List (Nat × Value)} {st as rest : List Value} {h h' : ax_H} {bc bs bc' bs' : Nat} {v : Value} {ws : List Nat} {w : Nat × Nat × Nat} {i : Int32}
/-- what holds between two operations -/
def lw_J (h : ax_H) : Prop := hy_z h 1 1 = hy_z h 181 7
def lw_I (h : ax_H) : Prop := hy_H 0 h ∧ hy_I h ∧ lw_J h
theorem lw_keep {W : Nat} (F : ty_F W h h') (b : W.testBit 19 = false ∧ W.testBit 70 = false) (I : lw_J h) : lw_J h' := by
  unfold lw_J at I ⊢
  rw [hy_zF F 1 (q := 1) (by decide) (by decide +kernel) (by rw [show ty_ky 1 1 = 19 from by decide +kernel]; exact b.1), hy_zF F 7 (q := 181) (by decide) (by decide +kernel) (by rw [show ty_ky 181 7 = 70 from by decide +kernel]; exact b.2)]
  exact I
theorem lw_I.F {W : Nat} (I : lw_I h) (F : ty_F W h h') (hH : hy_H 0 h') (hi : hy_I h') (b : W.testBit 19 = false ∧ W.testBit 70 = false) : lw_I h' := ⟨hH, hi, lw_keep F b I.2.2⟩
def lw_kd (kd : Nat) (x : Value) : Prop := (kd = 0 → ∃ z : Int32, x = .int z) ∧ (kd = 1 → ∃ z : Int64, x = .long z)
def lw_ek (kd : Nat) (e : ty_E) : Bool := match e.1 with
  | .inl (some t) => Nat.beq t.1 kd && ty_ole [] e.2
  | _ => false
theorem lw_hs {a b : Nat} (hm : ax_has a = true ∧ ax_st a = true) (hst : st = as.reverse ++ rest) (hb : as.length = b) (hcat : (rest.map fun v => v.category).sum ≤ 8) : ax_arg (ax_r L xs) (.invokestatic ix) a b 0 st h = some (as, rest) := by
  have e : as.reverse.length = b := by rw [List.length_reverse]; exact hb
  subst hst
  have d1 : (as.reverse ++ rest).drop b = rest := List.drop_left' e
  have d2 : ((as.reverse ++ rest).take b).reverse = as := by rw [List.take_left' e, List.reverse_reverse]
  have hc : ax_has a = true ∧ ax_st a = true ∧ b ≤ (as.reverse ++ rest).length ∧ (rest.map fun v => v.category).sum ≤ 8 := ⟨hm.1, hm.2, by rw [List.length_append]; omega, hcat⟩
  simp only [ax_arg, d1, d2]
  rw [if_pos hc]
theorem lw_hv {a b r t : Nat} {vs : List Value} (ht : t < 11) (hm : ax_has a = true ∧ ax_st a = false ∧ (ax_mm a).2.2.2.2 = []) (hr : r < 1000000000) (hg : h[r]? = some (t, vs)) (hst : st = as.reverse ++ .ref r :: rest) (hb : as.length = b) (hcat : (rest.map fun v => v.category).sum ≤ 8) : ax_arg (ax_r L xs) (.invokevirtual ix) a b t st h = some (.ref r :: as, rest) := by
  obtain ⟨d1, d2, d3⟩ := hy_drop (rest := rest) (.ref r) hb
  subst hst
  have hc : ax_has a = true ∧ ax_st a = false ∧ (ax_mm a).2.2.2.2 = [] ∧ b ≤ (as.reverse ++ .ref r :: rest).length ∧ (rest.map fun v => v.category).sum ≤ 8 ∧ True := ⟨hm.1, hm.2.1, hm.2.2, d3, hcat, trivial⟩
  have hg2 : ax_get (ax_r L xs) h r = some (t, vs) := by rw [ax_get_lt hr]; exact hg
  simp only [ax_arg, d1, hg2, d2]
  rw [if_pos hc]
/-- a call by contract -/
theorem lw_call {ct : ty_Ct} {ins : Instr} {b c kd : Nat} (hl : ax_look 285 pc = some (ins, (ct.1, b, c), v, ws)) (hg : ax_arg (ax_r L xs) ins ct.1 b c st h = some (as, rest)) (M : ty_M hy_I l ct) (hov : ct.2.2.2.2.2.2.1 = []) (hr : ty_rs ty_z 0 h ct.2.2.2.2.2.1 as) (I : lw_I h) (hW : ct.2.2.1.testBit 19 = false ∧ ct.2.2.1.testBit 70 = false) (hdy : ct.2.1 + 1 ≤ d) (hmc : bc' + ct.2.2.2.1 ≤ bc) (hms : bs' + ct.2.2.2.2.1 ≤ bs) (he : ct.2.2.2.2.2.2.2.all (lw_ek kd) = true)
    (k : ∀ x h', lw_kd kd x → lw_I h' → AR ax_ns l (ax_mm 285) d (ax_r L xs) P X (pc + 3) lv (x :: rest) h' bc' bs') : AR ax_ns l (ax_mm 285) d (ax_r L xs) P X pc lv st h bc bs := by
  refine AR.call hl hg (AM.weak (fun s b o H q => ty_R_O q) (M 0 h as hr (by rw [hov]; exact I.1) I.2.1)) hdy (by omega) (by omega) (fun x h' q => ?_) (fun E h' q => ?_)
  · obtain ⟨F, hi, e, hm, rr, hH⟩ := q
    have h1 := List.all_eq_true.mp he e hm
    obtain ⟨e1, e2⟩ := e
    match e1, x, h1, rr with
    | .inl (some t), some y, h1, rr =>
      obtain ⟨kk, n, f, a, z⟩ := t
      obtain ⟨h1, h3⟩ := Bool.and_eq_true_iff.mp h1
      have hH0 : hy_H 0 h' := hH.weak h3
      have h2 : kk = kd := Nat.eq_of_beq_eq_true h1
      subst h2
      refine AR.lt (bc' := bc') (bs' := bs') (by omega) (by omega) (k y h' ⟨fun e => ?_, fun e => ?_⟩ (I.F F hH0 hi hW))
      · subst e
        obtain ⟨z, rfl, -⟩ := rr
        exact ⟨z, rfl⟩
      · subst e
        obtain ⟨z, rfl, -⟩ := rr
        exact ⟨z, rfl⟩
    | .inl (some t), none, _, rr => exact rr.elim
  · obtain ⟨F, hi, e, hm, rr, hH⟩ := q
    have h1 := List.all_eq_true.mp he e hm
    obtain ⟨e1, e2⟩ := e
    match e1, h1, rr with
    | .inl (some t), _, rr => exact rr.elim
theorem lw_s {ct : ty_Ct} {b kd : Nat} (hl : ax_look 285 pc = some (.invokestatic ix, (ct.1, b, 0), v, ws)) (hm : ax_has ct.1 = true ∧ ax_st ct.1 = true) (hst : st = as.reverse ++ []) (hb : as.length = b) (M : ty_M hy_I l ct) (hov : ct.2.2.2.2.2.2.1 = []) (hr : ty_rs ty_z 0 h ct.2.2.2.2.2.1 as) (I : lw_I h) (hW : ct.2.2.1.testBit 19 = false ∧ ct.2.2.1.testBit 70 = false) (hdy : ct.2.1 + 1 ≤ d) (hmc : bc' + ct.2.2.2.1 ≤ bc) (hms : bs' + ct.2.2.2.2.1 ≤ bs) (he : ct.2.2.2.2.2.2.2.all (lw_ek kd) = true)
    (k : ∀ x h', lw_kd kd x → lw_I h' → AR ax_ns l (ax_mm 285) d (ax_r L xs) P X (pc + 3) lv [x] h' bc' bs') : AR ax_ns l (ax_mm 285) d (ax_r L xs) P X pc lv st h bc bs :=
  lw_call hl (lw_hs hm hst hb (by decide)) M hov hr I hW hdy hmc hms he k
theorem lw_v {ct : ty_Ct} {b kd r t : Nat} (hl : ax_look 285 pc = some (.invokevirtual ix, (ct.1, b, t), v, ws)) (ht : t < 11) (hm : ax_has ct.1 = true ∧ ax_st ct.1 = false ∧ (ax_mm ct.1).2.2.2.2 = []) (hr0 : r < 198) (htg : (ty_tab r).1 = t) (hst : st = as.reverse ++ .ref r :: []) (hb : as.length = b) (M : ty_M hy_I l ct) (hov : ct.2.2.2.2.2.2.1 = []) (hr : ty_rs ty_z 0 h ct.2.2.2.2.2.1 (.ref r :: as)) (I : lw_I h) (hW : ct.2.2.1.testBit 19 = false ∧ ct.2.2.1.testBit 70 = false) (hdy : ct.2.1 + 1 ≤ d) (hmc : bc' + ct.2.2.2.1 ≤ bc) (hms : bs' + ct.2.2.2.2.1 ≤ bs) (he : ct.2.2.2.2.2.2.2.all (lw_ek kd) = true)
    (k : ∀ x h', lw_kd kd x → lw_I h' → AR ax_ns l (ax_mm 285) d (ax_r L xs) P X (pc + 3) lv [x] h' bc' bs') : AR ax_ns l (ax_mm 285) d (ax_r L xs) P X pc lv st h bc bs := by
  obtain ⟨vs, e1, -⟩ := hy_cell I.1 hr0
  rw [htg] at e1
  exact lw_call hl (lw_hv ht hm (by omega) e1 hst hb (by decide)) M hov hr I hW hdy hmc hms he k
theorem lw_ai (z : Int32) : ty_r ty_z 0 h (0, 0, 0, -2147483648, 2147483647) (.int z) := ⟨z, rfl, Int32.le_toInt z, by have := Int32.toInt_lt z; omega, Or.inl rfl⟩
/-- an int of the script -/
theorem lw_sc {n : Int} {w0 w1 w2 w3 w4 : Nat × Nat × Nat} {v0 v1 v2 v3 v4 : Value} {s0 s1 s2 s3 s4 : List Nat} (h0 : ax_look 285 pc = some (.aload_n 0, w0, v0, s0)) (h1 : ax_look 285 (pc + 1) = some (.iload 4, w1, v1, s1)) (h2 : ax_look 285 (pc + 3) = some (.iconst n, w2, v2, s2)) (h3 : ax_look 285 (pc + 4) = some (.iadd, w3, v3, s3)) (h4 : ax_look 285 (pc + 5) = some (.iaload, w4, v4, s4)) (e0 : ax_at lv 0 = some (.ref 1000000001)) (e4 : ax_at lv 4 = some (.int i)) (hn : (Int32.ofInt n).toInt = n) (n0 : 0 ≤ n) (n5 : n ≤ 5) (i0 : 0 ≤ i.toInt) (i1 : i.toInt + 6 ≤ L) (hL : L ≤ 3072) (k : ∀ y : Int32, AR ax_ns l (ax_mm 285) d (ax_r L xs) P X (pc + 6) lv (.int y :: st) h bc bs) : AR ax_ns l (ax_mm 285) d (ax_r L xs) P X pc lv st h bc bs := by
  refine AR.aload_n (ax_look_ok h0).1 e0 rfl ?_
  refine AR.iload (ax_look_ok h1).1 e4 rfl ?_
  refine AR.iconst (ax_look_ok h2).1 ?_
  refine AR.iadd (z := .int (i + Int32.ofInt n)) (ax_look_ok h3).1 rfl ?_
  have e : (i + Int32.ofInt n).toInt = i.toInt + n := by rw [Int32.toInt_add, hn]; exact hy_bm (by omega) (by omega)
  have hq := hj_nn (j := i + Int32.ofInt n) (by omega)
  have hlt : (i + Int32.ofInt n).toNatClampNeg < L := by omega
  refine AR.iaload (vs := (List.range L).map (fun j => .int (xs j))) (x := .int (xs (i + Int32.ofInt n).toNatClampNeg)) (ax_look_ok h4).1 rfl hq.1 ?_ (k _)
  rw [List.getElem?_map, List.getElem?_range hlt]
  rfl
/-- the same, which int -/
theorem lw_scx {n : Int} {y : Int32} {w0 w1 w2 w3 w4 : Nat × Nat × Nat} {v0 v1 v2 v3 v4 : Value} {s0 s1 s2 s3 s4 : List Nat} (h0 : ax_look 285 pc = some (.aload_n 0, w0, v0, s0)) (h1 : ax_look 285 (pc + 1) = some (.iload 4, w1, v1, s1)) (h2 : ax_look 285 (pc + 3) = some (.iconst n, w2, v2, s2)) (h3 : ax_look 285 (pc + 4) = some (.iadd, w3, v3, s3)) (h4 : ax_look 285 (pc + 5) = some (.iaload, w4, v4, s4)) (e0 : ax_at lv 0 = some (.ref 1000000001)) (e4 : ax_at lv 4 = some (.int i)) (hn : (Int32.ofInt n).toInt = n) (n0 : 0 ≤ n) (n5 : n ≤ 5) (i0 : 0 ≤ i.toInt) (i1 : i.toInt + 6 ≤ L) (hL : L ≤ 3072) (hy : y = xs (i + Int32.ofInt n).toNatClampNeg) (k : AR ax_ns l (ax_mm 285) d (ax_r L xs) P X (pc + 6) lv (.int y :: st) h bc bs) : AR ax_ns l (ax_mm 285) d (ax_r L xs) P X pc lv st h bc bs := by
  refine AR.aload_n (ax_look_ok h0).1 e0 rfl ?_
  refine AR.iload (ax_look_ok h1).1 e4 rfl ?_
  refine AR.iconst (ax_look_ok h2).1 ?_
  refine AR.iadd (z := .int (i + Int32.ofInt n)) (ax_look_ok h3).1 rfl ?_
  have e : (i + Int32.ofInt n).toInt = i.toInt + n := by rw [Int32.toInt_add, hn]; exact hy_bm (by omega) (by omega)
  have hq := hj_nn (j := i + Int32.ofInt n) (by omega)
  have hlt : (i + Int32.ofInt n).toNatClampNeg < L := by omega
  refine AR.iaload (vs := (List.range L).map (fun j => .int (xs j))) (x := .int (xs (i + Int32.ofInt n).toNatClampNeg)) (ax_look_ok h4).1 rfl hq.1 ?_ (by rw [← hy]; exact k)
  rw [List.getElem?_map, List.getElem?_range hlt]
  rfl
theorem lw_callA {a b c dy mc ms : Nat} {ins : Instr} {Q : ax_Q} (hl : ax_look 285 pc = some (ins, (a, b, c), v, ws)) (hg : ax_arg (ax_r L xs) ins a b c st h = some (as, rest)) (M : AM ax_ns l (ax_mm a) dy ty_R mc ms as h Q) (hdy : dy + 1 ≤ d) (hmc : bc' + mc ≤ bc) (hms : bs' + ms ≤ bs) (hno : ∀ E h', ¬ Q (.inr E) h')
    (k : ∀ x h', Q (.inl x) h' → AR ax_ns l (ax_mm 285) d (ax_r L xs) P X (pc + 3) lv (x.toList ++ rest) h' bc' bs') : AR ax_ns l (ax_mm 285) d (ax_r L xs) P X pc lv st h bc bs :=
  AR.call hl hg (AM.weak (fun s b o H q => ty_R_O q) M) hdy (by omega) (by omega) (fun x h' q => AR.lt (by omega) (by omega) (k x h' q)) (fun E h' q => absurd q (hno E h'))
end LW
