/-! BY HAND, 9: StringBuilder -/
/-- the builder: its bytes at k, n of them in use -/
def hb (k : Nat) (bs : List Value) (ml : Value) (n : Int32) (h : ax_H) : Prop := h[5]? = some (10, [.ref k, .int 0, ml, .int n]) ∧ h[k]? = some (103, bs) ∧ k ≠ 5 ∧ k < 1000000000 ∧ (∀ x ∈ bs, hj_by x)
/-- nothing else changes; byte arrays keep their length -/
def hb_fr (h h' : ax_H) : Prop := h.length ≤ h'.length ∧ ∀ p, p ≠ 5 → ∀ c, h[p]? = some c → (c.1 ≠ 103 → h'[p]? = some c) ∧ (c.1 = 103 → ∃ c', h'[p]? = some c' ∧ c'.1 = 103 ∧ c'.2.length = c.2.length)
theorem hb_fr.refl (h : ax_H) : hb_fr h h := ⟨Nat.le_refl _, fun _ _ c e => ⟨fun _ => e, fun e2 => ⟨c, e, e2, rfl⟩⟩⟩
theorem hb_fr.trans {a b c : ax_H} (x : hb_fr a b) (y : hb_fr b c) : hb_fr a c := by
  refine ⟨Nat.le_trans x.1 y.1, fun p hp q e => ⟨fun e1 => (y.2 p hp q ((x.2 p hp q e).1 e1)).1 e1, fun e1 => ?_⟩⟩
  obtain ⟨q', a1, a2, a3⟩ := (x.2 p hp q e).2 e1
  obtain ⟨q2, b1, b2, b3⟩ := (y.2 p hp q' a1).2 a2
  exact ⟨q2, b1, b2, by omega⟩
theorem hb_fr.s5 (h : ax_H) (c : Nat × List Value) : hb_fr h (h.set 5 c) := ⟨by rw [List.length_set]; exact Nat.le_refl _, fun p hp q e => by
  rw [List.getElem?_set_ne (Ne.symm hp)]
  exact ⟨fun _ => e, fun e2 => ⟨q, e, e2, rfl⟩⟩⟩
theorem hb_fr.sk {h : ax_H} {k : Nat} {bs bs' : List Value} (hk : h[k]? = some (103, bs)) (hl : bs'.length = bs.length) : hb_fr h (h.set k (103, bs')) := ⟨by rw [List.length_set]; exact Nat.le_refl _, fun p hp q e => by
  by_cases e1 : p = k
  · subst e1
    rw [hk] at e
    cases e
    refine ⟨fun e2 => absurd rfl e2, fun _ => ⟨(103, bs'), List.getElem?_set_self (List.getElem?_eq_some_iff.mp hk).1, rfl, hl⟩⟩
  · rw [List.getElem?_set_ne (Ne.symm e1)]
    exact ⟨fun _ => e, fun e2 => ⟨q, e, e2, rfl⟩⟩⟩
theorem hb_fr.pu (h gs : ax_H) : hb_fr h (h ++ gs) := ⟨by rw [List.length_append]; omega, fun p _ q e => by
  rw [List.getElem?_append_left (List.getElem?_eq_some_iff.mp e).1]
  exact ⟨fun _ => e, fun e2 => ⟨q, e, e2, rfl⟩⟩⟩
abbrev hy_c10 : ax_Cl := (RJ4, TJ4, 4, tyJ4)
def hb_L (L : Nat) (q : Int) : Nat := if q ≤ L then L else 2 * L + 2
def hb_c (L : Nat) (q : Int) : Nat := if q ≤ L then 0 else 1
def hb_m (L : Nat) (q : Int) : Nat := if q ≤ L then 0 else 2 * L + 2
/-- the builder with q letters -/
def hb_q (h : ax_H) (L : Nat) (q : Int) (h' : ax_H) : Prop := hb_fr h h' ∧ ∃ k bs ml, ∃ n : Int32, hb k bs ml n h' ∧ bs.length = hb_L L q ∧ n.toInt = q
section HJ1
variable {l : Launch} {d i pc : Nat} {P : ax_P} {X : ax_PX} {lv : List (Nat × Value)} {st : List Value} {h h0 : ax_H} {bc bs' : Nat} {v : Value} {ws : List Nat} {w : Nat × Nat × Nat}
theorem hb_shr (x : Int32) : x >>> ((0 : Int32) &&& 31) = x := by
  have : (0 : Int32) &&& 31 = 0 := rfl
  rw [this]
  exact Int32.shiftRight_zero
theorem hb_shl (x : Int32) : x <<< ((0 : Int32) &&& 31) = x := by
  have : (0 : Int32) &&& 31 = 0 := rfl
  rw [this]
  exact Int32.shiftLeft_zero
theorem AR.shrT {x : Int32} (hl : ax_look i pc = some (.ishr, w, v, ws)) (k : AR ax_ns l (ax_mm i) d ty_R P X (pc + 1) lv (.int x :: st) h bc bs') : AR ax_ns l (ax_mm i) d ty_R P X pc lv (.int 0 :: .int x :: st) h bc bs' := by
  refine AR.s (pc' := pc + 1) (lv' := lv) (st' := .int (x >>> ((0 : Int32) &&& 31)) :: st) (h' := h) _ rfl hl rfl ?_
  rw [hb_shr]
  exact k
theorem AR.shlT {x : Int32} (hl : ax_look i pc = some (.ishl, w, v, ws)) (k : AR ax_ns l (ax_mm i) d ty_R P X (pc + 1) lv (.int x :: st) h bc bs') : AR ax_ns l (ax_mm i) d ty_R P X pc lv (.int 0 :: .int x :: st) h bc bs' := by
  refine AR.s (pc' := pc + 1) (lv' := lv) (st' := .int (x <<< ((0 : Int32) &&& 31)) :: st) (h' := h) _ rfl hl rfl ?_
  rw [hb_shl]
  exact k
theorem AR.alx {q t : Nat} {vs : List Value} (hl : ax_look i pc = some (.arraylength, w, v, ws)) (hq : q < 1000000000) (hg : h[q]? = some (103, vs)) (hn : vs.length < 2147483648) (k : ∀ z : Int32, z.toInt = vs.length → AR ax_ns l (ax_mm i) d ty_R P X (pc + 1) lv (.int z :: st) h bc bs') : AR ax_ns l (ax_mm i) d ty_R P X pc lv (.ref q :: st) h bc bs' := by
  refine AR.s (pc' := pc + 1) (lv' := lv) (st' := .int vs.length.toInt32 :: st) (h' := h) _ rfl hl ?_ (k _ ?_)
  · simp only [ax_one, ax_get_lt hq, hg]
    rfl
  · show (Int32.ofNat vs.length).toInt = _
    exact Int32.toInt_ofNat_of_lt (by omega)
theorem AR.negT {x : Int32} (hl : ax_look i pc = some (.ineg, w, v, ws)) (hx : -2147483648 < x.toInt) (k : ∀ z : Int32, z.toInt = -x.toInt → AR ax_ns l (ax_mm i) d ty_R P X (pc + 1) lv (.int z :: st) h bc bs') : AR ax_ns l (ax_mm i) d ty_R P X pc lv (.int x :: st) h bc bs' := by
  have h2 := Int32.toInt_lt x
  refine AR.s (pc' := pc + 1) (lv' := lv) (st' := .int (-x) :: st) (h' := h) _ rfl hl rfl (k _ ?_)
  rw [Int32.toInt_neg]
  exact hy_bm (by omega) (by omega)
theorem AR.sipushT {n : Int} (hl : ax_look i pc = some (.sipush n, w, v, ws)) (hn : (Int16.ofInt n).toInt32.toInt = n) (k : ∀ z : Int32, z.toInt = n → AR ax_ns l (ax_mm i) d ty_R P X (pc + 3) lv (.int z :: st) h bc bs') : AR ax_ns l (ax_mm i) d ty_R P X pc lv st h bc bs' := AR.s _ rfl hl rfl (k _ hn)
theorem AR.mulA {x y : Int32} (hl : ax_look i pc = some (.imul, w, v, ws)) (k : ∀ z : Int32, (-2147483648 ≤ x.toInt * y.toInt → x.toInt * y.toInt ≤ 2147483647 → z.toInt = x.toInt * y.toInt) → AR ax_ns l (ax_mm i) d ty_R P X (pc + 1) lv (.int z :: st) h bc bs') : AR ax_ns l (ax_mm i) d ty_R P X pc lv (.int y :: .int x :: st) h bc bs' :=
  AR.s _ rfl hl rfl (k (x * y) (fun a b => by rw [Int32.toInt_mul]; exact hy_bm a b))
theorem AR.i2bT {x : Int32} (hl : ax_look i pc = some (.i2b, w, v, ws)) (k : ∀ z : Int32, hj_by (.int z) → AR ax_ns l (ax_mm i) d ty_R P X (pc + 1) lv (.int z :: st) h bc bs') : AR ax_ns l (ax_mm i) d ty_R P X pc lv (.int x :: st) h bc bs' := by
  refine AR.s (pc' := pc + 1) (lv' := lv) (st' := .int x.toInt8.toInt32 :: st) (h' := h) _ rfl hl rfl (k _ ⟨_, rfl, ?_⟩)
  rw [Int8.toInt_toInt32]
  have a := Int8.le_toInt x.toInt8
  have b := Int8.toInt_lt x.toInt8
  omega
theorem AR.div100 {x y : Int32} (hl : ax_look i pc = some (.idiv, w, v, ws)) (hy : y.toInt = 100) (k : ∀ z : Int32, z.toInt = x.toInt.tdiv 100 → AR ax_ns l (ax_mm i) d ty_R P X (pc + 1) lv (.int z :: st) h bc bs') : AR ax_ns l (ax_mm i) d ty_R P X pc lv (.int y :: .int x :: st) h bc bs' := by
  have h0 : ¬ y = 0 := fun e => by
    rw [e] at hy
    exact absurd hy (by decide)
  refine AR.s (pc' := pc + 1) (lv' := lv) (st' := .int (x / y) :: st) (h' := h) _ rfl hl (by simp only [ax_one, ax_d2, if_neg h0, ax_b2]; rfl) (k (x / y) ?_)
  have h1 : (x / y).toInt = x.toInt.tdiv y.toInt := Int32.toInt_div_of_ne_right _ _ (fun e => by
    rw [e] at hy
    exact absurd hy (by decide))
  rw [h1, hy]
/-- a store of a byte -/
theorem AR.bsT {q : Nat} {j z : Int32} {vs : List Value} (hl : ax_look i pc = some (.bastore, w, v, ws)) (hq : q < 1000000000) (hg : h[q]? = some (103, vs)) (h0 : 0 ≤ j.toInt) (h1 : j.toInt < vs.length) (hz : hj_by (.int z)) (k : AR ax_ns l (ax_mm i) d ty_R P X (pc + 1) lv st (h.set q (103, vs.set j.toInt.toNat (.int z))) bc bs') : AR ax_ns l (ax_mm i) d ty_R P X pc lv (.int z :: .int j :: .ref q :: st) h bc bs' :=
  AR.bastore (ax_look_ok hl).1 hq hg (hj_nn h0).1 (by show j.toInt.toNat < _; omega) (hj_fit hz) k
variable {a b ix dy mc ms : Nat} {Q : ax_Q} {as rest : List Value} {c5 : List Value}
theorem hb_get {q : Nat} {c : Nat × List Value} (hq : q < 1000000000) (hg : h[q]? = some c) : ax_get ty_R h q = some c := by rw [ax_get_lt hq]; exact hg
/-- a call on the builder: by the class, private, or of the class above -/
theorem AR.jv (hl : ax_look i pc = some (.invokevirtual ix, w, v, ws)) (hs : ax_site (ax_mm i) (ax_mm a) ix b) (hh : ax_has a = true) (hi : ax_st a = false) (hnil : (ax_mm a).2.2.2.2 = []) (hse : Cond.selects RJ4 (ax_mm a).1 (ax_mm a).1 ∈ ax_tb) (h5 : h[5]? = some (10, c5)) (hst : st = as.reverse ++ .ref 5 :: rest) (hb : as.length = b) (hcat : (rest.map fun v => v.category).sum ≤ 8) (hM : AM ax_ns l (ax_mm a) dy ty_R mc ms (.ref 5 :: as) h Q) (hdy : dy + 1 ≤ d) (hmc : mc ≤ bc) (hms : ms ≤ bs') (hno : ∀ E h', ¬ Q (.inr E) h')
    (k : ∀ x h', Q (.inl x) h' → AR ax_ns l (ax_mm i) d ty_R P X (pc + 3) lv (x.toList ++ rest) h' (bc - mc) (bs' - ms)) : AR ax_ns l (ax_mm i) d ty_R P X pc lv st h bc bs' :=
  AR.invokevirtual (q := hy_c10) hnil (ax_look_ok hl).1 hs ((ax_mst hh).2 hi) hse (show ax_cls[10]? = some hy_c10 from rfl) (hb_get (by decide) h5) hst hb hM hdy hmc hms hcat k (fun E h' q => absurd q (hno E h'))
theorem hb_in : Cond.instantiable RJ4 4 ∈ ax_tb := ax_wk_mem (ix := 1090) (by decide +kernel)
theorem AR.ju (hl : ax_look i pc = some (.invokespecial ix, (a, b, 3), v, ws)) (hh : ax_has a = true) (hi : ax_st a = false) (hnil : (ax_mm a).2.2.2.2 = []) (h5 : h[5]? = some (10, c5)) (hst : st = as.reverse ++ .ref 5 :: rest) (hb : as.length = b) (hcat : (rest.map fun v => v.category).sum ≤ 8) (hM : AM ax_ns l (ax_mm a) dy ty_R mc ms (.ref 5 :: as) h Q) (hdy : dy + 1 ≤ d) (hmc : mc ≤ bc) (hms : ms ≤ bs') (hno : ∀ E h', ¬ Q (.inr E) h')
    (k : ∀ x h', Q (.inl x) h' → AR ax_ns l (ax_mm i) d ty_R P X (pc + 3) lv (x.toList ++ rest) h' (bc - mc) (bs' - ms)) : AR ax_ns l (ax_mm i) d ty_R P X pc lv st h bc bs' := by
  obtain ⟨d1, d2, d3⟩ := hy_drop (rest := rest) (.ref 5) hb
  refine AR.call hl (as := .ref 5 :: as) (rest := rest) ?_ hM hdy hmc hms k (fun E h' q => absurd q (hno E h'))
  subst hst
  have hc : ax_has a = true ∧ ax_st a = false ∧ (ax_mm a).2.2.2.2 = [] ∧ b ≤ (as.reverse ++ .ref 5 :: rest).length ∧ (rest.map fun v => v.category).sum ≤ 8 ∧ 10 < 11 := ⟨hh, hi, hnil, d3, hcat, by decide⟩
  have hg := hb_get (q := 5) (by decide) h5
  simp only [ax_arg, d1, hg, d2, if_true]
  rw [if_pos hc]
theorem AR.j5 (hl : ax_look i pc = some (.invokevirtual ix, (a, b, 10), v, ws)) (hm : ax_has a = true ∧ ax_st a = false ∧ (ax_mm a).2.2.2.2 = []) (h5 : h[5]? = some (10, c5)) (hst : st = as.reverse ++ .ref 5 :: rest) (hb : as.length = b) (hcat : (rest.map fun v => v.category).sum ≤ 8) (hM : AM ax_ns l (ax_mm a) dy ty_R mc ms (.ref 5 :: as) h Q) (hdy : dy + 1 ≤ d) (hmc : mc ≤ bc) (hms : ms ≤ bs') (hno : ∀ E h', ¬ Q (.inr E) h')
    (k : ∀ x h', Q (.inl x) h' → AR ax_ns l (ax_mm i) d ty_R P X (pc + 3) lv (x.toList ++ rest) h' (bc - mc) (bs' - ms)) : AR ax_ns l (ax_mm i) d ty_R P X pc lv st h bc bs' := by
  obtain ⟨d1, d2, d3⟩ := hy_drop (rest := rest) (.ref 5) hb
  refine AR.call hl (as := .ref 5 :: as) (rest := rest) ?_ hM hdy hmc hms k (fun E h' q => absurd q (hno E h'))
  subst hst
  have hc : ax_has a = true ∧ ax_st a = false ∧ (ax_mm a).2.2.2.2 = [] ∧ b ≤ (as.reverse ++ .ref 5 :: rest).length ∧ (rest.map fun v => v.category).sum ≤ 8 ∧ True := ⟨hm.1, hm.2.1, hm.2.2, d3, hcat, trivial⟩
  have hg := hb_get (q := 5) (by decide) h5
  simp only [ax_arg, d1, hg, d2]
  rw [if_pos hc]
theorem AR.jstr {j : Nat} (hl : ax_look i pc = some (.invokevirtual ix, w, v, ws)) (hs : ax_site (ax_mm i) (ax_mm a) ix b) (hh : ax_has a = true) (hi : ax_st a = false) (hnil : (ax_mm a).2.2.2.2 = []) (hse : Cond.selects "java/lang/String" (ax_mm a).1 (ax_mm a).1 ∈ ax_tb) (hj : j < 1000) (hE : ∀ (b : Nat) (o : Nat → Nat) (U : State), ax_J b o U → va_O "java/lang/String" (o j) (fun q => b ≤ q) U U.heap) (hst : st = as.reverse ++ .ref (1000000000 + j) :: rest) (hb : as.length = b) (hcat : (rest.map fun v => v.category).sum ≤ 8) (hM : AM ax_ns l (ax_mm a) dy ty_R mc ms (.ref (1000000000 + j) :: as) h Q) (hdy : dy + 1 ≤ d) (hmc : mc ≤ bc) (hms : ms ≤ bs') (hno : ∀ E h', ¬ Q (.inr E) h')
    (k : ∀ x h', Q (.inl x) h' → AR ax_ns l (ax_mm i) d ty_R P X (pc + 3) lv (x.toList ++ rest) h' (bc - mc) (bs' - ms)) : AR ax_ns l (ax_mm i) d ty_R P X pc lv st h bc bs' :=
  AR.invokestr hnil (ax_look_ok hl).1 hs ((ax_mst hh).2 hi) hse hj hE hst hb hM hdy hmc hms hcat k (fun E h' q => absurd q (hno E h'))
theorem AR.aret {q : Nat} {t : FieldType} (hl : ax_look i pc = some (.areturn, w, v, ws)) (ht : (ax_mm i).2.2.2.1 = some t) (ho : (∃ n, t = .object n) ∨ ∃ u, t = .array u) (hq : Q (.inl (some (.ref q))) h) : AR ax_ns l (ax_mm i) d ty_R (ax_ret ax_ns (ax_mm i) Q) X pc lv [.ref q] h bc bs' :=
  AR.at (Or.inr (Or.inr (Or.inr (Or.inl ⟨_, t, rfl, rfl, (ax_look_ok hl).1, ht, ho, hq⟩))))
/-- an int of few values, returned as a byte -/
theorem AR.bret {x : Int32} (hl : ax_look i pc = some (.ireturn, w, v, ws)) (ht : (ax_mm i).2.2.2.1 = some .byte) (hx : hj_by (.int x)) (hq : Q (.inl (some (.int x))) h) : AR ax_ns l (ax_mm i) d ty_R (ax_ret ax_ns (ax_mm i) Q) X pc lv [.int x] h bc bs' :=
  AR.at (Or.inr (Or.inl ⟨_, .byte, rfl, hj_fit hx, rfl, (ax_look_ok hl).1, ht, hq⟩))
end HJ1
theorem hn_260 : (ax_mm 260).2.2.1 = 2 := by decide +kernel
theorem hr_260 : (ax_mm 260).2.2.2.1 = (some (.object "java/lang/StringBuilder")) := by decide +kernel
theorem hk_260_0 : ax_look 260 0 = some (.aload_n 0, (0, 0, 0), .null, []) := by decide +kernel
theorem hk_260_1 : ax_look 260 1 = some (.iload_n 1, (0, 0, 0), .null, []) := by decide +kernel
theorem hk_260_2 : ax_look 260 2 = some (.invokespecial 50, (265, 1, 3), .null, [4216, 5057, 1119]) := by decide +kernel
theorem hk_260_5 : ax_look 260 5 = some (.pop, (0, 0, 0), .null, []) := by decide +kernel
theorem hk_260_6 : ax_look 260 6 = some (.aload_n 0, (0, 0, 0), .null, []) := by decide +kernel
theorem hk_260_7 : ax_look 260 7 = some (.areturn, (0, 0, 0), .null, []) := by decide +kernel
theorem hn_261 : (ax_mm 261).2.2.1 = 2 := by decide +kernel
theorem hr_261 : (ax_mm 261).2.2.2.1 = (some (.object "java/lang/StringBuilder")) := by decide +kernel
theorem hk_261_0 : ax_look 261 0 = some (.aload_n 0, (0, 0, 0), .null, []) := by decide +kernel
theorem hk_261_1 : ax_look 261 1 = some (.iload_n 1, (0, 0, 0), .null, []) := by decide +kernel
theorem hk_261_2 : ax_look 261 2 = some (.invokespecial 53, (266, 1, 3), .null, [4130, 5056, 1119]) := by decide +kernel
theorem hk_261_5 : ax_look 261 5 = some (.pop, (0, 0, 0), .null, []) := by decide +kernel
theorem hk_261_6 : ax_look 261 6 = some (.aload_n 0, (0, 0, 0), .null, []) := by decide +kernel
theorem hk_261_7 : ax_look 261 7 = some (.areturn, (0, 0, 0), .null, []) := by decide +kernel
theorem hn_262 : (ax_mm 262).2.2.1 = 2 := by decide +kernel
theorem hr_262 : (ax_mm 262).2.2.2.1 = (some (.object "java/lang/StringBuilder")) := by decide +kernel
theorem hk_262_0 : ax_look 262 0 = some (.aload_n 0, (0, 0, 0), .null, []) := by decide +kernel
theorem hk_262_1 : ax_look 262 1 = some (.aload_n 1, (0, 0, 0), .null, []) := by decide +kernel
theorem hk_262_2 : ax_look 262 2 = some (.invokespecial 29, (267, 1, 3), .null, [4027, 5049, 1119]) := by decide +kernel
theorem hk_262_5 : ax_look 262 5 = some (.pop, (0, 0, 0), .null, []) := by decide +kernel
theorem hk_262_6 : ax_look 262 6 = some (.aload_n 0, (0, 0, 0), .null, []) := by decide +kernel
theorem hk_262_7 : ax_look 262 7 = some (.areturn, (0, 0, 0), .null, []) := by decide +kernel
theorem hn_263 : (ax_mm 263).2.2.1 = 2 := by decide +kernel
theorem hr_263 : (ax_mm 263).2.2.2.1 = none := by decide +kernel
theorem hk_263_0 : ax_look 263 0 = some (.aload_n 0, (0, 0, 0), .null, []) := by decide +kernel
theorem hk_263_1 : ax_look 263 1 = some (.iload_n 1, (0, 0, 0), .null, []) := by decide +kernel
theorem hk_263_2 : ax_look 263 2 = some (.invokespecial 333, (273, 1, 3), .null, [999999, 999999, 1119]) := by decide +kernel
theorem hk_263_5 : ax_look 263 5 = some (.return_, (0, 0, 0), .null, []) := by decide +kernel
theorem hn_264 : (ax_mm 264).2.2.1 = 2 := by decide +kernel
theorem hr_264 : (ax_mm 264).2.2.2.1 = (some .char) := by decide +kernel
theorem hk_264_0 : ax_look 264 0 = some (.aload_n 0, (0, 0, 0), .null, []) := by decide +kernel
theorem hk_264_1 : ax_look 264 1 = some (.iload_n 1, (0, 0, 0), .null, []) := by decide +kernel
theorem hk_264_2 : ax_look 264 2 = some (.invokespecial 329, (274, 1, 3), .null, [999999, 999999, 1119]) := by decide +kernel
theorem hk_264_5 : ax_look 264 5 = some (.ireturn, (0, 0, 0), .null, []) := by decide +kernel
theorem hn_265 : (ax_mm 265).2.2.1 = 2 := by decide +kernel
theorem hr_265 : (ax_mm 265).2.2.2.1 = (some (.object "java/lang/AbstractStringBuilder")) := by decide +kernel
theorem hk_265_0 : ax_look 265 0 = some (.aload_n 0, (0, 0, 0), .null, []) := by decide +kernel
theorem hk_265_1 : ax_look 265 1 = some (.aload_n 0, (0, 0, 0), .null, []) := by decide +kernel
theorem hk_265_2 : ax_look 265 2 = some (.getfield 79, (10, 3, 0), .null, [1110]) := by decide +kernel
theorem hk_265_5 : ax_look 265 5 = some (.iconst 1, (0, 0, 0), .null, []) := by decide +kernel
theorem hk_265_6 : ax_look 265 6 = some (.iadd, (0, 0, 0), .null, []) := by decide +kernel
theorem hk_265_7 : ax_look 265 7 = some (.invokevirtual 100, (900, 1, 99), .null, []) := by decide +kernel
theorem hk_265_10 : ax_look 265 10 = some (.aload_n 0, (0, 0, 0), .null, []) := by decide +kernel
theorem hk_265_11 : ax_look 265 11 = some (.invokevirtual 83, (900, 0, 99), .null, []) := by decide +kernel
theorem hk_265_14 : ax_look 265 14 = some (.ifCond .eq 31, (0, 0, 0), .null, []) := by decide +kernel
theorem hk_265_17 : ax_look 265 17 = some (.iload_n 1, (0, 0, 0), .null, []) := by decide +kernel
theorem hk_265_18 : ax_look 265 18 = some (.invokestatic 191, (280, 1, 0), .null, [4219]) := by decide +kernel
theorem hk_265_21 : ax_look 265 21 = some (.ifCond .eq 24, (0, 0, 0), .null, []) := by decide +kernel
theorem hk_265_24 : ax_look 265 24 = some (.aload_n 0, (0, 0, 0), .null, []) := by decide +kernel
theorem hk_265_25 : ax_look 265 25 = some (.getfield 15, (10, 0, 0), .null, [1107]) := by decide +kernel
theorem hk_265_28 : ax_look 265 28 = some (.aload_n 0, (0, 0, 0), .null, []) := by decide +kernel
theorem hk_265_29 : ax_look 265 29 = some (.dup, (0, 0, 0), .null, []) := by decide +kernel
theorem hk_265_30 : ax_look 265 30 = some (.getfield 79, (10, 3, 0), .null, [1110]) := by decide +kernel
theorem hk_265_33 : ax_look 265 33 = some (.dup_x1, (0, 0, 0), .null, []) := by decide +kernel
theorem hk_265_34 : ax_look 265 34 = some (.iconst 1, (0, 0, 0), .null, []) := by decide +kernel
theorem hk_265_35 : ax_look 265 35 = some (.iadd, (0, 0, 0), .null, []) := by decide +kernel
theorem hk_265_36 : ax_look 265 36 = some (.putfield 79, (10, 3, 0), .null, [1110]) := by decide +kernel
theorem hk_265_39 : ax_look 265 39 = some (.iload_n 1, (0, 0, 0), .null, []) := by decide +kernel
theorem hk_265_40 : ax_look 265 40 = some (.i2b, (0, 0, 0), .null, []) := by decide +kernel
theorem hk_265_41 : ax_look 265 41 = some (.bastore, (0, 0, 0), .null, []) := by decide +kernel
theorem hk_265_42 : ax_look 265 42 = some (.goto 33, (0, 0, 0), .null, []) := by decide +kernel
theorem hk_265_45 : ax_look 265 45 = some (.aload_n 0, (0, 0, 0), .null, []) := by decide +kernel
theorem hk_265_46 : ax_look 265 46 = some (.invokevirtual 83, (900, 0, 99), .null, []) := by decide +kernel
theorem hk_265_49 : ax_look 265 49 = some (.ifCond .eq 7, (0, 0, 0), .null, []) := by decide +kernel
theorem hk_265_52 : ax_look 265 52 = some (.aload_n 0, (0, 0, 0), .null, []) := by decide +kernel
theorem hk_265_53 : ax_look 265 53 = some (.invokevirtual 195, (900, 0, 0), .null, []) := by decide +kernel
theorem hk_265_56 : ax_look 265 56 = some (.aload_n 0, (0, 0, 0), .null, []) := by decide +kernel
theorem hk_265_57 : ax_look 265 57 = some (.getfield 15, (10, 0, 0), .null, [1107]) := by decide +kernel
theorem hk_265_60 : ax_look 265 60 = some (.aload_n 0, (0, 0, 0), .null, []) := by decide +kernel
theorem hk_265_61 : ax_look 265 61 = some (.dup, (0, 0, 0), .null, []) := by decide +kernel
theorem hk_265_62 : ax_look 265 62 = some (.getfield 79, (10, 3, 0), .null, [1110]) := by decide +kernel
theorem hk_265_65 : ax_look 265 65 = some (.dup_x1, (0, 0, 0), .null, []) := by decide +kernel
theorem hk_265_66 : ax_look 265 66 = some (.iconst 1, (0, 0, 0), .null, []) := by decide +kernel
theorem hk_265_67 : ax_look 265 67 = some (.iadd, (0, 0, 0), .null, []) := by decide +kernel
theorem hk_265_68 : ax_look 265 68 = some (.putfield 79, (10, 3, 0), .null, [1110]) := by decide +kernel
theorem hk_265_71 : ax_look 265 71 = some (.iload_n 1, (0, 0, 0), .null, []) := by decide +kernel
theorem hk_265_72 : ax_look 265 72 = some (.invokestatic 197, (900, 0, 0), .null, []) := by decide +kernel
theorem hk_265_75 : ax_look 265 75 = some (.aload_n 0, (0, 0, 0), .null, []) := by decide +kernel
theorem hk_265_76 : ax_look 265 76 = some (.areturn, (0, 0, 0), .null, []) := by decide +kernel
theorem hn_266 : (ax_mm 266).2.2.1 = 4 := by decide +kernel
theorem hr_266 : (ax_mm 266).2.2.2.1 = (some (.object "java/lang/AbstractStringBuilder")) := by decide +kernel
theorem hk_266_0 : ax_look 266 0 = some (.aload_n 0, (0, 0, 0), .null, []) := by decide +kernel
theorem hk_266_1 : ax_look 266 1 = some (.getfield 79, (10, 3, 0), .null, [1110]) := by decide +kernel
theorem hk_266_4 : ax_look 266 4 = some (.istore_n 2, (0, 0, 0), .null, []) := by decide +kernel
theorem hk_266_5 : ax_look 266 5 = some (.iload_n 2, (0, 0, 0), .null, []) := by decide +kernel
theorem hk_266_6 : ax_look 266 6 = some (.iload_n 1, (0, 0, 0), .null, []) := by decide +kernel
theorem hk_266_7 : ax_look 266 7 = some (.invokestatic 245, (281, 1, 0), .null, [4133]) := by decide +kernel
theorem hk_266_10 : ax_look 266 10 = some (.iadd, (0, 0, 0), .null, []) := by decide +kernel
theorem hk_266_11 : ax_look 266 11 = some (.istore_n 3, (0, 0, 0), .null, []) := by decide +kernel
theorem hk_266_12 : ax_look 266 12 = some (.aload_n 0, (0, 0, 0), .null, []) := by decide +kernel
theorem hk_266_13 : ax_look 266 13 = some (.iload_n 3, (0, 0, 0), .null, []) := by decide +kernel
theorem hk_266_14 : ax_look 266 14 = some (.invokevirtual 100, (900, 1, 99), .null, []) := by decide +kernel
theorem hk_266_17 : ax_look 266 17 = some (.aload_n 0, (0, 0, 0), .null, []) := by decide +kernel
theorem hk_266_18 : ax_look 266 18 = some (.invokevirtual 83, (900, 0, 99), .null, []) := by decide +kernel
theorem hk_266_21 : ax_look 266 21 = some (.ifCond .eq 16, (0, 0, 0), .null, []) := by decide +kernel
theorem hk_266_24 : ax_look 266 24 = some (.iload_n 1, (0, 0, 0), .null, []) := by decide +kernel
theorem hk_266_25 : ax_look 266 25 = some (.iload_n 3, (0, 0, 0), .null, []) := by decide +kernel
theorem hk_266_26 : ax_look 266 26 = some (.aload_n 0, (0, 0, 0), .null, []) := by decide +kernel
theorem hk_266_27 : ax_look 266 27 = some (.getfield 15, (10, 0, 0), .null, [1107]) := by decide +kernel
theorem hk_266_30 : ax_look 266 30 = some (.invokestatic 248, (282, 3, 0), .null, [4136]) := by decide +kernel
theorem hk_266_33 : ax_look 266 33 = some (.pop, (0, 0, 0), .null, []) := by decide +kernel
theorem hk_266_34 : ax_look 266 34 = some (.goto 14, (0, 0, 0), .null, []) := by decide +kernel
theorem hk_266_37 : ax_look 266 37 = some (.iload_n 1, (0, 0, 0), .null, []) := by decide +kernel
theorem hk_266_38 : ax_look 266 38 = some (.iload_n 2, (0, 0, 0), .null, []) := by decide +kernel
theorem hk_266_39 : ax_look 266 39 = some (.iload_n 3, (0, 0, 0), .null, []) := by decide +kernel
theorem hk_266_40 : ax_look 266 40 = some (.aload_n 0, (0, 0, 0), .null, []) := by decide +kernel
theorem hk_266_41 : ax_look 266 41 = some (.getfield 15, (10, 0, 0), .null, [1107]) := by decide +kernel
theorem hk_266_44 : ax_look 266 44 = some (.invokestatic 251, (900, 0, 0), .null, []) := by decide +kernel
theorem hk_266_47 : ax_look 266 47 = some (.pop, (0, 0, 0), .null, []) := by decide +kernel
theorem hk_266_48 : ax_look 266 48 = some (.aload_n 0, (0, 0, 0), .null, []) := by decide +kernel
theorem hk_266_49 : ax_look 266 49 = some (.iload_n 3, (0, 0, 0), .null, []) := by decide +kernel
theorem hk_266_50 : ax_look 266 50 = some (.putfield 79, (10, 3, 0), .null, [1110]) := by decide +kernel
theorem hk_266_53 : ax_look 266 53 = some (.aload_n 0, (0, 0, 0), .null, []) := by decide +kernel
theorem hk_266_54 : ax_look 266 54 = some (.areturn, (0, 0, 0), .null, []) := by decide +kernel
theorem hn_267 : (ax_mm 267).2.2.1 = 3 := by decide +kernel
theorem hr_267 : (ax_mm 267).2.2.2.1 = (some (.object "java/lang/AbstractStringBuilder")) := by decide +kernel
theorem hk_267_0 : ax_look 267 0 = some (.aload_n 1, (0, 0, 0), .null, []) := by decide +kernel
theorem hk_267_1 : ax_look 267 1 = some (.ifnonnull 8, (0, 0, 0), .null, []) := by decide +kernel
theorem hk_267_4 : ax_look 267 4 = some (.aload_n 0, (0, 0, 0), .null, []) := by decide +kernel
theorem hk_267_5 : ax_look 267 5 = some (.invokevirtual 204, (900, 0, 0), .null, []) := by decide +kernel
theorem hk_267_8 : ax_look 267 8 = some (.areturn, (0, 0, 0), .null, []) := by decide +kernel
theorem hk_267_9 : ax_look 267 9 = some (.aload_n 1, (0, 0, 0), .null, []) := by decide +kernel
theorem hk_267_10 : ax_look 267 10 = some (.invokevirtual 32, (900, 0, 99), .null, []) := by decide +kernel
theorem hk_267_13 : ax_look 267 13 = some (.istore_n 2, (0, 0, 0), .null, []) := by decide +kernel
theorem hk_267_14 : ax_look 267 14 = some (.aload_n 0, (0, 0, 0), .null, []) := by decide +kernel
theorem hk_267_15 : ax_look 267 15 = some (.aload_n 0, (0, 0, 0), .null, []) := by decide +kernel
theorem hk_267_16 : ax_look 267 16 = some (.getfield 79, (10, 3, 0), .null, [1110]) := by decide +kernel
theorem hk_267_19 : ax_look 267 19 = some (.iload_n 2, (0, 0, 0), .null, []) := by decide +kernel
theorem hk_267_20 : ax_look 267 20 = some (.iadd, (0, 0, 0), .null, []) := by decide +kernel
theorem hk_267_21 : ax_look 267 21 = some (.invokevirtual 100, (900, 1, 99), .null, []) := by decide +kernel
theorem hk_267_24 : ax_look 267 24 = some (.aload_n 0, (0, 0, 0), .null, []) := by decide +kernel
theorem hk_267_25 : ax_look 267 25 = some (.aload_n 0, (0, 0, 0), .null, []) := by decide +kernel
theorem hk_267_26 : ax_look 267 26 = some (.getfield 79, (10, 3, 0), .null, [1110]) := by decide +kernel
theorem hk_267_29 : ax_look 267 29 = some (.aload_n 1, (0, 0, 0), .null, []) := by decide +kernel
theorem hk_267_30 : ax_look 267 30 = some (.invokevirtual 208, (900, 2, 99), .null, []) := by decide +kernel
theorem hk_267_33 : ax_look 267 33 = some (.aload_n 0, (0, 0, 0), .null, []) := by decide +kernel
theorem hk_267_34 : ax_look 267 34 = some (.dup, (0, 0, 0), .null, []) := by decide +kernel
theorem hk_267_35 : ax_look 267 35 = some (.getfield 79, (10, 3, 0), .null, [1110]) := by decide +kernel
theorem hk_267_38 : ax_look 267 38 = some (.iload_n 2, (0, 0, 0), .null, []) := by decide +kernel
theorem hk_267_39 : ax_look 267 39 = some (.iadd, (0, 0, 0), .null, []) := by decide +kernel
theorem hk_267_40 : ax_look 267 40 = some (.putfield 79, (10, 3, 0), .null, [1110]) := by decide +kernel
theorem hk_267_43 : ax_look 267 43 = some (.aload_n 0, (0, 0, 0), .null, []) := by decide +kernel
theorem hk_267_44 : ax_look 267 44 = some (.areturn, (0, 0, 0), .null, []) := by decide +kernel
theorem hn_268 : (ax_mm 268).2.2.1 = 3 := by decide +kernel
theorem hr_268 : (ax_mm 268).2.2.2.1 = none := by decide +kernel
theorem hk_268_0 : ax_look 268 0 = some (.aload_n 0, (0, 0, 0), .null, []) := by decide +kernel
theorem hk_268_1 : ax_look 268 1 = some (.getfield 15, (10, 0, 0), .null, [1107]) := by decide +kernel
theorem hk_268_4 : ax_look 268 4 = some (.arraylength, (0, 0, 0), .null, []) := by decide +kernel
theorem hk_268_5 : ax_look 268 5 = some (.aload_n 0, (0, 0, 0), .null, []) := by decide +kernel
theorem hk_268_6 : ax_look 268 6 = some (.getfield 22, (10, 1, 0), .null, [1108]) := by decide +kernel
theorem hk_268_9 : ax_look 268 9 = some (.ishr, (0, 0, 0), .null, []) := by decide +kernel
theorem hk_268_10 : ax_look 268 10 = some (.istore_n 2, (0, 0, 0), .null, []) := by decide +kernel
theorem hk_268_11 : ax_look 268 11 = some (.iload_n 1, (0, 0, 0), .null, []) := by decide +kernel
theorem hk_268_12 : ax_look 268 12 = some (.iload_n 2, (0, 0, 0), .null, []) := by decide +kernel
theorem hk_268_13 : ax_look 268 13 = some (.isub, (0, 0, 0), .null, []) := by decide +kernel
theorem hk_268_14 : ax_look 268 14 = some (.ifCond .le 24, (0, 0, 0), .null, []) := by decide +kernel
theorem hk_268_17 : ax_look 268 17 = some (.aload_n 0, (0, 0, 0), .null, []) := by decide +kernel
theorem hk_268_18 : ax_look 268 18 = some (.aload_n 0, (0, 0, 0), .null, []) := by decide +kernel
theorem hk_268_19 : ax_look 268 19 = some (.getfield 15, (10, 0, 0), .null, [1107]) := by decide +kernel
theorem hk_268_22 : ax_look 268 22 = some (.aload_n 0, (0, 0, 0), .null, []) := by decide +kernel
theorem hk_268_23 : ax_look 268 23 = some (.iload_n 1, (0, 0, 0), .null, []) := by decide +kernel
theorem hk_268_24 : ax_look 268 24 = some (.invokevirtual 104, (900, 1, 99), .null, []) := by decide +kernel
theorem hk_268_27 : ax_look 268 27 = some (.aload_n 0, (0, 0, 0), .null, []) := by decide +kernel
theorem hk_268_28 : ax_look 268 28 = some (.getfield 22, (10, 1, 0), .null, [1108]) := by decide +kernel
theorem hk_268_31 : ax_look 268 31 = some (.ishl, (0, 0, 0), .null, []) := by decide +kernel
theorem hk_268_32 : ax_look 268 32 = some (.invokestatic 108, (283, 2, 0), .null, [4053]) := by decide +kernel
theorem hk_268_35 : ax_look 268 35 = some (.putfield 15, (10, 0, 0), .null, [1107]) := by decide +kernel
theorem hk_268_38 : ax_look 268 38 = some (.return_, (0, 0, 0), .null, []) := by decide +kernel
theorem hn_269 : (ax_mm 269).2.2.1 = 6 := by decide +kernel
theorem hr_269 : (ax_mm 269).2.2.2.1 = (some .int) := by decide +kernel
theorem hk_269_0 : ax_look 269 0 = some (.aload_n 0, (0, 0, 0), .null, []) := by decide +kernel
theorem hk_269_1 : ax_look 269 1 = some (.getfield 15, (10, 0, 0), .null, [1107]) := by decide +kernel
theorem hk_269_4 : ax_look 269 4 = some (.arraylength, (0, 0, 0), .null, []) := by decide +kernel
theorem hk_269_5 : ax_look 269 5 = some (.istore_n 2, (0, 0, 0), .null, []) := by decide +kernel
theorem hk_269_6 : ax_look 269 6 = some (.iload_n 1, (0, 0, 0), .null, []) := by decide +kernel
theorem hk_269_7 : ax_look 269 7 = some (.aload_n 0, (0, 0, 0), .null, []) := by decide +kernel
theorem hk_269_8 : ax_look 269 8 = some (.getfield 22, (10, 1, 0), .null, [1108]) := by decide +kernel
theorem hk_269_11 : ax_look 269 11 = some (.ishl, (0, 0, 0), .null, []) := by decide +kernel
theorem hk_269_12 : ax_look 269 12 = some (.istore_n 3, (0, 0, 0), .null, []) := by decide +kernel
theorem hk_269_13 : ax_look 269 13 = some (.iload_n 3, (0, 0, 0), .null, []) := by decide +kernel
theorem hk_269_14 : ax_look 269 14 = some (.iload_n 2, (0, 0, 0), .null, []) := by decide +kernel
theorem hk_269_15 : ax_look 269 15 = some (.isub, (0, 0, 0), .null, []) := by decide +kernel
theorem hk_269_16 : ax_look 269 16 = some (.istore 4, (0, 0, 0), .null, []) := by decide +kernel
theorem hk_269_18 : ax_look 269 18 = some (.iload_n 2, (0, 0, 0), .null, []) := by decide +kernel
theorem hk_269_19 : ax_look 269 19 = some (.iload 4, (0, 0, 0), .null, []) := by decide +kernel
theorem hk_269_21 : ax_look 269 21 = some (.iload_n 2, (0, 0, 0), .null, []) := by decide +kernel
theorem hk_269_22 : ax_look 269 22 = some (.iconst 2, (0, 0, 0), .null, []) := by decide +kernel
theorem hk_269_23 : ax_look 269 23 = some (.aload_n 0, (0, 0, 0), .null, []) := by decide +kernel
theorem hk_269_24 : ax_look 269 24 = some (.getfield 22, (10, 1, 0), .null, [1108]) := by decide +kernel
theorem hk_269_27 : ax_look 269 27 = some (.ishl, (0, 0, 0), .null, []) := by decide +kernel
theorem hk_269_28 : ax_look 269 28 = some (.iadd, (0, 0, 0), .null, []) := by decide +kernel
theorem hk_269_29 : ax_look 269 29 = some (.invokestatic 114, (284, 3, 0), .null, [4042]) := by decide +kernel
theorem hk_269_32 : ax_look 269 32 = some (.istore 5, (0, 0, 0), .null, []) := by decide +kernel
theorem hk_269_34 : ax_look 269 34 = some (.iload 5, (0, 0, 0), .null, []) := by decide +kernel
theorem hk_269_36 : ax_look 269 36 = some (.ldc 39, (0, 0, 0), .int (2147483647), [4052]) := by decide +kernel
theorem hk_269_38 : ax_look 269 38 = some (.if_icmp .ne 13, (0, 0, 0), .null, []) := by decide +kernel
theorem hk_269_41 : ax_look 269 41 = some (.new 120, (900, 0, 0), .null, []) := by decide +kernel
theorem hk_269_44 : ax_look 269 44 = some (.dup, (0, 0, 0), .null, []) := by decide +kernel
theorem hk_269_45 : ax_look 269 45 = some (.ldc 122, (900, 0, 0), .null, []) := by decide +kernel
theorem hk_269_47 : ax_look 269 47 = some (.invokespecial 124, (900, 0, 0), .null, []) := by decide +kernel
theorem hk_269_50 : ax_look 269 50 = some (.athrow, (0, 0, 0), .null, []) := by decide +kernel
theorem hk_269_51 : ax_look 269 51 = some (.iload 5, (0, 0, 0), .null, []) := by decide +kernel
theorem hk_269_53 : ax_look 269 53 = some (.aload_n 0, (0, 0, 0), .null, []) := by decide +kernel
theorem hk_269_54 : ax_look 269 54 = some (.getfield 22, (10, 1, 0), .null, [1108]) := by decide +kernel
theorem hk_269_57 : ax_look 269 57 = some (.ishr, (0, 0, 0), .null, []) := by decide +kernel
theorem hk_269_58 : ax_look 269 58 = some (.ireturn, (0, 0, 0), .null, []) := by decide +kernel
theorem hn_270 : (ax_mm 270).2.2.1 = 3 := by decide +kernel
theorem hr_270 : (ax_mm 270).2.2.2.1 = none := by decide +kernel
theorem hk_270_0 : ax_look 270 0 = some (.aload_n 0, (0, 0, 0), .null, []) := by decide +kernel
theorem hk_270_1 : ax_look 270 1 = some (.aload_n 2, (0, 0, 0), .null, []) := by decide +kernel
theorem hk_270_2 : ax_look 270 2 = some (.invokevirtual 397, (900, 1, 99), .null, []) := by decide +kernel
theorem hk_270_5 : ax_look 270 5 = some (.aload_n 2, (0, 0, 0), .null, []) := by decide +kernel
theorem hk_270_6 : ax_look 270 6 = some (.aload_n 0, (0, 0, 0), .null, []) := by decide +kernel
theorem hk_270_7 : ax_look 270 7 = some (.getfield 15, (10, 0, 0), .null, [1107]) := by decide +kernel
theorem hk_270_10 : ax_look 270 10 = some (.iload_n 1, (0, 0, 0), .null, []) := by decide +kernel
theorem hk_270_11 : ax_look 270 11 = some (.aload_n 0, (0, 0, 0), .null, []) := by decide +kernel
theorem hk_270_12 : ax_look 270 12 = some (.getfield 22, (10, 1, 0), .null, [1108]) := by decide +kernel
theorem hk_270_15 : ax_look 270 15 = some (.invokevirtual 399, (900, 3, 99), .null, []) := by decide +kernel
theorem hk_270_18 : ax_look 270 18 = some (.return_, (0, 0, 0), .null, []) := by decide +kernel
theorem hn_271 : (ax_mm 271).2.2.1 = 2 := by decide +kernel
theorem hr_271 : (ax_mm 271).2.2.2.1 = none := by decide +kernel
theorem hk_271_0 : ax_look 271 0 = some (.getstatic 18, (1, 0, 0), .null, [1098]) := by decide +kernel
theorem hk_271_3 : ax_look 271 3 = some (.ifCond .eq 18, (0, 0, 0), .null, []) := by decide +kernel
theorem hk_271_6 : ax_look 271 6 = some (.aload_n 0, (0, 0, 0), .null, []) := by decide +kernel
theorem hk_271_7 : ax_look 271 7 = some (.getfield 22, (10, 1, 0), .null, [1108]) := by decide +kernel
theorem hk_271_10 : ax_look 271 10 = some (.aload_n 1, (0, 0, 0), .null, []) := by decide +kernel
theorem hk_271_11 : ax_look 271 11 = some (.invokevirtual 40, (900, 0, 99), .null, []) := by decide +kernel
theorem hk_271_14 : ax_look 271 14 = some (.if_icmp .eq 7, (0, 0, 0), .null, []) := by decide +kernel
theorem hk_271_17 : ax_look 271 17 = some (.aload_n 0, (0, 0, 0), .null, []) := by decide +kernel
theorem hk_271_18 : ax_look 271 18 = some (.invokevirtual 195, (900, 0, 0), .null, []) := by decide +kernel
theorem hk_271_21 : ax_look 271 21 = some (.return_, (0, 0, 0), .null, []) := by decide +kernel
theorem hn_272 : (ax_mm 272).2.2.1 = 1 := by decide +kernel
theorem hr_272 : (ax_mm 272).2.2.2.1 = (some .boolean) := by decide +kernel
theorem hk_272_0 : ax_look 272 0 = some (.getstatic 18, (1, 0, 0), .null, [1098]) := by decide +kernel
theorem hk_272_3 : ax_look 272 3 = some (.ifCond .eq 14, (0, 0, 0), .null, []) := by decide +kernel
theorem hk_272_6 : ax_look 272 6 = some (.aload_n 0, (0, 0, 0), .null, []) := by decide +kernel
theorem hk_272_7 : ax_look 272 7 = some (.getfield 22, (10, 1, 0), .null, [1108]) := by decide +kernel
theorem hk_272_10 : ax_look 272 10 = some (.ifCond .ne 7, (0, 0, 0), .null, []) := by decide +kernel
theorem hk_272_13 : ax_look 272 13 = some (.iconst 1, (0, 0, 0), .null, []) := by decide +kernel
theorem hk_272_14 : ax_look 272 14 = some (.goto 4, (0, 0, 0), .null, []) := by decide +kernel
theorem hk_272_17 : ax_look 272 17 = some (.iconst 0, (0, 0, 0), .null, []) := by decide +kernel
theorem hk_272_18 : ax_look 272 18 = some (.ireturn, (0, 0, 0), .null, []) := by decide +kernel
theorem hn_273 : (ax_mm 273).2.2.1 = 2 := by decide +kernel
theorem hr_273 : (ax_mm 273).2.2.2.1 = none := by decide +kernel
theorem hk_273_0 : ax_look 273 0 = some (.iload_n 1, (0, 0, 0), .null, []) := by decide +kernel
theorem hk_273_1 : ax_look 273 1 = some (.ifCond .ge 12, (0, 0, 0), .null, []) := by decide +kernel
theorem hk_273_4 : ax_look 273 4 = some (.new 129, (900, 0, 0), .null, []) := by decide +kernel
theorem hk_273_7 : ax_look 273 7 = some (.dup, (0, 0, 0), .null, []) := by decide +kernel
theorem hk_273_8 : ax_look 273 8 = some (.iload_n 1, (0, 0, 0), .null, []) := by decide +kernel
theorem hk_273_9 : ax_look 273 9 = some (.invokespecial 131, (900, 0, 0), .null, []) := by decide +kernel
theorem hk_273_12 : ax_look 273 12 = some (.athrow, (0, 0, 0), .null, []) := by decide +kernel
theorem hk_273_13 : ax_look 273 13 = some (.aload_n 0, (0, 0, 0), .null, []) := by decide +kernel
theorem hk_273_14 : ax_look 273 14 = some (.iload_n 1, (0, 0, 0), .null, []) := by decide +kernel
theorem hk_273_15 : ax_look 273 15 = some (.invokevirtual 100, (900, 1, 99), .null, []) := by decide +kernel
theorem hk_273_18 : ax_look 273 18 = some (.aload_n 0, (0, 0, 0), .null, []) := by decide +kernel
theorem hk_273_19 : ax_look 273 19 = some (.getfield 79, (10, 3, 0), .null, [1110]) := by decide +kernel
theorem hk_273_22 : ax_look 273 22 = some (.iload_n 1, (0, 0, 0), .null, []) := by decide +kernel
theorem hk_273_23 : ax_look 273 23 = some (.if_icmp .ge 40, (0, 0, 0), .null, []) := by decide +kernel
theorem hk_273_26 : ax_look 273 26 = some (.aload_n 0, (0, 0, 0), .null, []) := by decide +kernel
theorem hk_273_27 : ax_look 273 27 = some (.invokevirtual 83, (900, 0, 99), .null, []) := by decide +kernel
theorem hk_273_30 : ax_look 273 30 = some (.ifCond .eq 18, (0, 0, 0), .null, []) := by decide +kernel
theorem hk_273_33 : ax_look 273 33 = some (.aload_n 0, (0, 0, 0), .null, []) := by decide +kernel
theorem hk_273_34 : ax_look 273 34 = some (.getfield 15, (10, 0, 0), .null, [1107]) := by decide +kernel
theorem hk_273_37 : ax_look 273 37 = some (.aload_n 0, (0, 0, 0), .null, []) := by decide +kernel
theorem hk_273_38 : ax_look 273 38 = some (.getfield 79, (10, 3, 0), .null, [1110]) := by decide +kernel
theorem hk_273_41 : ax_look 273 41 = some (.iload_n 1, (0, 0, 0), .null, []) := by decide +kernel
theorem hk_273_42 : ax_look 273 42 = some (.invokestatic 133, (900, 0, 0), .null, []) := by decide +kernel
theorem hk_273_45 : ax_look 273 45 = some (.goto 31, (0, 0, 0), .null, []) := by decide +kernel
theorem hk_273_48 : ax_look 273 48 = some (.aload_n 0, (0, 0, 0), .null, []) := by decide +kernel
theorem hk_273_49 : ax_look 273 49 = some (.getfield 15, (10, 0, 0), .null, [1107]) := by decide +kernel
theorem hk_273_52 : ax_look 273 52 = some (.aload_n 0, (0, 0, 0), .null, []) := by decide +kernel
theorem hk_273_53 : ax_look 273 53 = some (.getfield 79, (10, 3, 0), .null, [1110]) := by decide +kernel
theorem hk_273_56 : ax_look 273 56 = some (.iload_n 1, (0, 0, 0), .null, []) := by decide +kernel
theorem hk_273_57 : ax_look 273 57 = some (.invokestatic 137, (900, 0, 0), .null, []) := by decide +kernel
theorem hk_273_60 : ax_look 273 60 = some (.goto 16, (0, 0, 0), .null, []) := by decide +kernel
theorem hk_273_63 : ax_look 273 63 = some (.aload_n 0, (0, 0, 0), .null, []) := by decide +kernel
theorem hk_273_64 : ax_look 273 64 = some (.getfield 79, (10, 3, 0), .null, [1110]) := by decide +kernel
theorem hk_273_67 : ax_look 273 67 = some (.iload_n 1, (0, 0, 0), .null, []) := by decide +kernel
theorem hk_273_68 : ax_look 273 68 = some (.if_icmp .le 8, (0, 0, 0), .null, []) := by decide +kernel
theorem hk_273_71 : ax_look 273 71 = some (.aload_n 0, (0, 0, 0), .null, []) := by decide +kernel
theorem hk_273_72 : ax_look 273 72 = some (.iconst 1, (0, 0, 0), .null, []) := by decide +kernel
theorem hk_273_73 : ax_look 273 73 = some (.putfield 73, (10, 2, 0), .null, [999999]) := by decide +kernel
theorem hk_273_76 : ax_look 273 76 = some (.aload_n 0, (0, 0, 0), .null, []) := by decide +kernel
theorem hk_273_77 : ax_look 273 77 = some (.iload_n 1, (0, 0, 0), .null, []) := by decide +kernel
theorem hk_273_78 : ax_look 273 78 = some (.putfield 79, (10, 3, 0), .null, [1110]) := by decide +kernel
theorem hk_273_81 : ax_look 273 81 = some (.return_, (0, 0, 0), .null, []) := by decide +kernel
theorem hn_274 : (ax_mm 274).2.2.1 = 5 := by decide +kernel
theorem hr_274 : (ax_mm 274).2.2.2.1 = (some .char) := by decide +kernel
theorem hk_274_0 : ax_look 274 0 = some (.aload_n 0, (0, 0, 0), .null, []) := by decide +kernel
theorem hk_274_1 : ax_look 274 1 = some (.getfield 22, (10, 1, 0), .null, [1108]) := by decide +kernel
theorem hk_274_4 : ax_look 274 4 = some (.istore_n 2, (0, 0, 0), .null, []) := by decide +kernel
theorem hk_274_5 : ax_look 274 5 = some (.aload_n 0, (0, 0, 0), .null, []) := by decide +kernel
theorem hk_274_6 : ax_look 274 6 = some (.getfield 15, (10, 0, 0), .null, [1107]) := by decide +kernel
theorem hk_274_9 : ax_look 274 9 = some (.astore_n 3, (0, 0, 0), .null, []) := by decide +kernel
theorem hk_274_10 : ax_look 274 10 = some (.aload_n 0, (0, 0, 0), .null, []) := by decide +kernel
theorem hk_274_11 : ax_look 274 11 = some (.getfield 79, (10, 3, 0), .null, [1110]) := by decide +kernel
theorem hk_274_14 : ax_look 274 14 = some (.aload_n 3, (0, 0, 0), .null, []) := by decide +kernel
theorem hk_274_15 : ax_look 274 15 = some (.arraylength, (0, 0, 0), .null, []) := by decide +kernel
theorem hk_274_16 : ax_look 274 16 = some (.iload_n 2, (0, 0, 0), .null, []) := by decide +kernel
theorem hk_274_17 : ax_look 274 17 = some (.ishr, (0, 0, 0), .null, []) := by decide +kernel
theorem hk_274_18 : ax_look 274 18 = some (.invokestatic 138, (900, 0, 0), .null, []) := by decide +kernel
theorem hk_274_21 : ax_look 274 21 = some (.istore 4, (0, 0, 0), .null, []) := by decide +kernel
theorem hk_274_23 : ax_look 274 23 = some (.iload_n 1, (0, 0, 0), .null, []) := by decide +kernel
theorem hk_274_24 : ax_look 274 24 = some (.iload 4, (0, 0, 0), .null, []) := by decide +kernel
theorem hk_274_26 : ax_look 274 26 = some (.invokestatic 144, (278, 2, 0), .null, [999999]) := by decide +kernel
theorem hk_274_29 : ax_look 274 29 = some (.iload_n 2, (0, 0, 0), .null, []) := by decide +kernel
theorem hk_274_30 : ax_look 274 30 = some (.ifCond .ne 12, (0, 0, 0), .null, []) := by decide +kernel
theorem hk_274_33 : ax_look 274 33 = some (.aload_n 3, (0, 0, 0), .null, []) := by decide +kernel
theorem hk_274_34 : ax_look 274 34 = some (.iload_n 1, (0, 0, 0), .null, []) := by decide +kernel
theorem hk_274_35 : ax_look 274 35 = some (.baload, (0, 0, 0), .null, []) := by decide +kernel
theorem hk_274_36 : ax_look 274 36 = some (.sipush 255, (0, 0, 0), .null, []) := by decide +kernel
theorem hk_274_39 : ax_look 274 39 = some (.iand, (0, 0, 0), .null, []) := by decide +kernel
theorem hk_274_40 : ax_look 274 40 = some (.i2c, (0, 0, 0), .null, []) := by decide +kernel
theorem hk_274_41 : ax_look 274 41 = some (.ireturn, (0, 0, 0), .null, []) := by decide +kernel
theorem hk_274_42 : ax_look 274 42 = some (.aload_n 3, (0, 0, 0), .null, []) := by decide +kernel
theorem hk_274_43 : ax_look 274 43 = some (.iload_n 1, (0, 0, 0), .null, []) := by decide +kernel
theorem hk_274_44 : ax_look 274 44 = some (.invokestatic 148, (900, 0, 0), .null, []) := by decide +kernel
theorem hk_274_47 : ax_look 274 47 = some (.ireturn, (0, 0, 0), .null, []) := by decide +kernel
theorem hn_275 : (ax_mm 275).2.2.1 = 1 := by decide +kernel
theorem hr_275 : (ax_mm 275).2.2.2.1 = (some .int) := by decide +kernel
theorem hk_275_0 : ax_look 275 0 = some (.aload_n 0, (0, 0, 0), .null, []) := by decide +kernel
theorem hk_275_1 : ax_look 275 1 = some (.getfield 9, (900, 0, 0), .null, []) := by decide +kernel
theorem hk_275_4 : ax_look 275 4 = some (.arraylength, (0, 0, 0), .null, []) := by decide +kernel
theorem hk_275_5 : ax_look 275 5 = some (.aload_n 0, (0, 0, 0), .null, []) := by decide +kernel
theorem hk_275_6 : ax_look 275 6 = some (.invokevirtual 335, (900, 0, 99), .null, []) := by decide +kernel
theorem hk_275_9 : ax_look 275 9 = some (.ishr, (0, 0, 0), .null, []) := by decide +kernel
theorem hk_275_10 : ax_look 275 10 = some (.ireturn, (0, 0, 0), .null, []) := by decide +kernel
theorem hn_276 : (ax_mm 276).2.2.1 = 1 := by decide +kernel
theorem hr_276 : (ax_mm 276).2.2.2.1 = (some .byte) := by decide +kernel
theorem hk_276_0 : ax_look 276 0 = some (.getstatic 38, (1, 0, 0), .null, [3195]) := by decide +kernel
theorem hk_276_3 : ax_look 276 3 = some (.ifCond .eq 10, (0, 0, 0), .null, []) := by decide +kernel
theorem hk_276_6 : ax_look 276 6 = some (.aload_n 0, (0, 0, 0), .null, []) := by decide +kernel
theorem hk_276_7 : ax_look 276 7 = some (.getfield 15, (900, 0, 0), .null, []) := by decide +kernel
theorem hk_276_10 : ax_look 276 10 = some (.goto 4, (0, 0, 0), .null, []) := by decide +kernel
theorem hk_276_13 : ax_look 276 13 = some (.iconst 1, (0, 0, 0), .null, []) := by decide +kernel
theorem hk_276_14 : ax_look 276 14 = some (.ireturn, (0, 0, 0), .null, []) := by decide +kernel
theorem hn_277 : (ax_mm 277).2.2.1 = 4 := by decide +kernel
theorem hr_277 : (ax_mm 277).2.2.2.1 = none := by decide +kernel
theorem hk_277_0 : ax_look 277 0 = some (.aload_n 0, (0, 0, 0), .null, []) := by decide +kernel
theorem hk_277_1 : ax_look 277 1 = some (.invokevirtual 335, (900, 0, 99), .null, []) := by decide +kernel
theorem hk_277_4 : ax_look 277 4 = some (.iload_n 3, (0, 0, 0), .null, []) := by decide +kernel
theorem hk_277_5 : ax_look 277 5 = some (.if_icmp .ne 23, (0, 0, 0), .null, []) := by decide +kernel
theorem hk_277_8 : ax_look 277 8 = some (.aload_n 0, (0, 0, 0), .null, []) := by decide +kernel
theorem hk_277_9 : ax_look 277 9 = some (.getfield 9, (900, 0, 0), .null, []) := by decide +kernel
theorem hk_277_12 : ax_look 277 12 = some (.iconst 0, (0, 0, 0), .null, []) := by decide +kernel
theorem hk_277_13 : ax_look 277 13 = some (.aload_n 1, (0, 0, 0), .null, []) := by decide +kernel
theorem hk_277_14 : ax_look 277 14 = some (.iload_n 2, (0, 0, 0), .null, []) := by decide +kernel
theorem hk_277_15 : ax_look 277 15 = some (.iload_n 3, (0, 0, 0), .null, []) := by decide +kernel
theorem hk_277_16 : ax_look 277 16 = some (.ishl, (0, 0, 0), .null, []) := by decide +kernel
theorem hk_277_17 : ax_look 277 17 = some (.aload_n 0, (0, 0, 0), .null, []) := by decide +kernel
theorem hk_277_18 : ax_look 277 18 = some (.getfield 9, (900, 0, 0), .null, []) := by decide +kernel
theorem hk_277_21 : ax_look 277 21 = some (.arraylength, (0, 0, 0), .null, []) := by decide +kernel
theorem hk_277_22 : ax_look 277 22 = some (.invokestatic 212, (703, 5, 0), .null, [4122]) := by decide +kernel
theorem hk_277_25 : ax_look 277 25 = some (.goto 18, (0, 0, 0), .null, []) := by decide +kernel
theorem hk_277_28 : ax_look 277 28 = some (.aload_n 0, (0, 0, 0), .null, []) := by decide +kernel
theorem hk_277_29 : ax_look 277 29 = some (.getfield 9, (900, 0, 0), .null, []) := by decide +kernel
theorem hk_277_32 : ax_look 277 32 = some (.iconst 0, (0, 0, 0), .null, []) := by decide +kernel
theorem hk_277_33 : ax_look 277 33 = some (.aload_n 1, (0, 0, 0), .null, []) := by decide +kernel
theorem hk_277_34 : ax_look 277 34 = some (.iload_n 2, (0, 0, 0), .null, []) := by decide +kernel
theorem hk_277_35 : ax_look 277 35 = some (.aload_n 0, (0, 0, 0), .null, []) := by decide +kernel
theorem hk_277_36 : ax_look 277 36 = some (.getfield 9, (900, 0, 0), .null, []) := by decide +kernel
theorem hk_277_39 : ax_look 277 39 = some (.arraylength, (0, 0, 0), .null, []) := by decide +kernel
theorem hk_277_40 : ax_look 277 40 = some (.invokestatic 106, (900, 0, 0), .null, []) := by decide +kernel
theorem hk_277_43 : ax_look 277 43 = some (.return_, (0, 0, 0), .null, []) := by decide +kernel
theorem hn_278 : (ax_mm 278).2.2.1 = 2 := by decide +kernel
theorem hr_278 : (ax_mm 278).2.2.2.1 = none := by decide +kernel
theorem hk_278_0 : ax_look 278 0 = some (.iload_n 0, (0, 0, 0), .null, []) := by decide +kernel
theorem hk_278_1 : ax_look 278 1 = some (.iload_n 1, (0, 0, 0), .null, []) := by decide +kernel
theorem hk_278_2 : ax_look 278 2 = some (.getstatic 1053, (900, 0, 0), .null, []) := by decide +kernel
theorem hk_278_5 : ax_look 278 5 = some (.invokestatic 1059, (279, 3, 0), .null, [3218]) := by decide +kernel
theorem hk_278_8 : ax_look 278 8 = some (.pop, (0, 0, 0), .null, []) := by decide +kernel
theorem hk_278_9 : ax_look 278 9 = some (.return_, (0, 0, 0), .null, []) := by decide +kernel
theorem hn_279 : (ax_mm 279).2.2.1 = 3 := by decide +kernel
theorem hr_279 : (ax_mm 279).2.2.2.1 = (some .int) := by decide +kernel
theorem hk_279_0 : ax_look 279 0 = some (.iload_n 0, (0, 0, 0), .null, []) := by decide +kernel
theorem hk_279_1 : ax_look 279 1 = some (.ifCond .lt 8, (0, 0, 0), .null, []) := by decide +kernel
theorem hk_279_4 : ax_look 279 4 = some (.iload_n 0, (0, 0, 0), .null, []) := by decide +kernel
theorem hk_279_5 : ax_look 279 5 = some (.iload_n 1, (0, 0, 0), .null, []) := by decide +kernel
theorem hk_279_6 : ax_look 279 6 = some (.if_icmp .lt 10, (0, 0, 0), .null, []) := by decide +kernel
theorem hk_279_9 : ax_look 279 9 = some (.aload_n 2, (0, 0, 0), .null, []) := by decide +kernel
theorem hk_279_10 : ax_look 279 10 = some (.iload_n 0, (0, 0, 0), .null, []) := by decide +kernel
theorem hk_279_11 : ax_look 279 11 = some (.iload_n 1, (0, 0, 0), .null, []) := by decide +kernel
theorem hk_279_12 : ax_look 279 12 = some (.invokestatic 95, (900, 0, 0), .null, []) := by decide +kernel
theorem hk_279_15 : ax_look 279 15 = some (.athrow, (0, 0, 0), .null, []) := by decide +kernel
theorem hk_279_16 : ax_look 279 16 = some (.iload_n 0, (0, 0, 0), .null, []) := by decide +kernel
theorem hk_279_17 : ax_look 279 17 = some (.ireturn, (0, 0, 0), .null, []) := by decide +kernel
theorem hn_280 : (ax_mm 280).2.2.1 = 1 := by decide +kernel
theorem hr_280 : (ax_mm 280).2.2.2.1 = (some .boolean) := by decide +kernel
theorem hk_280_0 : ax_look 280 0 = some (.iload_n 0, (0, 0, 0), .null, []) := by decide +kernel
theorem hk_280_1 : ax_look 280 1 = some (.sipush 255, (0, 0, 0), .null, []) := by decide +kernel
theorem hk_280_4 : ax_look 280 4 = some (.if_icmp .gt 7, (0, 0, 0), .null, []) := by decide +kernel
theorem hk_280_7 : ax_look 280 7 = some (.iconst 1, (0, 0, 0), .null, []) := by decide +kernel
theorem hk_280_8 : ax_look 280 8 = some (.goto 4, (0, 0, 0), .null, []) := by decide +kernel
theorem hk_280_11 : ax_look 280 11 = some (.iconst 0, (0, 0, 0), .null, []) := by decide +kernel
theorem hk_280_12 : ax_look 280 12 = some (.ireturn, (0, 0, 0), .null, []) := by decide +kernel
theorem hn_281 : (ax_mm 281).2.2.1 = 4 := by decide +kernel
theorem hr_281 : (ax_mm 281).2.2.2.1 = (some .int) := by decide +kernel
theorem hk_281_0 : ax_look 281 0 = some (.iconst 1, (0, 0, 0), .null, []) := by decide +kernel
theorem hk_281_1 : ax_look 281 1 = some (.istore_n 1, (0, 0, 0), .null, []) := by decide +kernel
theorem hk_281_2 : ax_look 281 2 = some (.iload_n 0, (0, 0, 0), .null, []) := by decide +kernel
theorem hk_281_3 : ax_look 281 3 = some (.ifCond .lt 8, (0, 0, 0), .null, []) := by decide +kernel
theorem hk_281_6 : ax_look 281 6 = some (.iconst 0, (0, 0, 0), .null, []) := by decide +kernel
theorem hk_281_7 : ax_look 281 7 = some (.istore_n 1, (0, 0, 0), .null, []) := by decide +kernel
theorem hk_281_8 : ax_look 281 8 = some (.iload_n 0, (0, 0, 0), .null, []) := by decide +kernel
theorem hk_281_9 : ax_look 281 9 = some (.ineg, (0, 0, 0), .null, []) := by decide +kernel
theorem hk_281_10 : ax_look 281 10 = some (.istore_n 0, (0, 0, 0), .null, []) := by decide +kernel
theorem hk_281_11 : ax_look 281 11 = some (.bipush (-10), (0, 0, 0), .null, []) := by decide +kernel
theorem hk_281_13 : ax_look 281 13 = some (.istore_n 2, (0, 0, 0), .null, []) := by decide +kernel
theorem hk_281_14 : ax_look 281 14 = some (.iconst 1, (0, 0, 0), .null, []) := by decide +kernel
theorem hk_281_15 : ax_look 281 15 = some (.istore_n 3, (0, 0, 0), .null, []) := by decide +kernel
theorem hk_281_16 : ax_look 281 16 = some (.iload_n 3, (0, 0, 0), .null, []) := by decide +kernel
theorem hk_281_17 : ax_look 281 17 = some (.bipush 10, (0, 0, 0), .null, []) := by decide +kernel
theorem hk_281_19 : ax_look 281 19 = some (.if_icmp .ge 23, (0, 0, 0), .null, []) := by decide +kernel
theorem hk_281_22 : ax_look 281 22 = some (.iload_n 0, (0, 0, 0), .null, []) := by decide +kernel
theorem hk_281_23 : ax_look 281 23 = some (.iload_n 2, (0, 0, 0), .null, []) := by decide +kernel
theorem hk_281_24 : ax_look 281 24 = some (.if_icmp .le 7, (0, 0, 0), .null, []) := by decide +kernel
theorem hk_281_27 : ax_look 281 27 = some (.iload_n 3, (0, 0, 0), .null, []) := by decide +kernel
theorem hk_281_28 : ax_look 281 28 = some (.iload_n 1, (0, 0, 0), .null, []) := by decide +kernel
theorem hk_281_29 : ax_look 281 29 = some (.iadd, (0, 0, 0), .null, []) := by decide +kernel
theorem hk_281_30 : ax_look 281 30 = some (.ireturn, (0, 0, 0), .null, []) := by decide +kernel
theorem hk_281_31 : ax_look 281 31 = some (.bipush 10, (0, 0, 0), .null, []) := by decide +kernel
theorem hk_281_33 : ax_look 281 33 = some (.iload_n 2, (0, 0, 0), .null, []) := by decide +kernel
theorem hk_281_34 : ax_look 281 34 = some (.imul, (0, 0, 0), .null, []) := by decide +kernel
theorem hk_281_35 : ax_look 281 35 = some (.istore_n 2, (0, 0, 0), .null, []) := by decide +kernel
theorem hk_281_36 : ax_look 281 36 = some (.iinc 3 1, (0, 0, 0), .null, []) := by decide +kernel
theorem hk_281_39 : ax_look 281 39 = some (.goto (-23), (0, 0, 0), .null, []) := by decide +kernel
theorem hk_281_42 : ax_look 281 42 = some (.bipush 10, (0, 0, 0), .null, []) := by decide +kernel
theorem hk_281_44 : ax_look 281 44 = some (.iload_n 1, (0, 0, 0), .null, []) := by decide +kernel
theorem hk_281_45 : ax_look 281 45 = some (.iadd, (0, 0, 0), .null, []) := by decide +kernel
theorem hk_281_46 : ax_look 281 46 = some (.ireturn, (0, 0, 0), .null, []) := by decide +kernel
theorem hn_282 : (ax_mm 282).2.2.1 = 7 := by decide +kernel
theorem hr_282 : (ax_mm 282).2.2.2.1 = (some .int) := by decide +kernel
theorem hk_282_0 : ax_look 282 0 = some (.iload_n 1, (0, 0, 0), .null, []) := by decide +kernel
theorem hk_282_1 : ax_look 282 1 = some (.istore 5, (0, 0, 0), .null, []) := by decide +kernel
theorem hk_282_3 : ax_look 282 3 = some (.iload_n 0, (0, 0, 0), .null, []) := by decide +kernel
theorem hk_282_4 : ax_look 282 4 = some (.ifCond .ge 7, (0, 0, 0), .null, []) := by decide +kernel
theorem hk_282_7 : ax_look 282 7 = some (.iconst 1, (0, 0, 0), .null, []) := by decide +kernel
theorem hk_282_8 : ax_look 282 8 = some (.goto 4, (0, 0, 0), .null, []) := by decide +kernel
theorem hk_282_11 : ax_look 282 11 = some (.iconst 0, (0, 0, 0), .null, []) := by decide +kernel
theorem hk_282_12 : ax_look 282 12 = some (.istore 6, (0, 0, 0), .null, []) := by decide +kernel
theorem hk_282_14 : ax_look 282 14 = some (.iload 6, (0, 0, 0), .null, []) := by decide +kernel
theorem hk_282_16 : ax_look 282 16 = some (.ifCond .ne 6, (0, 0, 0), .null, []) := by decide +kernel
theorem hk_282_19 : ax_look 282 19 = some (.iload_n 0, (0, 0, 0), .null, []) := by decide +kernel
theorem hk_282_20 : ax_look 282 20 = some (.ineg, (0, 0, 0), .null, []) := by decide +kernel
theorem hk_282_21 : ax_look 282 21 = some (.istore_n 0, (0, 0, 0), .null, []) := by decide +kernel
theorem hk_282_22 : ax_look 282 22 = some (.iload_n 0, (0, 0, 0), .null, []) := by decide +kernel
theorem hk_282_23 : ax_look 282 23 = some (.bipush (-100), (0, 0, 0), .null, []) := by decide +kernel
theorem hk_282_25 : ax_look 282 25 = some (.if_icmp .gt 47, (0, 0, 0), .null, []) := by decide +kernel
theorem hk_282_28 : ax_look 282 28 = some (.iload_n 0, (0, 0, 0), .null, []) := by decide +kernel
theorem hk_282_29 : ax_look 282 29 = some (.bipush 100, (0, 0, 0), .null, []) := by decide +kernel
theorem hk_282_31 : ax_look 282 31 = some (.idiv, (0, 0, 0), .null, []) := by decide +kernel
theorem hk_282_32 : ax_look 282 32 = some (.istore_n 3, (0, 0, 0), .null, []) := by decide +kernel
theorem hk_282_33 : ax_look 282 33 = some (.iload_n 3, (0, 0, 0), .null, []) := by decide +kernel
theorem hk_282_34 : ax_look 282 34 = some (.bipush 100, (0, 0, 0), .null, []) := by decide +kernel
theorem hk_282_36 : ax_look 282 36 = some (.imul, (0, 0, 0), .null, []) := by decide +kernel
theorem hk_282_37 : ax_look 282 37 = some (.iload_n 0, (0, 0, 0), .null, []) := by decide +kernel
theorem hk_282_38 : ax_look 282 38 = some (.isub, (0, 0, 0), .null, []) := by decide +kernel
theorem hk_282_39 : ax_look 282 39 = some (.istore 4, (0, 0, 0), .null, []) := by decide +kernel
theorem hk_282_41 : ax_look 282 41 = some (.iload_n 3, (0, 0, 0), .null, []) := by decide +kernel
theorem hk_282_42 : ax_look 282 42 = some (.istore_n 0, (0, 0, 0), .null, []) := by decide +kernel
theorem hk_282_43 : ax_look 282 43 = some (.aload_n 2, (0, 0, 0), .null, []) := by decide +kernel
theorem hk_282_44 : ax_look 282 44 = some (.iinc 5 (-1), (0, 0, 0), .null, []) := by decide +kernel
theorem hk_282_47 : ax_look 282 47 = some (.iload 5, (0, 0, 0), .null, []) := by decide +kernel
theorem hk_282_49 : ax_look 282 49 = some (.getstatic 83, (900, 0, 0), .null, []) := by decide +kernel
theorem hk_282_52 : ax_look 282 52 = some (.iload 4, (0, 0, 0), .null, []) := by decide +kernel
theorem hk_282_54 : ax_look 282 54 = some (.baload, (0, 0, 0), .null, []) := by decide +kernel
theorem hk_282_55 : ax_look 282 55 = some (.bastore, (0, 0, 0), .null, []) := by decide +kernel
theorem hk_282_56 : ax_look 282 56 = some (.aload_n 2, (0, 0, 0), .null, []) := by decide +kernel
theorem hk_282_57 : ax_look 282 57 = some (.iinc 5 (-1), (0, 0, 0), .null, []) := by decide +kernel
theorem hk_282_60 : ax_look 282 60 = some (.iload 5, (0, 0, 0), .null, []) := by decide +kernel
theorem hk_282_62 : ax_look 282 62 = some (.getstatic 87, (900, 0, 0), .null, []) := by decide +kernel
theorem hk_282_65 : ax_look 282 65 = some (.iload 4, (0, 0, 0), .null, []) := by decide +kernel
theorem hk_282_67 : ax_look 282 67 = some (.baload, (0, 0, 0), .null, []) := by decide +kernel
theorem hk_282_68 : ax_look 282 68 = some (.bastore, (0, 0, 0), .null, []) := by decide +kernel
theorem hk_282_69 : ax_look 282 69 = some (.goto (-47), (0, 0, 0), .null, []) := by decide +kernel
theorem hk_282_72 : ax_look 282 72 = some (.aload_n 2, (0, 0, 0), .null, []) := by decide +kernel
theorem hk_282_73 : ax_look 282 73 = some (.iinc 5 (-1), (0, 0, 0), .null, []) := by decide +kernel
theorem hk_282_76 : ax_look 282 76 = some (.iload 5, (0, 0, 0), .null, []) := by decide +kernel
theorem hk_282_78 : ax_look 282 78 = some (.getstatic 83, (900, 0, 0), .null, []) := by decide +kernel
theorem hk_282_81 : ax_look 282 81 = some (.iload_n 0, (0, 0, 0), .null, []) := by decide +kernel
theorem hk_282_82 : ax_look 282 82 = some (.ineg, (0, 0, 0), .null, []) := by decide +kernel
theorem hk_282_83 : ax_look 282 83 = some (.baload, (0, 0, 0), .null, []) := by decide +kernel
theorem hk_282_84 : ax_look 282 84 = some (.bastore, (0, 0, 0), .null, []) := by decide +kernel
theorem hk_282_85 : ax_look 282 85 = some (.iload_n 0, (0, 0, 0), .null, []) := by decide +kernel
theorem hk_282_86 : ax_look 282 86 = some (.bipush (-9), (0, 0, 0), .null, []) := by decide +kernel
theorem hk_282_88 : ax_look 282 88 = some (.if_icmp .ge 16, (0, 0, 0), .null, []) := by decide +kernel
theorem hk_282_91 : ax_look 282 91 = some (.aload_n 2, (0, 0, 0), .null, []) := by decide +kernel
theorem hk_282_92 : ax_look 282 92 = some (.iinc 5 (-1), (0, 0, 0), .null, []) := by decide +kernel
theorem hk_282_95 : ax_look 282 95 = some (.iload 5, (0, 0, 0), .null, []) := by decide +kernel
theorem hk_282_97 : ax_look 282 97 = some (.getstatic 87, (900, 0, 0), .null, []) := by decide +kernel
theorem hk_282_100 : ax_look 282 100 = some (.iload_n 0, (0, 0, 0), .null, []) := by decide +kernel
theorem hk_282_101 : ax_look 282 101 = some (.ineg, (0, 0, 0), .null, []) := by decide +kernel
theorem hk_282_102 : ax_look 282 102 = some (.baload, (0, 0, 0), .null, []) := by decide +kernel
theorem hk_282_103 : ax_look 282 103 = some (.bastore, (0, 0, 0), .null, []) := by decide +kernel
theorem hk_282_104 : ax_look 282 104 = some (.iload 6, (0, 0, 0), .null, []) := by decide +kernel
theorem hk_282_106 : ax_look 282 106 = some (.ifCond .eq 12, (0, 0, 0), .null, []) := by decide +kernel
theorem hk_282_109 : ax_look 282 109 = some (.aload_n 2, (0, 0, 0), .null, []) := by decide +kernel
theorem hk_282_110 : ax_look 282 110 = some (.iinc 5 (-1), (0, 0, 0), .null, []) := by decide +kernel
theorem hk_282_113 : ax_look 282 113 = some (.iload 5, (0, 0, 0), .null, []) := by decide +kernel
theorem hk_282_115 : ax_look 282 115 = some (.bipush 45, (0, 0, 0), .null, []) := by decide +kernel
theorem hk_282_117 : ax_look 282 117 = some (.bastore, (0, 0, 0), .null, []) := by decide +kernel
theorem hk_282_118 : ax_look 282 118 = some (.iload 5, (0, 0, 0), .null, []) := by decide +kernel
theorem hk_282_120 : ax_look 282 120 = some (.ireturn, (0, 0, 0), .null, []) := by decide +kernel
theorem hn_283 : (ax_mm 283).2.2.1 = 3 := by decide +kernel
theorem hr_283 : (ax_mm 283).2.2.2.1 = (some (.array .byte)) := by decide +kernel
theorem hk_283_0 : ax_look 283 0 = some (.iload_n 1, (0, 0, 0), .null, []) := by decide +kernel
theorem hk_283_1 : ax_look 283 1 = some (.aload_n 0, (0, 0, 0), .null, []) := by decide +kernel
theorem hk_283_2 : ax_look 283 2 = some (.arraylength, (0, 0, 0), .null, []) := by decide +kernel
theorem hk_283_3 : ax_look 283 3 = some (.if_icmp .ne 11, (0, 0, 0), .null, []) := by decide +kernel
theorem hk_283_6 : ax_look 283 6 = some (.aload_n 0, (0, 0, 0), .null, []) := by decide +kernel
theorem hk_283_7 : ax_look 283 7 = some (.invokevirtual 310, (900, 0, 0), .null, []) := by decide +kernel
theorem hk_283_10 : ax_look 283 10 = some (.checkcast 311, (0, 0, 0), .null, []) := by decide +kernel
theorem hk_283_13 : ax_look 283 13 = some (.areturn, (0, 0, 0), .null, []) := by decide +kernel
theorem hk_283_14 : ax_look 283 14 = some (.iload_n 1, (0, 0, 0), .null, []) := by decide +kernel
theorem hk_283_15 : ax_look 283 15 = some (.newarray .byte, (3, 0, 0), .null, [1120]) := by decide +kernel
theorem hk_283_17 : ax_look 283 17 = some (.astore_n 2, (0, 0, 0), .null, []) := by decide +kernel
theorem hk_283_18 : ax_look 283 18 = some (.aload_n 0, (0, 0, 0), .null, []) := by decide +kernel
theorem hk_283_19 : ax_look 283 19 = some (.iconst 0, (0, 0, 0), .null, []) := by decide +kernel
theorem hk_283_20 : ax_look 283 20 = some (.aload_n 2, (0, 0, 0), .null, []) := by decide +kernel
theorem hk_283_21 : ax_look 283 21 = some (.iconst 0, (0, 0, 0), .null, []) := by decide +kernel
theorem hk_283_22 : ax_look 283 22 = some (.aload_n 0, (0, 0, 0), .null, []) := by decide +kernel
theorem hk_283_23 : ax_look 283 23 = some (.arraylength, (0, 0, 0), .null, []) := by decide +kernel
theorem hk_283_24 : ax_look 283 24 = some (.iload_n 1, (0, 0, 0), .null, []) := by decide +kernel
theorem hk_283_25 : ax_look 283 25 = some (.invokestatic 304, (900, 0, 0), .null, []) := by decide +kernel
theorem hk_283_28 : ax_look 283 28 = some (.invokestatic 150, (703, 5, 0), .null, [4066]) := by decide +kernel
theorem hk_283_31 : ax_look 283 31 = some (.aload_n 2, (0, 0, 0), .null, []) := by decide +kernel
theorem hk_283_32 : ax_look 283 32 = some (.areturn, (0, 0, 0), .null, []) := by decide +kernel
theorem hn_284 : (ax_mm 284).2.2.1 = 4 := by decide +kernel
theorem hr_284 : (ax_mm 284).2.2.2.1 = (some .int) := by decide +kernel
theorem hk_284_0 : ax_look 284 0 = some (.iload_n 0, (0, 0, 0), .null, []) := by decide +kernel
theorem hk_284_1 : ax_look 284 1 = some (.iload_n 1, (0, 0, 0), .null, []) := by decide +kernel
theorem hk_284_2 : ax_look 284 2 = some (.iload_n 2, (0, 0, 0), .null, []) := by decide +kernel
theorem hk_284_3 : ax_look 284 3 = some (.invokestatic 194, (702, 2, 0), .null, [4045]) := by decide +kernel
theorem hk_284_6 : ax_look 284 6 = some (.iadd, (0, 0, 0), .null, []) := by decide +kernel
theorem hk_284_7 : ax_look 284 7 = some (.istore_n 3, (0, 0, 0), .null, []) := by decide +kernel
theorem hk_284_8 : ax_look 284 8 = some (.iconst 0, (0, 0, 0), .null, []) := by decide +kernel
theorem hk_284_9 : ax_look 284 9 = some (.iload_n 3, (0, 0, 0), .null, []) := by decide +kernel
theorem hk_284_10 : ax_look 284 10 = some (.if_icmp .ge 11, (0, 0, 0), .null, []) := by decide +kernel
theorem hk_284_13 : ax_look 284 13 = some (.iload_n 3, (0, 0, 0), .null, []) := by decide +kernel
theorem hk_284_14 : ax_look 284 14 = some (.ldc 200, (0, 0, 0), .int (2147483639), [4048]) := by decide +kernel
theorem hk_284_16 : ax_look 284 16 = some (.if_icmp .gt 5, (0, 0, 0), .null, []) := by decide +kernel
theorem hk_284_19 : ax_look 284 19 = some (.iload_n 3, (0, 0, 0), .null, []) := by decide +kernel
theorem hk_284_20 : ax_look 284 20 = some (.ireturn, (0, 0, 0), .null, []) := by decide +kernel
theorem hk_284_21 : ax_look 284 21 = some (.iload_n 0, (0, 0, 0), .null, []) := by decide +kernel
theorem hk_284_22 : ax_look 284 22 = some (.iload_n 1, (0, 0, 0), .null, []) := by decide +kernel
theorem hk_284_23 : ax_look 284 23 = some (.invokestatic 201, (900, 0, 0), .null, []) := by decide +kernel
theorem hk_284_26 : ax_look 284 26 = some (.ireturn, (0, 0, 0), .null, []) := by decide +kernel
theorem hs_268_24 : ax_site (ax_mm 268) (ax_mm 269) 104 1 := by
  have m := ax_mfacts (by decide +kernel : ax_has 269 = true)
  exact ⟨m.1, m.2.1, ax_wk_mem (ix := 4038) (by decide +kernel), ⟨m.2.2.2.1, m.2.2.2.2.1, by decide +kernel⟩, m.2.2.2.2.2.1⟩
section HJ2
variable {l : Launch} {h : ax_H} {k : Nat} {bs : List Value} {ml : Value} {n q x : Int32}
theorem AR.ldcI {d i pc ix : Nat} {P : ax_P} {X : ax_PX} {lv : List (Nat × Value)} {st : List Value} {bc bs' b c : Nat} {ws : List Nat} {y : Int32} (hl : ax_look i pc = some (.ldc ix, (0, b, c), .int y, ws)) (k : ∀ z : Int32, z.toInt = y.toInt → AR ax_ns l (ax_mm i) d ty_R P X (pc + 2) lv (.int z :: st) h bc bs') : AR ax_ns l (ax_mm i) d ty_R P X pc lv st h bc bs' := AR.s _ rfl hl rfl (k _ rfl)
def hq_int (h : ax_H) (z : Int) : ax_Q := fun res g => g = h ∧ ∃ x : Int32, res = .inl (some (.int x)) ∧ x.toInt = z
theorem hj_nl (hlst : l.stackTraces = false) (h1 : 0 ≤ n.toInt ∧ n.toInt ≤ 1000) (h2 : q.toInt ≤ x.toInt) (h3 : x.toInt = n.toInt + 2) : AM ax_ns l (ax_mm 284) 0 ty_R (0) (0) [.int n, .int q, .int x] h (hq_int h (n.toInt + x.toInt)) := by
  refine AM.of (ax_mfacts (by decide +kernel : ax_has 284 = true)).2.2.2.2.2.2 hlst (by rw [hn_284]; exact Nat.le_of_ble_eq_true rfl) ?_
  show AR ax_ns l (ax_mm 284) 0 ty_R _ _ 0 [(0, .int n), (1, .int q), (2, .int x)] [] h (0) (0)
  refine AR.s (pc' := 1) (lv' := [(0, .int n), (1, .int q), (2, .int x)]) (st' := [.int n]) (h' := h) _ hn_284 hk_284_0 rfl ?_
  refine AR.s (pc' := 2) (lv' := [(0, .int n), (1, .int q), (2, .int x)]) (st' := [.int q, .int n]) (h' := h) _ hn_284 hk_284_1 rfl ?_
  refine AR.s (pc' := 3) (lv' := [(0, .int n), (1, .int q), (2, .int x)]) (st' := [.int x, .int q, .int n]) (h' := h) _ hn_284 hk_284_2 rfl ?_
  refine AR.mmaxI (ax_look_ok hk_284_3).1 (ax_wk_mem (ix := 4045) (by decide +kernel)) rfl (Nat.le_of_ble_eq_true rfl) ?_
  show AR _ _ _ _ _ _ _ 6 [(0, .int n), (1, .int q), (2, .int x)] [.int (if q < x then x else q), .int n] h _ _
  have e7 : (if q < x then x else q).toInt = x.toInt := by
    split
    · rfl
    · rename_i e; rw [Int32.lt_iff_toInt_lt] at e; omega
  generalize (if q < x then x else q) = m7 at e7
  show AR _ _ _ _ _ _ _ 6 [(0, .int n), (1, .int q), (2, .int x)] [.int m7, .int n] h _ _
  refine AR.addT hk_284_6 (by omega) (by omega) (fun z1 ez1 => ?_)
  show AR _ _ _ _ _ _ _ 7 [(0, .int n), (1, .int q), (2, .int x)] [.int z1] h _ _
  refine AR.s (pc' := 8) (lv' := [(3, .int z1), (0, .int n), (1, .int q), (2, .int x)]) (st' := []) (h' := h) _ hn_284 hk_284_7 rfl ?_
  refine AR.iconstT hk_284_8 (by decide) (fun z2 ez2 => ?_)
  show AR _ _ _ _ _ _ _ 9 [(3, .int z1), (0, .int n), (1, .int q), (2, .int x)] [.int z2] h _ _
  refine AR.s (pc' := 10) (lv' := [(3, .int z1), (0, .int n), (1, .int q), (2, .int x)]) (st' := [.int z1, .int z2]) (h' := h) _ hn_284 hk_284_9 rfl ?_
  refine AR.jge hk_284_10 (tgt := 21) (by decide) (fun p1 => ?_) (fun p2 => ?_)
  · exact absurd p1 (by omega)
  · refine AR.s (pc' := 14) (lv' := [(3, .int z1), (0, .int n), (1, .int q), (2, .int x)]) (st' := [.int z1]) (h' := h) _ hn_284 hk_284_13 rfl ?_
    refine AR.ldcI hk_284_14 (fun z3 ez3 => ?_)
    show AR _ _ _ _ _ _ _ 16 [(3, .int z1), (0, .int n), (1, .int q), (2, .int x)] [.int z3, .int z1] h _ _
    have e8 : (2147483639 : Int32).toInt = 2147483639 := rfl
    refine AR.jgt hk_284_16 (tgt := 21) (by decide) (fun p3 => ?_) (fun p4 => ?_)
    · exact absurd p3 (by omega)
    · refine AR.s (pc' := 20) (lv' := [(3, .int z1), (0, .int n), (1, .int q), (2, .int x)]) (st' := [.int z1]) (h' := h) _ hn_284 hk_284_19 rfl ?_
      exact AR.iret hk_284_20 hr_284 ⟨rfl, _, rfl, by omega⟩
def hq_cp (h : ax_H) (N : Nat) : ax_Q := fun res g => ∃ us, us.length = N ∧ (∀ x ∈ us, hj_by x) ∧ g = h ++ [(103, us)] ∧ res = .inl (some (.ref h.length))
theorem AR.nb {d i pc : Nat} {P : ax_P} {X : ax_PX} {lv : List (Nat × Value)} {st : List Value} {bc bs' b cc : Nat} {v : Value} {ws : List Nat} {t : ArrayType} {N : Nat} (hl : ax_look i pc = some (.newarray t, (3, b, cc), v, ws)) (hx : x.toInt = N) (hN : N ≤ 60000000) (k : AR ax_ns l (ax_mm i) d ty_R P X (pc + 2) lv (.ref h.length :: st) (h ++ [(103, List.replicate N (.int 0))]) bc bs') : AR ax_ns l (ax_mm i) d ty_R P X pc lv (.int x :: st) h (bc + 1) (bs' + N) := by
  obtain ⟨hd, hok⟩ := ax_look_ok hl
  refine ax_one_ok (pc' := pc + 2) (lv' := lv) (st' := .ref h.length :: st) (h' := h ++ [(103, List.replicate N (.int 0))]) (dc := 1) (ds := N) hd hok ?_ k
  have e : x.toNatClampNeg = N := by show x.toInt.toNat = N; omega
  have hn : ¬ (x < 0 ∨ 60000000 < N ∨ 3 = 900) := by
    rintro (z | z | z)
    · exact (hj_nn (by omega)).1 z
    · omega
    · cases z
  have ht : ax_tys[3]? = some .byte := rfl
  simp only [ax_one, ht, e]
  rw [if_neg hn, ax_ha_eq]
  rfl
theorem hj_cp (hlst : l.stackTraces = false) {N : Nat} (hk : k < 1000000000) (hg : h[k]? = some (103, bs)) (hb : ∀ x ∈ bs, hj_by x) (hx : x.toInt = N) (h1 : bs.length < N) (h2 : N ≤ 100000) : AM ax_ns l (ax_mm 283) 0 ty_R (0 + 1) (0 + N) [.ref k, .int x] h (hq_cp h N) := by
  refine AM.of (ax_mfacts (by decide +kernel : ax_has 283 = true)).2.2.2.2.2.2 hlst (by rw [hn_283]; exact Nat.le_of_ble_eq_true rfl) ?_
  show AR ax_ns l (ax_mm 283) 0 ty_R _ _ 0 [(0, .ref k), (1, .int x)] [] h (0 + 1) (0 + N)
  refine AR.s (pc' := 1) (lv' := [(0, .ref k), (1, .int x)]) (st' := [.int x]) (h' := h) _ hn_283 hk_283_0 rfl ?_
  refine AR.s (pc' := 2) (lv' := [(0, .ref k), (1, .int x)]) (st' := [.ref k, .int x]) (h' := h) _ hn_283 hk_283_1 rfl ?_
  refine AR.alx (t := 0) hk_283_2 hk hg (by omega) (fun z1 ez1 => ?_)
  show AR _ _ _ _ _ _ _ 3 [(0, .ref k), (1, .int x)] [.int z1, .int x] h _ _
  refine AR.jne hk_283_3 (tgt := 14) (by decide) (fun p1 => ?_) (fun p2 => ?_)
  · refine AR.s (pc' := 15) (lv' := [(0, .ref k), (1, .int x)]) (st' := [.int x]) (h' := h) _ hn_283 hk_283_14 rfl ?_
    refine AR.nb hk_283_15 hx (by omega) ?_
    show AR _ _ _ _ _ _ _ 17 [(0, .ref k), (1, .int x)] [.ref h.length] (h ++ [(103, List.replicate N (.int 0))]) _ _
    refine AR.s (pc' := 18) (lv' := [(2, .ref h.length), (0, .ref k), (1, .int x)]) (st' := []) (h' := (h ++ [(103, List.replicate N (.int 0))])) _ hn_283 hk_283_17 rfl ?_
    refine AR.s (pc' := 19) (lv' := [(2, .ref h.length), (0, .ref k), (1, .int x)]) (st' := [.ref k]) (h' := (h ++ [(103, List.replicate N (.int 0))])) _ hn_283 hk_283_18 rfl ?_
    refine AR.s (pc' := 20) (lv' := [(2, .ref h.length), (0, .ref k), (1, .int x)]) (st' := [.int 0, .ref k]) (h' := (h ++ [(103, List.replicate N (.int 0))])) _ hn_283 hk_283_19 rfl ?_
    refine AR.s (pc' := 21) (lv' := [(2, .ref h.length), (0, .ref k), (1, .int x)]) (st' := [.ref h.length, .int 0, .ref k]) (h' := (h ++ [(103, List.replicate N (.int 0))])) _ hn_283 hk_283_20 rfl ?_
    refine AR.s (pc' := 22) (lv' := [(2, .ref h.length), (0, .ref k), (1, .int x)]) (st' := [.int 0, .ref h.length, .int 0, .ref k]) (h' := (h ++ [(103, List.replicate N (.int 0))])) _ hn_283 hk_283_21 rfl ?_
    refine AR.s (pc' := 23) (lv' := [(2, .ref h.length), (0, .ref k), (1, .int x)]) (st' := [.ref k, .int 0, .ref h.length, .int 0, .ref k]) (h' := (h ++ [(103, List.replicate N (.int 0))])) _ hn_283 hk_283_22 rfl ?_
    have hg2 : (h ++ [(103, List.replicate N (.int 0))])[k]? = some (103, bs) := by rw [List.getElem?_append_left (List.getElem?_eq_some_iff.mp hg).1]; exact hg
    refine AR.alx (t := 0) hk_283_23 hk hg2 (by omega) (fun z2 ez2 => ?_)
    show AR _ _ _ _ _ _ _ 24 [(2, .ref h.length), (0, .ref k), (1, .int x)] [.int z2, .int 0, .ref h.length, .int 0, .ref k] (h ++ [(103, List.replicate N (.int 0))]) _ _
    refine AR.s (pc' := 25) (lv' := [(2, .ref h.length), (0, .ref k), (1, .int x)]) (st' := [.int x, .int z2, .int 0, .ref h.length, .int 0, .ref k]) (h' := (h ++ [(103, List.replicate N (.int 0))])) _ hn_283 hk_283_24 rfl ?_
    refine AR.mminI (ax_look_ok hk_283_25).1 (ax_wk_mem (ix := 4063) (by decide +kernel)) (ax_wk_mem (ix := 4064) (by decide +kernel)) (ax_wk_mem (ix := 999999) (by decide +kernel)) (Nat.le_of_ble_eq_true rfl) ?_
    show AR _ _ _ _ _ _ _ 28 [(2, .ref h.length), (0, .ref k), (1, .int x)] [.int (if x < z2 then x else z2), .int 0, .ref h.length, .int 0, .ref k] (h ++ [(103, List.replicate N (.int 0))]) _ _
    have e7 : (if x < z2 then x else z2).toInt = bs.length := by
      split
      · rename_i e; rw [Int32.lt_iff_toInt_lt] at e; omega
      · omega
    generalize (if x < z2 then x else z2) = m7 at e7
    show AR _ _ _ _ _ _ _ 28 [(2, .ref h.length), (0, .ref k), (1, .int x)] [.int m7, .int 0, .ref h.length, .int 0, .ref k] (h ++ [(103, List.replicate N (.int 0))]) _ _
    refine AR.small (fun hsz => ?_)
    rw [List.length_append] at hsz
    have hsz2 : h.length < 1000000000 := by omega
    refine AR.bcopy (n0 := bs.length) (us := List.replicate N (.int 0)) (ax_look_ok hk_283_28).1 (ax_wk_mem (ix := 4066) (by decide +kernel)) (Or.inl ⟨bs, hk, hg2, rfl, hb⟩) hsz2 (hy_getl h _) (fun x hx => ?_) (by decide) (by decide) (by omega) ?_ ?_ (Nat.le_of_ble_eq_true rfl) (fun us u1 u2 => ?_)
    · obtain rfl := (List.mem_replicate.mp hx).2
      exact ⟨0, rfl, by decide, by decide⟩
    · have : (0 : Int32).toInt = 0 := rfl; omega
    · have : (0 : Int32).toInt = 0 := rfl; rw [List.length_replicate]; omega
    rw [hy_setl]
    show AR _ _ _ _ _ _ _ 31 [(2, .ref h.length), (0, .ref k), (1, .int x)] [] (h ++ [(103, us)]) _ _
    refine AR.s (pc' := 32) (lv' := [(2, .ref h.length), (0, .ref k), (1, .int x)]) (st' := [.ref h.length]) (h' := (h ++ [(103, us)])) _ hn_283 hk_283_31 rfl ?_
    exact AR.aret hk_283_32 hr_283 (Or.inr ⟨_, rfl⟩) ⟨us, by rw [u1, List.length_replicate], u2, rfl, rfl⟩
  · exact absurd p2 (by omega)
theorem hj_nc (hlst : l.stackTraces = false) (B : hb k bs ml n h) (hbl : bs.length ≤ 700) (h1 : bs.length < q.toInt) (h2 : q.toInt ≤ 2 * bs.length + 2) : AM ax_ns l (ax_mm 269) 1 ty_R (0) (0) [.ref 5, .int q] h (hq_int h (2 * bs.length + 2)) := by
  refine AM.of (ax_mfacts (by decide +kernel : ax_has 269 = true)).2.2.2.2.2.2 hlst (by rw [hn_269]; exact Nat.le_of_ble_eq_true rfl) ?_
  show AR ax_ns l (ax_mm 269) 1 ty_R _ _ 0 [(0, .ref 5), (1, .int q)] [] h (0) (0)
  refine AR.s (pc' := 1) (lv' := [(0, .ref 5), (1, .int q)]) (st' := [.ref 5]) (h' := h) _ hn_269 hk_269_0 rfl ?_
  refine AR.gx hk_269_1 (by decide) (by decide) B.1 (x := .ref k) rfl ?_
  show AR _ _ _ _ _ _ _ 4 [(0, .ref 5), (1, .int q)] [.ref k] h _ _
  refine AR.alx (t := 0) hk_269_4 B.2.2.2.1 B.2.1 (by omega) (fun z4 ez4 => ?_)
  show AR _ _ _ _ _ _ _ 5 [(0, .ref 5), (1, .int q)] [.int z4] h _ _
  refine AR.s (pc' := 6) (lv' := [(2, .int z4), (0, .ref 5), (1, .int q)]) (st' := []) (h' := h) _ hn_269 hk_269_5 rfl ?_
  refine AR.s (pc' := 7) (lv' := [(2, .int z4), (0, .ref 5), (1, .int q)]) (st' := [.int q]) (h' := h) _ hn_269 hk_269_6 rfl ?_
  refine AR.s (pc' := 8) (lv' := [(2, .int z4), (0, .ref 5), (1, .int q)]) (st' := [.ref 5, .int q]) (h' := h) _ hn_269 hk_269_7 rfl ?_
  refine AR.gx hk_269_8 (by decide) (by decide) B.1 (x := .int 0) rfl ?_
  show AR _ _ _ _ _ _ _ 11 [(2, .int z4), (0, .ref 5), (1, .int q)] [.int 0, .int q] h _ _
  refine AR.shlT hk_269_11 ?_
  show AR _ _ _ _ _ _ _ 12 [(2, .int z4), (0, .ref 5), (1, .int q)] [.int q] h _ _
  refine AR.s (pc' := 13) (lv' := [(3, .int q), (2, .int z4), (0, .ref 5), (1, .int q)]) (st' := []) (h' := h) _ hn_269 hk_269_12 rfl ?_
  refine AR.s (pc' := 14) (lv' := [(3, .int q), (2, .int z4), (0, .ref 5), (1, .int q)]) (st' := [.int q]) (h' := h) _ hn_269 hk_269_13 rfl ?_
  refine AR.s (pc' := 15) (lv' := [(3, .int q), (2, .int z4), (0, .ref 5), (1, .int q)]) (st' := [.int z4, .int q]) (h' := h) _ hn_269 hk_269_14 rfl ?_
  refine AR.subT hk_269_15 (by omega) (by omega) (fun z5 ez5 => ?_)
  show AR _ _ _ _ _ _ _ 16 [(3, .int q), (2, .int z4), (0, .ref 5), (1, .int q)] [.int z5] h _ _
  refine AR.s (pc' := 18) (lv' := [(4, .int z5), (3, .int q), (2, .int z4), (0, .ref 5), (1, .int q)]) (st' := []) (h' := h) _ hn_269 hk_269_16 rfl ?_
  refine AR.s (pc' := 19) (lv' := [(4, .int z5), (3, .int q), (2, .int z4), (0, .ref 5), (1, .int q)]) (st' := [.int z4]) (h' := h) _ hn_269 hk_269_18 rfl ?_
  refine AR.s (pc' := 21) (lv' := [(4, .int z5), (3, .int q), (2, .int z4), (0, .ref 5), (1, .int q)]) (st' := [.int z5, .int z4]) (h' := h) _ hn_269 hk_269_19 rfl ?_
  refine AR.s (pc' := 22) (lv' := [(4, .int z5), (3, .int q), (2, .int z4), (0, .ref 5), (1, .int q)]) (st' := [.int z4, .int z5, .int z4]) (h' := h) _ hn_269 hk_269_21 rfl ?_
  refine AR.iconstT hk_269_22 (by decide) (fun z6 ez6 => ?_)
  show AR _ _ _ _ _ _ _ 23 [(4, .int z5), (3, .int q), (2, .int z4), (0, .ref 5), (1, .int q)] [.int z6, .int z4, .int z5, .int z4] h _ _
  refine AR.s (pc' := 24) (lv' := [(4, .int z5), (3, .int q), (2, .int z4), (0, .ref 5), (1, .int q)]) (st' := [.ref 5, .int z6, .int z4, .int z5, .int z4]) (h' := h) _ hn_269 hk_269_23 rfl ?_
  refine AR.gx hk_269_24 (by decide) (by decide) B.1 (x := .int 0) rfl ?_
  show AR _ _ _ _ _ _ _ 27 [(4, .int z5), (3, .int q), (2, .int z4), (0, .ref 5), (1, .int q)] [.int 0, .int z6, .int z4, .int z5, .int z4] h _ _
  refine AR.shlT hk_269_27 ?_
  show AR _ _ _ _ _ _ _ 28 [(4, .int z5), (3, .int q), (2, .int z4), (0, .ref 5), (1, .int q)] [.int z6, .int z4, .int z5, .int z4] h _ _
  refine AR.addT hk_269_28 (by omega) (by omega) (fun z7 ez7 => ?_)
  show AR _ _ _ _ _ _ _ 29 [(4, .int z5), (3, .int q), (2, .int z4), (0, .ref 5), (1, .int q)] [.int z7, .int z5, .int z4] h _ _
  refine AR.cs (as := [.int z4, .int z5, .int z7]) (rest := []) hk_269_29 (by decide +kernel) rfl rfl (Nat.le_of_ble_eq_true rfl) (hj_nl hlst (by omega) (by omega) (by omega)) (by decide) (Nat.le_refl _) (Nat.le_refl _) (fun E h' q => by obtain ⟨-, x, e, -⟩ := q; cases e) ?_
  rintro w7 h7 ⟨e7, o7, e, ho7⟩
  cases e
  obtain rfl := e7.symm
  show AR _ _ _ _ _ _ _ 32 [(4, .int z5), (3, .int q), (2, .int z4), (0, .ref 5), (1, .int q)] [.int o7] h _ _
  refine AR.s (pc' := 34) (lv' := [(5, .int o7), (4, .int z5), (3, .int q), (2, .int z4), (0, .ref 5), (1, .int q)]) (st' := []) (h' := h) _ hn_269 hk_269_32 rfl ?_
  refine AR.s (pc' := 36) (lv' := [(5, .int o7), (4, .int z5), (3, .int q), (2, .int z4), (0, .ref 5), (1, .int q)]) (st' := [.int o7]) (h' := h) _ hn_269 hk_269_34 rfl ?_
  refine AR.ldcI hk_269_36 (fun z8 ez8 => ?_)
  show AR _ _ _ _ _ _ _ 38 [(5, .int o7), (4, .int z5), (3, .int q), (2, .int z4), (0, .ref 5), (1, .int q)] [.int z8, .int o7] h _ _
  have e8 : (2147483647 : Int32).toInt = 2147483647 := rfl
  refine AR.jne hk_269_38 (tgt := 51) (by decide) (fun p1 => ?_) (fun p2 => ?_)
  · refine AR.s (pc' := 53) (lv' := [(5, .int o7), (4, .int z5), (3, .int q), (2, .int z4), (0, .ref 5), (1, .int q)]) (st' := [.int o7]) (h' := h) _ hn_269 hk_269_51 rfl ?_
    refine AR.s (pc' := 54) (lv' := [(5, .int o7), (4, .int z5), (3, .int q), (2, .int z4), (0, .ref 5), (1, .int q)]) (st' := [.ref 5, .int o7]) (h' := h) _ hn_269 hk_269_53 rfl ?_
    refine AR.gx hk_269_54 (by decide) (by decide) B.1 (x := .int 0) rfl ?_
    show AR _ _ _ _ _ _ _ 57 [(5, .int o7), (4, .int z5), (3, .int q), (2, .int z4), (0, .ref 5), (1, .int q)] [.int 0, .int o7] h _ _
    refine AR.shrT hk_269_57 ?_
    show AR _ _ _ _ _ _ _ 58 [(5, .int o7), (4, .int z5), (3, .int q), (2, .int z4), (0, .ref 5), (1, .int q)] [.int o7] h _ _
    exact AR.iret hk_269_58 hr_269 ⟨rfl, o7, rfl, by omega⟩
  · exact absurd p2 (by omega)
def hq_en (h : ax_H) (L : Nat) (q : Int) (ml : Value) (n : Int32) : ax_Q := fun res h' => res = .inl none ∧ hb_fr h h' ∧ ∃ k bs, hb k bs ml n h' ∧ bs.length = hb_L L q
theorem hj_en (hlst : l.stackTraces = false) (B : hb k bs ml n h) (hbl : bs.length ≤ 700) (h2 : q.toInt ≤ 2 * bs.length + 2) (h3 : 0 ≤ q.toInt) : AM ax_ns l (ax_mm 268) 2 ty_R (hb_c bs.length q.toInt) (hb_m bs.length q.toInt) [.ref 5, .int q] h (hq_en h bs.length q.toInt ml n) := by
  refine AM.of (ax_mfacts (by decide +kernel : ax_has 268 = true)).2.2.2.2.2.2 hlst (by rw [hn_268]; exact Nat.le_of_ble_eq_true rfl) ?_
  by_cases hc : q.toInt ≤ bs.length
  · have e1 : hb_c bs.length q.toInt = 0 := if_pos hc
    have e2 : hb_m bs.length q.toInt = 0 := if_pos hc
    have e3 : hb_L bs.length q.toInt = bs.length := if_pos hc
    rw [e1, e2]
    show AR ax_ns l (ax_mm 268) 2 ty_R _ _ 0 [(0, .ref 5), (1, .int q)] [] h _ _
    refine AR.s (pc' := 1) (lv' := [(0, .ref 5), (1, .int q)]) (st' := [.ref 5]) (h' := h) _ hn_268 hk_268_0 rfl ?_
    refine AR.gx hk_268_1 (by decide) (by decide) B.1 (x := .ref k) rfl ?_
    show AR _ _ _ _ _ _ _ 4 [(0, .ref 5), (1, .int q)] [.ref k] h _ _
    refine AR.alx (t := 0) hk_268_4 B.2.2.2.1 B.2.1 (by omega) (fun z9 ez9 => ?_)
    show AR _ _ _ _ _ _ _ 5 [(0, .ref 5), (1, .int q)] [.int z9] h _ _
    refine AR.s (pc' := 6) (lv' := [(0, .ref 5), (1, .int q)]) (st' := [.ref 5, .int z9]) (h' := h) _ hn_268 hk_268_5 rfl ?_
    refine AR.gx hk_268_6 (by decide) (by decide) B.1 (x := .int 0) rfl ?_
    show AR _ _ _ _ _ _ _ 9 [(0, .ref 5), (1, .int q)] [.int 0, .int z9] h _ _
    refine AR.shrT hk_268_9 ?_
    show AR _ _ _ _ _ _ _ 10 [(0, .ref 5), (1, .int q)] [.int z9] h _ _
    refine AR.s (pc' := 11) (lv' := [(2, .int z9), (0, .ref 5), (1, .int q)]) (st' := []) (h' := h) _ hn_268 hk_268_10 rfl ?_
    refine AR.s (pc' := 12) (lv' := [(2, .int z9), (0, .ref 5), (1, .int q)]) (st' := [.int q]) (h' := h) _ hn_268 hk_268_11 rfl ?_
    refine AR.s (pc' := 13) (lv' := [(2, .int z9), (0, .ref 5), (1, .int q)]) (st' := [.int z9, .int q]) (h' := h) _ hn_268 hk_268_12 rfl ?_
    refine AR.subT hk_268_13 (by omega) (by omega) (fun z10 ez10 => ?_)
    show AR _ _ _ _ _ _ _ 14 [(2, .int z9), (0, .ref 5), (1, .int q)] [.int z10] h _ _
    refine AR.zle hk_268_14 (tgt := 38) (by decide) (fun p1 => ?_) (fun p2 => ?_)
    · exact AR.vret hk_268_38 hr_268 ⟨rfl, hb_fr.refl _, k, bs, B, by omega⟩
    · exact absurd p2 (by omega)
  · have e1 : hb_c bs.length q.toInt = 1 := if_neg hc
    have e2 : hb_m bs.length q.toInt = 2 * bs.length + 2 := if_neg hc
    have e3 : hb_L bs.length q.toInt = 2 * bs.length + 2 := if_neg hc
    rw [e1, e2]
    show AR ax_ns l (ax_mm 268) 2 ty_R _ _ 0 [(0, .ref 5), (1, .int q)] [] h _ _
    refine AR.s (pc' := 1) (lv' := [(0, .ref 5), (1, .int q)]) (st' := [.ref 5]) (h' := h) _ hn_268 hk_268_0 rfl ?_
    refine AR.gx hk_268_1 (by decide) (by decide) B.1 (x := .ref k) rfl ?_
    show AR _ _ _ _ _ _ _ 4 [(0, .ref 5), (1, .int q)] [.ref k] h _ _
    refine AR.alx (t := 0) hk_268_4 B.2.2.2.1 B.2.1 (by omega) (fun z11 ez11 => ?_)
    show AR _ _ _ _ _ _ _ 5 [(0, .ref 5), (1, .int q)] [.int z11] h _ _
    refine AR.s (pc' := 6) (lv' := [(0, .ref 5), (1, .int q)]) (st' := [.ref 5, .int z11]) (h' := h) _ hn_268 hk_268_5 rfl ?_
    refine AR.gx hk_268_6 (by decide) (by decide) B.1 (x := .int 0) rfl ?_
    show AR _ _ _ _ _ _ _ 9 [(0, .ref 5), (1, .int q)] [.int 0, .int z11] h _ _
    refine AR.shrT hk_268_9 ?_
    show AR _ _ _ _ _ _ _ 10 [(0, .ref 5), (1, .int q)] [.int z11] h _ _
    refine AR.s (pc' := 11) (lv' := [(2, .int z11), (0, .ref 5), (1, .int q)]) (st' := []) (h' := h) _ hn_268 hk_268_10 rfl ?_
    refine AR.s (pc' := 12) (lv' := [(2, .int z11), (0, .ref 5), (1, .int q)]) (st' := [.int q]) (h' := h) _ hn_268 hk_268_11 rfl ?_
    refine AR.s (pc' := 13) (lv' := [(2, .int z11), (0, .ref 5), (1, .int q)]) (st' := [.int z11, .int q]) (h' := h) _ hn_268 hk_268_12 rfl ?_
    refine AR.subT hk_268_13 (by omega) (by omega) (fun z12 ez12 => ?_)
    show AR _ _ _ _ _ _ _ 14 [(2, .int z11), (0, .ref 5), (1, .int q)] [.int z12] h _ _
    refine AR.zle hk_268_14 (tgt := 38) (by decide) (fun p1 => ?_) (fun p2 => ?_)
    · exact absurd p1 (by omega)
    · refine AR.s (pc' := 18) (lv' := [(2, .int z11), (0, .ref 5), (1, .int q)]) (st' := [.ref 5]) (h' := h) _ hn_268 hk_268_17 rfl ?_
      refine AR.s (pc' := 19) (lv' := [(2, .int z11), (0, .ref 5), (1, .int q)]) (st' := [.ref 5, .ref 5]) (h' := h) _ hn_268 hk_268_18 rfl ?_
      refine AR.gx hk_268_19 (by decide) (by decide) B.1 (x := .ref k) rfl ?_
      show AR _ _ _ _ _ _ _ 22 [(2, .int z11), (0, .ref 5), (1, .int q)] [.ref k, .ref 5] h _ _
      refine AR.s (pc' := 23) (lv' := [(2, .int z11), (0, .ref 5), (1, .int q)]) (st' := [.ref 5, .ref k, .ref 5]) (h' := h) _ hn_268 hk_268_22 rfl ?_
      refine AR.s (pc' := 24) (lv' := [(2, .int z11), (0, .ref 5), (1, .int q)]) (st' := [.int q, .ref 5, .ref k, .ref 5]) (h' := h) _ hn_268 hk_268_23 rfl ?_
      refine AR.jv (as := [.int q]) (rest := [.ref k, .ref 5]) hk_268_24 hs_268_24 (by decide +kernel) (by decide +kernel) (by decide +kernel) (ax_wk_mem (ix := 9001) (by decide +kernel)) B.1 rfl rfl (Nat.le_of_ble_eq_true rfl) (hj_nc hlst B hbl (by omega) h2) (by decide) (Nat.zero_le _) (Nat.zero_le _) (fun E h' q => by obtain ⟨-, x, e, -⟩ := q; cases e) ?_
      rintro w7 h7 ⟨e7, o7, e, ho7⟩
      cases e
      obtain rfl := e7.symm
      show AR _ _ _ _ _ _ _ 27 [(2, .int z11), (0, .ref 5), (1, .int q)] [.int o7, .ref k, .ref 5] h _ _
      refine AR.s (pc' := 28) (lv' := [(2, .int z11), (0, .ref 5), (1, .int q)]) (st' := [.ref 5, .int o7, .ref k, .ref 5]) (h' := h) _ hn_268 hk_268_27 rfl ?_
      refine AR.gx hk_268_28 (by decide) (by decide) B.1 (x := .int 0) rfl ?_
      show AR _ _ _ _ _ _ _ 31 [(2, .int z11), (0, .ref 5), (1, .int q)] [.int 0, .int o7, .ref k, .ref 5] h _ _
      refine AR.shlT hk_268_31 ?_
      show AR _ _ _ _ _ _ _ 32 [(2, .int z11), (0, .ref 5), (1, .int q)] [.int o7, .ref k, .ref 5] h _ _
      refine AR.cs (as := [.ref k, .int o7]) (rest := [.ref 5]) hk_268_32 (by decide +kernel) rfl rfl (Nat.le_of_ble_eq_true rfl) (hj_cp hlst (N := 2 * bs.length + 2) B.2.2.2.1 B.2.1 B.2.2.2.2 (by omega) (by omega) (by omega)) (by decide) (by omega) (by omega) (fun E h' q => by obtain ⟨_, _, _, _, e⟩ := q; cases e) ?_
      rintro w8 h8 ⟨us, u1, u2, rfl, e⟩
      cases e
      refine AR.px hk_268_35 (by decide) (by decide) (vs := [.ref k, .int 0, ml, .int n]) (by rw [List.getElem?_append_left (List.getElem?_eq_some_iff.mp B.1).1]; exact B.1) (show ax_cls[10]? = some hy_c10 from rfl) rfl rfl ?_
      have hsz : 5 < h.length := (List.getElem?_eq_some_iff.mp B.1).1
      show AR _ _ _ _ _ _ _ 38 [(2, .int z11), (0, .ref 5), (1, .int q)] [] _ _ _
      refine AR.small (fun hsz2 => ?_)
      rw [List.length_set, List.length_append] at hsz2
      refine AR.vret hk_268_38 hr_268 ⟨rfl, hb_fr.trans (hb_fr.pu h _) (hb_fr.s5 _ _), h.length, us, ⟨?_, ?_, by omega, by omega, u2⟩, by omega⟩
      · exact List.getElem?_set_self (by rw [List.length_append]; omega)
      · rw [List.getElem?_set_ne (by omega)]
        exact hy_getl h _
end HJ2
