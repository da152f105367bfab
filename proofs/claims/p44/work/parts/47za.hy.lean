/-! BY HAND, 3: steps over the typed heap -/
theorem hy_lk (q j : Nat) : ty_lk [] q j = ty_tt q j := by
  have e : ty_lk [] q j = (bif ty_ar q then ty_tt q 0 else ty_tt q j) := rfl
  rw [e]
  cases ha : ty_ar q with
  | true => exact (ty_tt_ar ha j).symm
  | false => rfl
theorem hy_300 (j : Nat) : ty_tt 300 j = (7, 0, 0, 0, 0) := by
  have e : ty_tt 300 j = ([(7, 0, 0, 0, 0), (7, 0, 0, 0, 0), (7, 0, 0, 0, 0)] : List ty_V).getD j (7, 0, 0, 0, 0) := rfl
  rw [e]
  rcases j with _ | _ | _ | j <;> rfl
theorem hy_ps {K : Int} {ρ : Nat → Int} {N : Nat} {h : ax_H} (j : Nat) : ty_ps K ρ N h j (ty_lk [] 300 j) := by
  rw [hy_lk, hy_300]
  trivial
abbrev hy_H (K : Int) (h : ax_H) : Prop := ty_H K ty_z 0 [] h
section HY
variable {K : Int} {W q j n : Nat} {h h0 : ax_H} {a z : Int}
theorem hy_cell (hH : hy_H K h) (hq : q < 198) : ∃ vs, h[q]? = some ((ty_tab q).1, vs) ∧ vs.length = (ty_tab q).2.1 ∧ ∀ j x, vs[j]? = some x → ty_r ty_z 0 h (ty_tt q j) x := by
  obtain ⟨vs, e1, e2, e3⟩ := hH.2.1 q hq
  exact ⟨vs, e1, e2, fun j x hx => by
    have := (e3 j x hx).1
    rw [hy_lk] at this
    exact this⟩
theorem hy_at (hH : hy_H K h) (hq : q < 198) (hn : (ty_tab q).2.1 = n) (hj : j < n) : ∃ x vs, h[q]? = some ((ty_tab q).1, vs) ∧ vs.length = n ∧ vs[j]? = some x ∧ ty_fd h q j = some x ∧ ty_r ty_z 0 h (ty_tt q j) x := by
  obtain ⟨vs, e1, e2, e3⟩ := hy_cell hH hq
  have hl : j < vs.length := by omega
  have hx := List.getElem?_eq_getElem hl
  exact ⟨_, vs, e1, by omega, hx, ty_fd_of e1 hx, e3 _ _ hx⟩
theorem hy_int (hH : hy_H K h) (hq : q < 198) (hn : (ty_tab q).2.1 = n) (hj : j < n) (ht : ty_tt q j = (0, 0, 0, a, z)) : ∃ i : Int32, ty_fd h q j = some (.int i) ∧ a ≤ i.toInt ∧ i.toInt ≤ z := by
  obtain ⟨x, vs, e1, e2, e3, e4, e5⟩ := hy_at hH hq hn hj
  rw [ht] at e5
  obtain ⟨i, rfl, h1, h2, -⟩ := e5
  exact ⟨i, e4, h1, h2⟩
theorem hy_long (hH : hy_H K h) (hq : q < 198) (hn : (ty_tab q).2.1 = n) (hj : j < n) (ht : ty_tt q j = (1, 0, 0, a, z)) : ∃ i : Int64, ty_fd h q j = some (.long i) ∧ a ≤ i.toInt ∧ i.toInt ≤ z := by
  obtain ⟨x, vs, e1, e2, e3, e4, e5⟩ := hy_at hH hq hn hj
  rw [ht] at e5
  obtain ⟨i, rfl, h1, h2, -⟩ := e5
  exact ⟨i, e4, h1, h2⟩
/-- the heap behind a store -/
theorem hy_put {x : Value} {vs : List Value} {tag : Nat} (hH : hy_H K h) (hF : ty_F W h0 h) (hq : q < 198) (hg : h[q]? = some (tag, vs)) (ht : tag ≠ 103) (hj : j < vs.length) (hx : ty_r ty_z 0 h (ty_tt q j) x) (hw : ty_wr W q (bif ty_ar q then 0 else j) = true) :
    hy_H K (h.set q (tag, vs.set j x)) ∧ ty_F W h0 (h.set q (tag, vs.set j x)) ∧ ty_F W h (h.set q (tag, vs.set j x)) ∧ ∀ q' j', ty_fd (h.set q (tag, vs.set j x)) q' j' = if q' = q ∧ j' = j then some x else ty_fd h q' j' := by
  have hl : 198 ≤ h.length := hH.1
  have hF2 : ty_F W h (h.set q (tag, vs.set j x)) := by
    cases ha : ty_ar q with
    | true => rw [ha] at hw; exact ty_F.setA hq hl hg ht ha hw
    | false => rw [ha] at hw; exact ty_F.set hq hl hg ht hw
  refine ⟨ty_H.set hH hq hg (fun _ _ _ _ => Or.inr (Or.inl rfl)) (by rw [hy_lk]; exact hx) (fun _ => hx) (fun j' => hy_ps j'), ty_F.trans hF hF2, hF2, fun q' j' => ?_⟩
  rw [ty_fd_set (by omega)]
  by_cases e : q' = q
  · subst e
    rw [if_pos rfl]
    by_cases e2 : j' = j
    · subst e2
      rw [if_pos ⟨rfl, rfl⟩]
      exact List.getElem?_set_self hj
    · rw [if_neg (fun c => e2 c.2), List.getElem?_set_ne (Ne.symm e2)]
      unfold ty_fd
      rw [hg]
      rfl
  · rw [if_neg e, if_neg (fun c => e c.1)]
end HY
section HYR
variable {l : Launch} {d i pc : Nat} {P : ax_P} {X : ax_PX} {lv : List (Nat × Value)} {st : List Value} {h h0 : ax_H} {bc bs : Nat} {K : Int} {W q n : Nat} {a z : Int} {ix t0 f c : Nat} {v : Value} {ws : List Nat}
theorem AR.gx {vs : List Value} {x : Value} (hl : ax_look i pc = some (.getfield ix, (t0, f, c), v, ws)) (h9 : t0 ≠ 900) (hq : q < 1000000000) (hg : h[q]? = some (t0, vs)) (hv : vs[f]? = some x) (k : AR ax_ns l (ax_mm i) d ty_R P X (pc + 3) lv (x :: st) h bc bs) : AR ax_ns l (ax_mm i) d ty_R P X pc lv (.ref q :: st) h bc bs := by
  refine AR.s _ rfl hl ?_ k
  have hn : ¬ (t0 = 900 ∨ ¬ True) := fun e => e.elim h9 (fun e2 => e2 trivial)
  simp only [ax_one, ax_get_lt hq, hg, hv]
  rw [if_neg hn]
  rfl
theorem AR.px {vs : List Value} {x : Value} {cl : ax_Cl} (hl : ax_look i pc = some (.putfield ix, (t0, f, c), v, ws)) (h9 : t0 ≠ 900) (hq : q < 1000000000) (hg : h[q]? = some (t0, vs)) (hc : ax_cls[t0]? = some cl) (hn : vs.length = cl.2.2.1) (hf : ax_fit (cl.2.2.2 f) x = true) (k : AR ax_ns l (ax_mm i) d ty_R P X (pc + 3) lv st (h.set q (t0, vs.set f x)) bc bs) : AR ax_ns l (ax_mm i) d ty_R P X pc lv (x :: .ref q :: st) h bc bs := by
  refine AR.s _ rfl hl ?_ k
  have hn : ¬ (t0 = 900 ∨ ¬ True ∨ ¬ q < 1000000000 ∨ ¬ vs.length = cl.2.2.1 ∨ ax_fit (cl.2.2.2 f) x = false) := by
    rintro (e | e | e | e | e)
    · exact h9 e
    · exact e trivial
    · exact e hq
    · exact e hn
    · rw [hf] at e; cases e
  simp only [ax_one, hg, hc, ax_hs_eq]
  rw [if_neg hn]
  rfl
theorem AR.iax {j : Int32} {vs : List Value} {x : Value} {w : Nat × Nat × Nat} (hl : ax_look i pc = some (.iaload, w, v, ws)) (hq : q < 1000000000) (hg : h[q]? = some (100, vs)) (h0 : ¬ j < 0) (hv : vs[j.toNatClampNeg]? = some x) (k : AR ax_ns l (ax_mm i) d ty_R P X (pc + 1) lv (x :: st) h bc bs) : AR ax_ns l (ax_mm i) d ty_R P X pc lv (.int j :: .ref q :: st) h bc bs := by
  refine AR.s _ rfl hl ?_ k
  simp only [ax_one, ax_get_lt hq, hg, if_neg h0, hv]
  rfl
theorem AR.lax {j : Int32} {vs : List Value} {x : Value} {w : Nat × Nat × Nat} (hl : ax_look i pc = some (.laload, w, v, ws)) (hq : q < 1000000000) (hg : h[q]? = some (101, vs)) (h0 : ¬ j < 0) (hv : vs[j.toNatClampNeg]? = some x) (k : AR ax_ns l (ax_mm i) d ty_R P X (pc + 1) lv (x :: st) h bc bs) : AR ax_ns l (ax_mm i) d ty_R P X pc lv (.int j :: .ref q :: st) h bc bs := by
  refine AR.s _ rfl hl ?_ k
  simp only [ax_one, ax_get_lt hq, hg, if_neg h0, hv]
  rfl
theorem AR.zax {j : Int32} {vs : List Value} {x : Value} {w : Nat × Nat × Nat} (hl : ax_look i pc = some (.baload, w, v, ws)) (hq : q < 1000000000) (hg : h[q]? = some (102, vs)) (h0 : ¬ j < 0) (hv : vs[j.toNatClampNeg]? = some x) (k : AR ax_ns l (ax_mm i) d ty_R P X (pc + 1) lv (x :: st) h bc bs) : AR ax_ns l (ax_mm i) d ty_R P X pc lv (.int j :: .ref q :: st) h bc bs := by
  refine AR.s _ rfl hl ?_ k
  simp only [ax_one, ax_get_lt hq, hg, if_neg h0, hv]
  rfl
theorem AR.isx {j : Int32} {vs : List Value} {x : Value} {w : Nat × Nat × Nat} (hl : ax_look i pc = some (.iastore, w, v, ws)) (hq : q < 1000000000) (hg : h[q]? = some (100, vs)) (h0 : ¬ j < 0) (hv : j.toNatClampNeg < vs.length) (hx : ax_isI x = true) (k : AR ax_ns l (ax_mm i) d ty_R P X (pc + 1) lv st (h.set q (100, vs.set j.toNatClampNeg x)) bc bs) : AR ax_ns l (ax_mm i) d ty_R P X pc lv (x :: .int j :: .ref q :: st) h bc bs := by
  refine AR.s _ rfl hl ?_ k
  have hc : ¬ j < 0 ∧ j.toNatClampNeg < vs.length ∧ q < 1000000000 ∧ ax_isI x = true := ⟨h0, hv, hq, hx⟩
  simp only [ax_one, hg, if_pos hc, ax_hs_eq]
  rfl
theorem AR.lsx {j : Int32} {vs : List Value} {x : Value} {w : Nat × Nat × Nat} (hl : ax_look i pc = some (.lastore, w, v, ws)) (hq : q < 1000000000) (hg : h[q]? = some (101, vs)) (h0 : ¬ j < 0) (hv : j.toNatClampNeg < vs.length) (hx : ax_isL x = true) (k : AR ax_ns l (ax_mm i) d ty_R P X (pc + 1) lv st (h.set q (101, vs.set j.toNatClampNeg x)) bc bs) : AR ax_ns l (ax_mm i) d ty_R P X pc lv (x :: .int j :: .ref q :: st) h bc bs := by
  refine AR.s _ rfl hl ?_ k
  have hc : ¬ j < 0 ∧ j.toNatClampNeg < vs.length ∧ q < 1000000000 ∧ ax_isL x = true := ⟨h0, hv, hq, hx⟩
  simp only [ax_one, hg, if_pos hc, ax_hs_eq]
  rfl
theorem AR.zsx {j : Int32} {vs : List Value} {x : Value} {w : Nat × Nat × Nat} (hl : ax_look i pc = some (.bastore, w, v, ws)) (hq : q < 1000000000) (hg : h[q]? = some (102, vs)) (h0 : ¬ j < 0) (hv : j.toNatClampNeg < vs.length) (hx : ax_fit .boolean x = true) (k : AR ax_ns l (ax_mm i) d ty_R P X (pc + 1) lv st (h.set q (102, vs.set j.toNatClampNeg x)) bc bs) : AR ax_ns l (ax_mm i) d ty_R P X pc lv (x :: .int j :: .ref q :: st) h bc bs := by
  refine AR.s _ rfl hl ?_ k
  have hc : ¬ j < 0 ∧ j.toNatClampNeg < vs.length ∧ q < 1000000000 ∧ ax_fit .boolean x = true := ⟨h0, hv, hq, hx⟩
  simp only [ax_one, hg, if_pos hc, ax_hs_eq]
  rfl
-- typed
theorem hy_nn {j : Int32} (hj : 0 ≤ j.toInt) : ¬ j < 0 ∧ (j.toNatClampNeg : Int) = j.toInt := by
  refine ⟨fun e => ?_, ?_⟩
  · rw [Int32.lt_iff_toInt_lt] at e
    have : (0 : Int32).toInt = 0 := rfl
    omega
  · show ((j.toInt.toNat : Nat) : Int) = j.toInt
    omega
/-- an int field -/
theorem AR.gI (hl : ax_look i pc = some (.getfield ix, (t0, f, c), v, ws)) (h9 : t0 ≠ 900) (hH : hy_H K h) (hq : q < 198) (ht : (ty_tab q).1 = t0) (hn : (ty_tab q).2.1 = n) (hf : f < n) (hy : ty_tt q f = (0, 0, 0, a, z)) (k : ∀ x : Int32, ty_fd h q f = some (.int x) → a ≤ x.toInt → x.toInt ≤ z → AR ax_ns l (ax_mm i) d ty_R P X (pc + 3) lv (.int x :: st) h bc bs) : AR ax_ns l (ax_mm i) d ty_R P X pc lv (.ref q :: st) h bc bs := by
  obtain ⟨x, vs, e1, e2, e3, e4, e5⟩ := hy_at hH hq hn hf
  rw [hy] at e5
  obtain ⟨x, rfl, h1, h2, -⟩ := e5
  rw [ht] at e1
  exact AR.gx hl h9 (by omega) e1 e3 (k x e4 h1 h2)
theorem AR.gL (hl : ax_look i pc = some (.getfield ix, (t0, f, c), v, ws)) (h9 : t0 ≠ 900) (hH : hy_H K h) (hq : q < 198) (ht : (ty_tab q).1 = t0) (hn : (ty_tab q).2.1 = n) (hf : f < n) (hy : ty_tt q f = (1, 0, 0, a, z)) (k : ∀ x : Int64, ty_fd h q f = some (.long x) → a ≤ x.toInt → x.toInt ≤ z → AR ax_ns l (ax_mm i) d ty_R P X (pc + 3) lv (.long x :: st) h bc bs) : AR ax_ns l (ax_mm i) d ty_R P X pc lv (.ref q :: st) h bc bs := by
  obtain ⟨x, vs, e1, e2, e3, e4, e5⟩ := hy_at hH hq hn hf
  rw [hy] at e5
  obtain ⟨x, rfl, h1, h2, -⟩ := e5
  rw [ht] at e1
  exact AR.gx hl h9 (by omega) e1 e3 (k x e4 h1 h2)
theorem AR.gR {p : Nat} {y : Int × Int × Int} (hl : ax_look i pc = some (.getfield ix, (t0, f, c), v, ws)) (h9 : t0 ≠ 900) (hH : hy_H K h) (hq : q < 198) (ht : (ty_tab q).1 = t0) (hn : (ty_tab q).2.1 = n) (hf : f < n) (hy : ty_tt q f = (2, p, y)) (k : AR ax_ns l (ax_mm i) d ty_R P X (pc + 3) lv (.ref p :: st) h bc bs) : AR ax_ns l (ax_mm i) d ty_R P X pc lv (.ref q :: st) h bc bs := by
  obtain ⟨x, vs, e1, e2, e3, e4, e5⟩ := hy_at hH hq hn hf
  rw [hy] at e5
  cases (show x = .ref p from e5)
  rw [ht] at e1
  exact AR.gx hl h9 (by omega) e1 e3 k
theorem AR.iaI {j : Int32} {w : Nat × Nat × Nat} (hl : ax_look i pc = some (.iaload, w, v, ws)) (hH : hy_H K h) (hq : q < 198) (ht : (ty_tab q).1 = 100) (ha : ty_ar q = true) (hn : (ty_tab q).2.1 = n) (hy : ty_tt q 0 = (0, 0, 0, a, z)) (h0 : 0 ≤ j.toInt) (h1 : j.toInt < n) (k : ∀ x : Int32, ty_fd h q j.toNatClampNeg = some (.int x) → a ≤ x.toInt → x.toInt ≤ z → AR ax_ns l (ax_mm i) d ty_R P X (pc + 1) lv (.int x :: st) h bc bs) : AR ax_ns l (ax_mm i) d ty_R P X pc lv (.int j :: .ref q :: st) h bc bs := by
  obtain ⟨n1, n2⟩ := hy_nn h0
  obtain ⟨x, vs, e1, e2, e3, e4, e5⟩ := hy_at (j := j.toNatClampNeg) hH hq hn (by omega)
  rw [ty_tt_ar ha, hy] at e5
  obtain ⟨x, rfl, h1, h2, -⟩ := e5
  rw [ht] at e1
  exact AR.iax hl (by omega) e1 n1 e3 (k x e4 h1 h2)
theorem AR.laI {j : Int32} {w : Nat × Nat × Nat} (hl : ax_look i pc = some (.laload, w, v, ws)) (hH : hy_H K h) (hq : q < 198) (ht : (ty_tab q).1 = 101) (ha : ty_ar q = true) (hn : (ty_tab q).2.1 = n) (hy : ty_tt q 0 = (1, 0, 0, a, z)) (h0 : 0 ≤ j.toInt) (h1 : j.toInt < n) (k : ∀ x : Int64, ty_fd h q j.toNatClampNeg = some (.long x) → a ≤ x.toInt → x.toInt ≤ z → AR ax_ns l (ax_mm i) d ty_R P X (pc + 1) lv (.long x :: st) h bc bs) : AR ax_ns l (ax_mm i) d ty_R P X pc lv (.int j :: .ref q :: st) h bc bs := by
  obtain ⟨n1, n2⟩ := hy_nn h0
  obtain ⟨x, vs, e1, e2, e3, e4, e5⟩ := hy_at (j := j.toNatClampNeg) hH hq hn (by omega)
  rw [ty_tt_ar ha, hy] at e5
  obtain ⟨x, rfl, h1, h2, -⟩ := e5
  rw [ht] at e1
  exact AR.lax hl (by omega) e1 n1 e3 (k x e4 h1 h2)
/-- what is known behind a store -/
def hy_S (K : Int) (W : Nat) (h0 h : ax_H) (q j : Nat) (x : Value) (h' : ax_H) : Prop := hy_H K h' ∧ ty_F W h0 h' ∧ ty_F W h h' ∧ ∀ q' j', ty_fd h' q' j' = if q' = q ∧ j' = j then some x else ty_fd h q' j'
theorem AR.pT {x : Value} {cl : ax_Cl} (hl : ax_look i pc = some (.putfield ix, (t0, f, c), v, ws)) (h9 : t0 < 100) (hH : hy_H K h) (hF : ty_F W h0 h) (hq : q < 198) (ht : (ty_tab q).1 = t0) (hc : ax_cls[t0]? = some cl) (hn : (ty_tab q).2.1 = cl.2.2.1) (hf : f < cl.2.2.1) (hfit : ax_fit (cl.2.2.2 f) x = true) (hx : ty_r ty_z 0 h (ty_tt q f) x) (ha : ty_ar q = false) (hw : ty_wr W q f = true) (k : ∀ h', hy_S K W h0 h q f x h' → AR ax_ns l (ax_mm i) d ty_R P X (pc + 3) lv st h' bc bs) : AR ax_ns l (ax_mm i) d ty_R P X pc lv (x :: .ref q :: st) h bc bs := by
  obtain ⟨vs, e1, e2, -⟩ := hy_cell hH hq
  rw [ht] at e1
  exact AR.px hl (by omega) (by omega) e1 hc (by omega) hfit (k _ (hy_put hH hF hq e1 (by omega) (by omega) hx (by rw [ha]; exact hw)))
theorem AR.isT {j x : Int32} {w : Nat × Nat × Nat} (hl : ax_look i pc = some (.iastore, w, v, ws)) (hH : hy_H K h) (hF : ty_F W h0 h) (hq : q < 198) (ht : (ty_tab q).1 = 100) (ha : ty_ar q = true) (hn : (ty_tab q).2.1 = n) (hy : ty_tt q 0 = (0, 0, 0, a, z)) (hj0 : 0 ≤ j.toInt) (hj1 : j.toInt < n) (hx0 : a ≤ x.toInt) (hx1 : x.toInt ≤ z) (hw : ty_wr W q 0 = true) (k : ∀ h', hy_S K W h0 h q j.toNatClampNeg (.int x) h' → AR ax_ns l (ax_mm i) d ty_R P X (pc + 1) lv st h' bc bs) : AR ax_ns l (ax_mm i) d ty_R P X pc lv (.int x :: .int j :: .ref q :: st) h bc bs := by
  obtain ⟨n1, n2⟩ := hy_nn hj0
  obtain ⟨vs, e1, e2, -⟩ := hy_cell hH hq
  rw [ht] at e1
  exact AR.isx hl (by omega) e1 n1 (by omega) rfl (k _ (hy_put hH hF hq e1 (by decide) (by omega) (by rw [ty_tt_ar ha, hy]; exact ⟨x, rfl, hx0, hx1, Or.inl rfl⟩) (by rw [ha]; exact hw)))
theorem AR.lsT {j : Int32} {x : Int64} {w : Nat × Nat × Nat} (hl : ax_look i pc = some (.lastore, w, v, ws)) (hH : hy_H K h) (hF : ty_F W h0 h) (hq : q < 198) (ht : (ty_tab q).1 = 101) (ha : ty_ar q = true) (hn : (ty_tab q).2.1 = n) (hy : ty_tt q 0 = (1, 0, 0, a, z)) (hj0 : 0 ≤ j.toInt) (hj1 : j.toInt < n) (hx0 : a ≤ x.toInt) (hx1 : x.toInt ≤ z) (hw : ty_wr W q 0 = true) (k : ∀ h', hy_S K W h0 h q j.toNatClampNeg (.long x) h' → AR ax_ns l (ax_mm i) d ty_R P X (pc + 1) lv st h' bc bs) : AR ax_ns l (ax_mm i) d ty_R P X pc lv (.long x :: .int j :: .ref q :: st) h bc bs := by
  obtain ⟨n1, n2⟩ := hy_nn hj0
  obtain ⟨vs, e1, e2, -⟩ := hy_cell hH hq
  rw [ht] at e1
  exact AR.lsx hl (by omega) e1 n1 (by omega) rfl (k _ (hy_put hH hF hq e1 (by decide) (by omega) (by rw [ty_tt_ar ha, hy]; exact ⟨x, rfl, hx0, hx1, Or.inl rfl⟩) (by rw [ha]; exact hw)))
end HYR
section HYA
variable {l : Launch} {d i pc : Nat} {P : ax_P} {X : ax_PX} {lv : List (Nat × Value)} {st : List Value} {h h0 : ax_H} {bc bs : Nat} {x y : Int32} {v : Value} {ws : List Nat} {w : Nat × Nat × Nat}
theorem hy_bm {a : Int} (h1 : -2147483648 ≤ a) (h2 : a ≤ 2147483647) : a.bmod (2 ^ 32) = a := Int.bmod_eq_of_le (by omega) (by omega)
theorem AR.addT (hl : ax_look i pc = some (.iadd, w, v, ws)) (h1 : -2147483648 ≤ x.toInt + y.toInt) (h2 : x.toInt + y.toInt ≤ 2147483647) (k : ∀ z : Int32, z.toInt = x.toInt + y.toInt → AR ax_ns l (ax_mm i) d ty_R P X (pc + 1) lv (.int z :: st) h bc bs) : AR ax_ns l (ax_mm i) d ty_R P X pc lv (.int y :: .int x :: st) h bc bs :=
  AR.s _ rfl hl rfl (k (x + y) (by rw [Int32.toInt_add]; exact hy_bm h1 h2))
theorem AR.subT (hl : ax_look i pc = some (.isub, w, v, ws)) (h1 : -2147483648 ≤ x.toInt - y.toInt) (h2 : x.toInt - y.toInt ≤ 2147483647) (k : ∀ z : Int32, z.toInt = x.toInt - y.toInt → AR ax_ns l (ax_mm i) d ty_R P X (pc + 1) lv (.int z :: st) h bc bs) : AR ax_ns l (ax_mm i) d ty_R P X pc lv (.int y :: .int x :: st) h bc bs :=
  AR.s _ rfl hl rfl (k (x - y) (by rw [Int32.toInt_sub]; exact hy_bm h1 h2))
theorem AR.mulT (hl : ax_look i pc = some (.imul, w, v, ws)) (h1 : -2147483648 ≤ x.toInt * y.toInt) (h2 : x.toInt * y.toInt ≤ 2147483647) (k : ∀ z : Int32, z.toInt = x.toInt * y.toInt → AR ax_ns l (ax_mm i) d ty_R P X (pc + 1) lv (.int z :: st) h bc bs) : AR ax_ns l (ax_mm i) d ty_R P X pc lv (.int y :: .int x :: st) h bc bs :=
  AR.s _ rfl hl rfl (k (x * y) (by rw [Int32.toInt_mul]; exact hy_bm h1 h2))
theorem hy_ne0 {y : Int32} (hy : y.toInt = 2) : ¬ y = 0 := fun e => by
  rw [e] at hy
  exact absurd hy (by decide)
theorem hy_hf {x y : Int32} (hy : y.toInt = 2) (hx : 0 ≤ x.toInt) : (x / y).toInt = x.toInt / 2 := by
  have h1 : (x / y).toInt = x.toInt.tdiv y.toInt := Int32.toInt_div_of_ne_right _ _ (fun e => by
    rw [e] at hy
    exact absurd hy (by decide))
  rw [h1, hy, Int.tdiv_eq_ediv_of_nonneg hx]
theorem AR.halfT (hl : ax_look i pc = some (.idiv, w, v, ws)) (hy : y.toInt = 2) (hx : 0 ≤ x.toInt) (k : ∀ z : Int32, z.toInt = x.toInt / 2 → AR ax_ns l (ax_mm i) d ty_R P X (pc + 1) lv (.int z :: st) h bc bs) : AR ax_ns l (ax_mm i) d ty_R P X pc lv (.int y :: .int x :: st) h bc bs :=
  AR.s (pc' := pc + 1) (lv' := lv) (st' := .int (x / y) :: st) (h' := h) _ rfl hl (by simp only [ax_one, ax_d2, if_neg (hy_ne0 hy), ax_b2]; rfl) (k (x / y) (hy_hf hy hx))
theorem AR.parT (hl : ax_look i pc = some (.irem, w, v, ws)) (hy : y.toInt = 2) (hx : 0 ≤ x.toInt) (k : ∀ z : Int32, z.toInt = x.toInt % 2 → AR ax_ns l (ax_mm i) d ty_R P X (pc + 1) lv (.int z :: st) h bc bs) : AR ax_ns l (ax_mm i) d ty_R P X pc lv (.int y :: .int x :: st) h bc bs := by
  refine AR.s (pc' := pc + 1) (lv' := lv) (st' := .int (x - x / y * y) :: st) (h' := h) _ rfl hl (by simp only [ax_one, ax_d2, if_neg (hy_ne0 hy), ax_b2]; rfl) (k _ ?_)
  have h1 := hy_hf hy hx
  have h2 := Int32.toInt_lt x
  rw [Int32.toInt_sub, Int32.toInt_mul, h1, hy, hy_bm (a := x.toInt / 2 * 2) (by omega) (by omega), hy_bm (by omega) (by omega)]
  omega
theorem AR.iconstT {n : Int} (hl : ax_look i pc = some (.iconst n, w, v, ws)) (hn : (Int32.ofInt n).toInt = n) (k : ∀ z : Int32, z.toInt = n → AR ax_ns l (ax_mm i) d ty_R P X (pc + 1) lv (.int z :: st) h bc bs) : AR ax_ns l (ax_mm i) d ty_R P X pc lv st h bc bs := AR.s _ rfl hl rfl (k _ hn)
theorem AR.bipushT {n : Int} (hl : ax_look i pc = some (.bipush n, w, v, ws)) (hn : (Int8.ofInt n).toInt32.toInt = n) (k : ∀ z : Int32, z.toInt = n → AR ax_ns l (ax_mm i) d ty_R P X (pc + 2) lv (.int z :: st) h bc bs) : AR ax_ns l (ax_mm i) d ty_R P X pc lv st h bc bs := AR.s _ rfl hl rfl (k _ hn)
theorem AR.iincT {j : Nat} {n : Int} (hl : ax_look i pc = some (.iinc j n, w, v, ws)) (hj : ax_at lv j = some (.int x)) (hm : j < (ax_mm i).2.2.1) (hn : (Int32.ofInt n).toInt = n) (h1 : -2147483648 ≤ x.toInt + n) (h2 : x.toInt + n ≤ 2147483647) (k : ∀ z : Int32, z.toInt = x.toInt + n → AR ax_ns l (ax_mm i) d ty_R P X (pc + 3) (ax_s1 j (.int z) lv) st h bc bs) : AR ax_ns l (ax_mm i) d ty_R P X pc lv st h bc bs := by
  refine AR.s (pc' := pc + 3) (lv' := ax_s1 j (.int (x + Int32.ofInt n)) lv) (st' := st) (h' := h) _ rfl hl ?_ (k _ ?_)
  · simp only [ax_one, hj, ax_b2, if_pos hm, ax_fv_eq, ax_fl1_eq]
    rfl
  · rw [Int32.toInt_add, hn]
    exact hy_bm h1 h2
variable {off : Int} {tgt : Nat}
theorem hy0 : (0 : Int32).toInt = 0 := rfl
theorem AR.jge (hl : ax_look i pc = some (.if_icmp .ge off, w, v, ws)) (ht : (pc : Int) + off = (tgt : Int)) (kt : y.toInt ≤ x.toInt → AR ax_ns l (ax_mm i) d ty_R P X tgt lv st h bc bs) (kf : x.toInt < y.toInt → AR ax_ns l (ax_mm i) d ty_R P X (pc + 3) lv st h bc bs) : AR ax_ns l (ax_mm i) d ty_R P X pc lv (.int y :: .int x :: st) h bc bs :=
  AR.icmp_ge (ax_look_ok hl).1 ht (fun e => kt (Int32.le_iff_toInt_le.mp e)) (fun e => kf (Int.not_le.mp (fun z => e (Int32.le_iff_toInt_le.mpr z))))
theorem AR.jgt (hl : ax_look i pc = some (.if_icmp .gt off, w, v, ws)) (ht : (pc : Int) + off = (tgt : Int)) (kt : y.toInt < x.toInt → AR ax_ns l (ax_mm i) d ty_R P X tgt lv st h bc bs) (kf : x.toInt ≤ y.toInt → AR ax_ns l (ax_mm i) d ty_R P X (pc + 3) lv st h bc bs) : AR ax_ns l (ax_mm i) d ty_R P X pc lv (.int y :: .int x :: st) h bc bs :=
  AR.icmp_gt (ax_look_ok hl).1 ht (fun e => kt (Int32.lt_iff_toInt_lt.mp e)) (fun e => kf (Int.not_lt.mp (fun z => e (Int32.lt_iff_toInt_lt.mpr z))))
theorem AR.jle (hl : ax_look i pc = some (.if_icmp .le off, w, v, ws)) (ht : (pc : Int) + off = (tgt : Int)) (kt : x.toInt ≤ y.toInt → AR ax_ns l (ax_mm i) d ty_R P X tgt lv st h bc bs) (kf : y.toInt < x.toInt → AR ax_ns l (ax_mm i) d ty_R P X (pc + 3) lv st h bc bs) : AR ax_ns l (ax_mm i) d ty_R P X pc lv (.int y :: .int x :: st) h bc bs :=
  AR.icmp_le (ax_look_ok hl).1 ht (fun e => kt (Int32.le_iff_toInt_le.mp e)) (fun e => kf (Int.not_le.mp (fun z => e (Int32.le_iff_toInt_le.mpr z))))
theorem AR.jne (hl : ax_look i pc = some (.if_icmp .ne off, w, v, ws)) (ht : (pc : Int) + off = (tgt : Int)) (kt : x.toInt ≠ y.toInt → AR ax_ns l (ax_mm i) d ty_R P X tgt lv st h bc bs) (kf : x.toInt = y.toInt → AR ax_ns l (ax_mm i) d ty_R P X (pc + 3) lv st h bc bs) : AR ax_ns l (ax_mm i) d ty_R P X pc lv (.int y :: .int x :: st) h bc bs :=
  AR.icmp_ne (ax_look_ok hl).1 ht (fun e => kt (fun z => e (Int32.toInt_inj.mp z))) (fun e => kf (by rw [e]))
theorem AR.zeq (hl : ax_look i pc = some (.ifCond .eq off, w, v, ws)) (ht : (pc : Int) + off = (tgt : Int)) (kt : x.toInt = 0 → AR ax_ns l (ax_mm i) d ty_R P X tgt lv st h bc bs) (kf : x.toInt ≠ 0 → AR ax_ns l (ax_mm i) d ty_R P X (pc + 3) lv st h bc bs) : AR ax_ns l (ax_mm i) d ty_R P X pc lv (.int x :: st) h bc bs :=
  AR.if_eq (ax_look_ok hl).1 ht (fun e => kt (by rw [e]; rfl)) (fun e => kf (fun z => e (Int32.toInt_inj.mp (by rw [z]; rfl))))
theorem AR.zne (hl : ax_look i pc = some (.ifCond .ne off, w, v, ws)) (ht : (pc : Int) + off = (tgt : Int)) (kt : x.toInt ≠ 0 → AR ax_ns l (ax_mm i) d ty_R P X tgt lv st h bc bs) (kf : x.toInt = 0 → AR ax_ns l (ax_mm i) d ty_R P X (pc + 3) lv st h bc bs) : AR ax_ns l (ax_mm i) d ty_R P X pc lv (.int x :: st) h bc bs :=
  AR.if_ne (ax_look_ok hl).1 ht (fun e => kt (fun z => e (Int32.toInt_inj.mp (by rw [z]; rfl)))) (fun e => kf (by rw [e]; rfl))
theorem AR.zge (hl : ax_look i pc = some (.ifCond .ge off, w, v, ws)) (ht : (pc : Int) + off = (tgt : Int)) (kt : 0 ≤ x.toInt → AR ax_ns l (ax_mm i) d ty_R P X tgt lv st h bc bs) (kf : x.toInt < 0 → AR ax_ns l (ax_mm i) d ty_R P X (pc + 3) lv st h bc bs) : AR ax_ns l (ax_mm i) d ty_R P X pc lv (.int x :: st) h bc bs :=
  AR.if_ge (ax_look_ok hl).1 ht (fun e => kt (by have := Int32.le_iff_toInt_le.mp e; rwa [hy0] at this)) (fun e => kf (Int.not_le.mp (fun z => e (Int32.le_iff_toInt_le.mpr (by rw [hy0]; exact z)))))
theorem AR.zlt (hl : ax_look i pc = some (.ifCond .lt off, w, v, ws)) (ht : (pc : Int) + off = (tgt : Int)) (kt : x.toInt < 0 → AR ax_ns l (ax_mm i) d ty_R P X tgt lv st h bc bs) (kf : 0 ≤ x.toInt → AR ax_ns l (ax_mm i) d ty_R P X (pc + 3) lv st h bc bs) : AR ax_ns l (ax_mm i) d ty_R P X pc lv (.int x :: st) h bc bs :=
  AR.if_lt (ax_look_ok hl).1 ht (fun e => kt (by have := Int32.lt_iff_toInt_lt.mp e; rwa [hy0] at this)) (fun e => kf (Int.not_lt.mp (fun z => e (Int32.lt_iff_toInt_lt.mpr (by rw [hy0]; exact z)))))
theorem AR.zle (hl : ax_look i pc = some (.ifCond .le off, w, v, ws)) (ht : (pc : Int) + off = (tgt : Int)) (kt : x.toInt ≤ 0 → AR ax_ns l (ax_mm i) d ty_R P X tgt lv st h bc bs) (kf : 0 < x.toInt → AR ax_ns l (ax_mm i) d ty_R P X (pc + 3) lv st h bc bs) : AR ax_ns l (ax_mm i) d ty_R P X pc lv (.int x :: st) h bc bs :=
  AR.if_le (ax_look_ok hl).1 ht (fun e => kt (by have := Int32.le_iff_toInt_le.mp e; rwa [hy0] at this)) (fun e => kf (Int.not_le.mp (fun z => e (Int32.le_iff_toInt_le.mpr (by rw [hy0]; exact z)))))
theorem AR.zgt (hl : ax_look i pc = some (.ifCond .gt off, w, v, ws)) (ht : (pc : Int) + off = (tgt : Int)) (kt : 0 < x.toInt → AR ax_ns l (ax_mm i) d ty_R P X tgt lv st h bc bs) (kf : x.toInt ≤ 0 → AR ax_ns l (ax_mm i) d ty_R P X (pc + 3) lv st h bc bs) : AR ax_ns l (ax_mm i) d ty_R P X pc lv (.int x :: st) h bc bs :=
  AR.if_gt (ax_look_ok hl).1 ht (fun e => kt (by have := Int32.lt_iff_toInt_lt.mp e; rwa [hy0] at this)) (fun e => kf (Int.not_lt.mp (fun z => e (Int32.lt_iff_toInt_lt.mpr (by rw [hy0]; exact z)))))
theorem AR.gotoT (hl : ax_look i pc = some (.goto off, w, v, ws)) (ht : (pc : Int) + off = (tgt : Int)) (k : AR ax_ns l (ax_mm i) d ty_R P X tgt lv st h bc bs) : AR ax_ns l (ax_mm i) d ty_R P X pc lv st h bc bs := AR.goto (ax_look_ok hl).1 ht k
theorem AR.lcmpT {x y : Int64} (hl : ax_look i pc = some (.lcmp, w, v, ws)) (k : ∀ z : Int32, (x.toInt < y.toInt → z.toInt = -1) ∧ (x.toInt = y.toInt → z.toInt = 0) ∧ (y.toInt < x.toInt → z.toInt = 1) → AR ax_ns l (ax_mm i) d ty_R P X (pc + 1) lv (.int z :: st) h bc bs) : AR ax_ns l (ax_mm i) d ty_R P X pc lv (.long y :: .long x :: st) h bc bs := by
  obtain ⟨c1, c2, c3⟩ := @ty_cmp x y
  refine AR.s _ rfl hl rfl (k _ ⟨fun e => ?_, fun e => ?_, fun e => ?_⟩)
  · rw [c1 e]; rfl
  · rw [c2 e]; rfl
  · rw [c3 e]; rfl
theorem AR.addsT {x y : Int64} (hl : ax_look i pc = some (.ladd, w, v, ws)) (k : ∀ z : Int64, AR ax_ns l (ax_mm i) d ty_R P X (pc + 1) lv (.long z :: st) h bc bs) : AR ax_ns l (ax_mm i) d ty_R P X pc lv (.long y :: .long x :: st) h bc bs := AR.s _ rfl hl rfl (k _)
theorem AR.lconstT {n : Fin 2} (hl : ax_look i pc = some (.lconst n, w, v, ws)) (k : ∀ z : Int64, z.toInt = (n : Nat) → AR ax_ns l (ax_mm i) d ty_R P X (pc + 1) lv (.long z :: st) h bc bs) : AR ax_ns l (ax_mm i) d ty_R P X pc lv st h bc bs := AR.s _ rfl hl rfl (k _ (by match n with | 0 => rfl | 1 => rfl))
/-- a call by contract -/
theorem AR.ct {I : ax_H → Prop} {K : Int} {ct : ty_Ct} {ins : Instr} {b cc : Nat} {as rest : List Value} (hl : ax_look i pc = some (ins, (ct.1, b, cc), v, ws)) (hg : ax_arg ty_R ins ct.1 b cc st h = some (as, rest)) (hM : ty_M I l ct) (hr : ty_rs ty_z 0 h ct.2.2.2.2.2.1 as) (hH : ty_H K ty_z 0 ct.2.2.2.2.2.2.1 h) (hi : I h) (hdy : ct.2.1 + 1 ≤ d) (hmc : ct.2.2.2.1 ≤ bc) (hms : ct.2.2.2.2.1 ≤ bs)
    (k : ∀ x h', ty_F ct.2.2.1 h h' → I h' → (∃ e ∈ ct.2.2.2.2.2.2.2, ty_rr h' e.1 (.inl x) ∧ ty_H K ty_z 0 e.2 h') → AR ax_ns l (ax_mm i) d ty_R P X (pc + 3) lv (x.toList ++ rest) h' (bc - ct.2.2.2.1) (bs - ct.2.2.2.2.1)) (kx : ∀ E h', ty_F ct.2.2.1 h h' → I h' → (∃ e ∈ ct.2.2.2.2.2.2.2, ty_rr h' e.1 (.inr E) ∧ ty_H K ty_z 0 e.2 h') → AX ax_ns l (ax_mm i) d ty_R P X pc lv E h' (bc - ct.2.2.2.1) (bs - ct.2.2.2.2.1)) : AR ax_ns l (ax_mm i) d ty_R P X pc lv st h bc bs :=
  AR.call hl hg (hM K h as hr hH hi) hdy hmc hms (fun x h' q => k x h' q.1 q.2.1 q.2.2) (fun E h' q => kx E h' q.1 q.2.1 q.2.2)
end HYA
/-! what holds of the heap at every call -/
def hy_z (h : ax_H) (q j : Nat) : Int := match ty_fd h q j with
  | some (.int i) => i.toInt
  | some (.long i) => i.toInt
  | _ => 0
theorem hy_zi {h : ax_H} {q j : Nat} {i : Int32} (e : ty_fd h q j = some (.int i)) : hy_z h q j = i.toInt := by simp only [hy_z, e]
theorem hy_zl {h : ax_H} {q j : Nat} {i : Int64} (e : ty_fd h q j = some (.long i)) : hy_z h q j = i.toInt := by simp only [hy_z, e]
theorem hy_ze {h h' : ax_H} {q j : Nat} (e : ty_fd h' q j = ty_fd h q j) : hy_z h' q j = hy_z h q j := by simp only [hy_z, e]
/-- no variable is decided twice; without a conflict the decided ones have values -/
def hy_Id (h : ax_H) : Prop := ∀ j k : Nat, j < k → (k : Int) < hy_z h 181 21 → hy_z h 190 j / 2 ≠ hy_z h 190 k / 2
def hy_Iv (h : ax_H) : Prop := hy_z h 181 24 = 0 → ∀ j : Nat, (j : Int) < hy_z h 181 21 → 0 ≤ hy_z h 191 (hy_z h 190 j / 2).toNat
def hy_Il (h : ax_H) : Prop := ∀ L : Nat, L < 8 → ∀ j k : Nat, j < k → (k : Int) < hy_z h 195 L → hy_z h 196 (12 * L + j) / 2 ≠ hy_z h 196 (12 * L + k) / 2
def hy_Ip (h : ax_H) : Prop := ∀ c : Nat, c < 60 → hy_z h 182 (24 * c) ≤ 0 ∨ hy_z h 182 (24 * c + 1) ≤ 0
/-- the output: its bytes, 18 * 2^k - 2 of them -/
def hy_sb (k : Nat) (bs : List Value) (n : Int32) (h : ax_H) : Prop := ty_fd h 5 0 = some (.ref k) ∧ ty_fd h 5 1 = some (.int 0) ∧ ty_fd h 5 3 = some (.int n) ∧ h[k]? = some (103, bs) ∧ (k = 6 ∨ 198 ≤ k) ∧ k < 1000000000 ∧ 0 ≤ n.toInt ∧ n.toInt ≤ bs.length ∧ (∃ e : Nat, e < 6 ∧ bs.length = 18 * 2 ^ e - 2) ∧ ∀ x ∈ bs, ∃ z : Int32, x = .int z ∧ -128 ≤ z.toInt ∧ z.toInt ≤ 127
def hy_Is (h : ax_H) : Prop := ∃ k bs n, hy_sb k bs n h
def hy_I (h : ax_H) : Prop := hy_Id h ∧ hy_Iv h ∧ hy_Il h ∧ hy_Ip h ∧ hy_Is h
theorem hy_Is.go {h h' : ax_H} (e : ∀ j, ty_fd h' 5 j = ty_fd h 5 j) (e2 : ∀ (k : Nat) (bs : List Value), h[k]? = some (103, bs) → h'[k]? = some (103, bs)) (hs : hy_Is h) : hy_Is h' := by
  obtain ⟨k, bs, n, a1, a2, a3, a4, a5⟩ := hs
  exact ⟨k, bs, n, by rw [e]; exact a1, by rw [e]; exact a2, by rw [e]; exact a3, e2 _ _ a4, a5⟩
theorem hy_Ik : ty_Ik hy_I := by
  intro h h' e e2 hi
  have f : ∀ q j, q < 198 → (ty_tab q).2.2.1 ≠ 0 → ty_IK.testBit (ty_ky q j) = true → hy_z h' q j = hy_z h q j := fun q j h1 h2 h3 => hy_ze (e q j h1 h2 h3)
  have k5 : ∀ j, j < 4 → ty_fd h' 5 j = ty_fd h 5 j := fun j hj => e 5 j (by decide) (by decide +kernel) (by
    rcases (by omega : j = 0 ∨ j = 1 ∨ j = 2 ∨ j = 3) with rfl | rfl | rfl | rfl <;> decide +kernel)
  have ar : ∀ q, ty_ar q = true → ty_IK.testBit (ty_ky q 0) = true → ∀ j, ty_IK.testBit (ty_ky q j) = true := fun q h1 h2 j => by
    unfold ty_ky at h2 ⊢
    rw [h1] at h2 ⊢
    exact h2
  have a190 : ∀ j, hy_z h' 190 j = hy_z h 190 j := fun j => f 190 j (by decide) (by decide +kernel) (ar 190 (by decide +kernel) (by decide +kernel) j)
  have a191 : ∀ j, hy_z h' 191 j = hy_z h 191 j := fun j => f 191 j (by decide) (by decide +kernel) (ar 191 (by decide +kernel) (by decide +kernel) j)
  have a195 : ∀ j, hy_z h' 195 j = hy_z h 195 j := fun j => f 195 j (by decide) (by decide +kernel) (ar 195 (by decide +kernel) (by decide +kernel) j)
  have a196 : ∀ j, hy_z h' 196 j = hy_z h 196 j := fun j => f 196 j (by decide) (by decide +kernel) (ar 196 (by decide +kernel) (by decide +kernel) j)
  have a182 : ∀ j, hy_z h' 182 j = hy_z h 182 j := fun j => f 182 j (by decide) (by decide +kernel) (ar 182 (by decide +kernel) (by decide +kernel) j)
  have a21 := f 181 21 (by decide) (by decide +kernel) (by decide +kernel)
  have a24 := f 181 24 (by decide) (by decide +kernel) (by decide +kernel)
  obtain ⟨i1, i2, i3, i4, k, bs, n, s1, s2, s3, s4, s5⟩ := hi
  refine ⟨?_, ?_, ?_, ?_, k, bs, n, ?_, ?_, ?_, e2 _ _ s4, s5⟩
  · unfold hy_Id at i1 ⊢
    simp only [a190, a21]
    exact i1
  · unfold hy_Iv at i2 ⊢
    simp only [a190, a191, a21, a24]
    exact i2
  · unfold hy_Il at i3 ⊢
    simp only [a195, a196]
    exact i3
  · unfold hy_Ip at i4 ⊢
    simp only [a182]
    exact i4
  · rw [k5 0 (by decide)]; exact s1
  · rw [k5 1 (by decide)]; exact s2
  · rw [k5 3 (by decide)]; exact s3
/-! calls and ends -/
section HYC
variable {l : Launch} {d i pc : Nat} {P : ax_P} {X : ax_PX} {lv : List (Nat × Value)} {st as rest : List Value} {h : ax_H} {bc bs a b ix dy mc ms : Nat} {Q : ax_Q} {v : Value} {ws : List Nat} {w : Nat × Nat × Nat} {K : Int}
theorem hy_drop {as rest : List Value} (x : Value) (hb : as.length = b) : (as.reverse ++ x :: rest).drop b = x :: rest ∧ ((as.reverse ++ x :: rest).take b).reverse = as ∧ b ≤ (as.reverse ++ x :: rest).length := by
  have e : as.reverse.length = b := by rw [List.length_reverse]; exact hb
  refine ⟨?_, ?_, ?_⟩
  · rw [List.drop_left' e]
  · rw [List.take_left' e, List.reverse_reverse]
  · rw [List.length_append]
    omega
theorem AR.c9 (hl : ax_look i pc = some (.invokevirtual ix, (a, b, 9), v, ws)) (hH : hy_H K h) (hm : ax_has a = true ∧ ax_st a = false ∧ (ax_mm a).2.2.2.2 = []) (hst : st = as.reverse ++ .ref 181 :: rest) (hb : as.length = b) (hcat : (rest.map fun v => v.category).sum ≤ 8) (hM : AM ax_ns l (ax_mm a) dy ty_R mc ms (.ref 181 :: as) h Q) (hdy : dy + 1 ≤ d) (hmc : mc ≤ bc) (hms : ms ≤ bs) (hno : ∀ E h', ¬ Q (.inr E) h')
    (k : ∀ x h', Q (.inl x) h' → AR ax_ns l (ax_mm i) d ty_R P X (pc + 3) lv (x.toList ++ rest) h' (bc - mc) (bs - ms)) : AR ax_ns l (ax_mm i) d ty_R P X pc lv st h bc bs := by
  obtain ⟨vs, e1, e2, -⟩ := hy_cell hH (q := 181) (by decide)
  have ht : (ty_tab 181).1 = 9 := by decide +kernel
  rw [ht] at e1
  obtain ⟨d1, d2, d3⟩ := hy_drop (rest := rest) (.ref 181) hb
  have hg : ax_get ty_R h 181 = some (9, vs) := by rw [ax_get_lt (by decide)]; exact e1
  refine AR.call hl (as := .ref 181 :: as) (rest := rest) ?_ hM hdy hmc hms k (fun E h' q => absurd q (hno E h'))
  subst hst
  have hc : ax_has a = true ∧ ax_st a = false ∧ (ax_mm a).2.2.2.2 = [] ∧ b ≤ (as.reverse ++ .ref 181 :: rest).length ∧ (rest.map fun v => v.category).sum ≤ 8 ∧ True := ⟨hm.1, hm.2.1, hm.2.2, d3, hcat, trivial⟩
  simp only [ax_arg, d1, hg, d2]
  rw [if_pos hc]
theorem AR.cs (hl : ax_look i pc = some (.invokestatic ix, (a, b, 0), v, ws)) (hm : ax_has a = true ∧ ax_st a = true) (hst : st = as.reverse ++ rest) (hb : as.length = b) (hcat : (rest.map fun v => v.category).sum ≤ 8) (hM : AM ax_ns l (ax_mm a) dy ty_R mc ms as h Q) (hdy : dy + 1 ≤ d) (hmc : mc ≤ bc) (hms : ms ≤ bs) (hno : ∀ E h', ¬ Q (.inr E) h')
    (k : ∀ x h', Q (.inl x) h' → AR ax_ns l (ax_mm i) d ty_R P X (pc + 3) lv (x.toList ++ rest) h' (bc - mc) (bs - ms)) : AR ax_ns l (ax_mm i) d ty_R P X pc lv st h bc bs := by
  have e : as.reverse.length = b := by rw [List.length_reverse]; exact hb
  refine AR.call hl (as := as) (rest := rest) ?_ hM hdy hmc hms k (fun E h' q => absurd q (hno E h'))
  subst hst
  have d1 : (as.reverse ++ rest).drop b = rest := List.drop_left' e
  have d2 : ((as.reverse ++ rest).take b).reverse = as := by rw [List.take_left' e, List.reverse_reverse]
  have hc : ax_has a = true ∧ ax_st a = true ∧ b ≤ (as.reverse ++ rest).length ∧ (rest.map fun v => v.category).sum ≤ 8 := ⟨hm.1, hm.2, by rw [List.length_append]; omega, hcat⟩
  simp only [ax_arg, d1, d2]
  rw [if_pos hc]
theorem AR.iret {x : Int32} (hl : ax_look i pc = some (.ireturn, w, v, ws)) (ht : (ax_mm i).2.2.2.1 = some .int) (hq : Q (.inl (some (.int x))) h) : AR ax_ns l (ax_mm i) d ty_R (ax_ret ax_ns (ax_mm i) Q) X pc lv [.int x] h bc bs :=
  AR.at (Or.inl ⟨_, rfl, rfl, (ax_look_ok hl).1, ht, hq⟩)
theorem AR.zret {x : Int32} (hl : ax_look i pc = some (.ireturn, w, v, ws)) (ht : (ax_mm i).2.2.2.1 = some .boolean) (hx : x.toInt = 0 ∨ x.toInt = 1) (hq : Q (.inl (some (.int x))) h) : AR ax_ns l (ax_mm i) d ty_R (ax_ret ax_ns (ax_mm i) Q) X pc lv [.int x] h bc bs := by
  refine AR.at (Or.inr (Or.inl ⟨_, .boolean, rfl, ?_, rfl, (ax_look_ok hl).1, ht, hq⟩))
  have e : x = 0 ∨ x = 1 := hx.imp (fun e => Int32.toInt_inj.mp (by rw [e]; rfl)) (fun e => Int32.toInt_inj.mp (by rw [e]; rfl))
  rcases e with rfl | rfl <;> rfl
theorem AR.lret {x : Int64} (hl : ax_look i pc = some (.lreturn, w, v, ws)) (ht : (ax_mm i).2.2.2.1 = some .long) (hq : Q (.inl (some (.long x))) h) : AR ax_ns l (ax_mm i) d ty_R (ax_ret ax_ns (ax_mm i) Q) X pc lv [.long x] h bc bs :=
  AR.at (Or.inr (Or.inr (Or.inl ⟨_, rfl, rfl, (ax_look_ok hl).1, ht, hq⟩)))
theorem AR.vret (hl : ax_look i pc = some (.return_, w, v, ws)) (ht : (ax_mm i).2.2.2.1 = none) (hq : Q (.inl none) h) : AR ax_ns l (ax_mm i) d ty_R (ax_ret ax_ns (ax_mm i) Q) X pc lv [] h bc bs :=
  AR.at (Or.inr (Or.inr (Or.inr (Or.inr (Or.inl ⟨rfl, (ax_look_ok hl).1, ht, hq⟩)))))
theorem AR.mulcT {x y : Int32} {c : Int} (hl : ax_look i pc = some (.imul, w, v, ws)) (hx : x.toInt = c) (h1 : -2147483648 ≤ c * y.toInt) (h2 : c * y.toInt ≤ 2147483647) (k : ∀ z : Int32, z.toInt = c * y.toInt → AR ax_ns l (ax_mm i) d ty_R P X (pc + 1) lv (.int z :: st) h bc bs) : AR ax_ns l (ax_mm i) d ty_R P X pc lv (.int y :: .int x :: st) h bc bs := by
  subst hx
  exact AR.mulT hl h1 h2 k
end HYC
abbrev hy_c9 : ax_Cl := (RX9, TX9, 32, tyX9)
theorem hy_fz {x : Int32} (h : 0 ≤ x.toInt ∧ x.toInt ≤ 1) : ax_fit .boolean (.int x) = true := by
  have e : x = 0 ∨ x = 1 := by
    rcases (by omega : x.toInt = 0 ∨ x.toInt = 1) with e | e
    · exact Or.inl (Int32.toInt_inj.mp (by rw [e]; rfl))
    · exact Or.inr (Int32.toInt_inj.mp (by rw [e]; rfl))
  rcases e with rfl | rfl <;> rfl
