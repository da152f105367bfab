/-! THE TYPED MACHINE, 8: stores -/
theorem ty_pv_eq1 {K : Int} {h h' : ax_H} {j : Nat} (hj : 1 ≤ j) (h1 : ty_fd h' 181 8 = ty_fd h 181 8) (h3 : ty_fd h' 181 14 = ty_fd h 181 14) : ty_pv K h' j = ty_pv K h j := by
  rcases j with _ | _ | _ | j
  · omega
  · simp only [ty_pv, h1, h3]
  · simp only [ty_pv, h1]
  · rfl
theorem ty_ps7 {K : Int} {ρ : Nat → Int} {N j n : Nat} {h : ax_H} {q : Int × Int × Int} : ty_ps K ρ N h j (7, n, q) := trivial
/-- what a field may hold -/
def ty_ff (a b n : Nat) (y : ty_V) : Bool := match ax_cls[a]? with
  | some cl => Nat.beq cl.2.2.1 n && (match cl.2.2.2 b, y with
    | .int, (0, _) => true
    | .long, (1, _) => true
    | .boolean, (0, _, _, lo, hi) => ty_le 0 lo && ty_le hi 1
    | _, _ => false)
  | none => false
theorem ty_01 {i : Int32} (h0 : 0 ≤ i.toInt) (h1 : i.toInt ≤ 1) : i = 0 ∨ i = 1 := by
  have e0 : (0 : Int32).toInt = 0 := by decide
  have e1 : (1 : Int32).toInt = 1 := by decide
  rcases (by omega : i.toInt = 0 ∨ i.toInt = 1) with q | q
  · exact Or.inl (Int32.toInt_inj.mp (by omega))
  · exact Or.inr (Int32.toInt_inj.mp (by omega))
theorem ty_ff_ok {ρ : Nat → Int} {N : Nat} {h : ax_H} {a b n : Nat} {y : ty_V} {x : Value} (hf : ty_ff a b n y = true) (hr : ty_r ρ N h y x) : ∃ cl, ax_cls[a]? = some cl ∧ cl.2.2.1 = n ∧ ax_fit (cl.2.2.2 b) x = true := by
  unfold ty_ff at hf
  split at hf
  · rename_i cl e
    simp only [Bool.and_eq_true] at hf
    obtain ⟨f1, f2⟩ := hf
    refine ⟨cl, e, Nat.eq_of_beq_eq_true f1, ?_⟩
    split at f2
    · rename_i hty
      obtain ⟨i, rfl, -⟩ := hr
      rw [hty]; rfl
    · rename_i hty
      obtain ⟨i, rfl, -⟩ := hr
      rw [hty]; rfl
    · rename_i hty
      simp only [Bool.and_eq_true, ty_le_iff] at f2
      obtain ⟨i, rfl, h1, h2, -⟩ := hr
      rw [hty]
      rcases ty_01 (i := i) (by omega) (by omega) with rfl | rfl <;> rfl
    · cases f2
  · cases hf
/-- groups: which numbers their cells' fields have -/
def ty_gmk (g : Nat) : Nat := match g with
  | 0 => 2 ^ 39 + 2 ^ 40 + 2 ^ 41
  | 1 => 2 ^ 42
  | 4 => 2 ^ 47 + 2 ^ 48 + 2 ^ 53 + 2 ^ 54 + 2 ^ 56 + 2 ^ 57
  | 5 => 2 ^ 49 + 2 ^ 55 + 2 ^ 58
  | _ => 0
theorem ty_gk_lo : ((List.range 6).all fun g => (List.range 198).all fun q => !(ax_gm g q) || (List.range 3).all fun j => Nat.ble (ty_gl g).2 j || ((!(Nat.blt (ty_gt g j).1 2) || decide (ty_tt q j = ty_gt g j)) && ty_wr (ty_gmk g) q j)) = true := by decide +kernel
theorem ty_gk_ok {g q j : Nat} (hm : ax_gm g q = true) (hj : j < 3) (hl : j < (ty_gl g).2) : ((ty_gt g j).1 < 2 → ty_tt q j = ty_gt g j) ∧ ty_wr (ty_gmk g) q j = true := by
  have h1 := List.all_eq_true.mp (List.all_eq_true.mp ty_gk_lo g (List.mem_range.mpr (ty_gm6 hm))) q (List.mem_range.mpr (ty_gm_lt hm))
  rw [hm, Bool.not_true, Bool.false_or] at h1
  have h2 := List.all_eq_true.mp h1 j (List.mem_range.mpr hj)
  simp only [Bool.and_eq_true, Bool.or_eq_true, Bool.not_eq_true', decide_eq_true_eq] at h2
  rcases h2 with q1 | ⟨q1, q2⟩
  · have := Nat.le_of_ble_eq_true q1
    omega
  · refine ⟨fun hk => ?_, q2⟩
    rcases q1 with q1 | q1
    · have : Nat.blt (ty_gt g j).1 2 = true := Nat.ble_eq_true_of_le hk
      rw [this] at q1
      cases q1
    · exact q1
theorem ty_wr_sub {W' W q j : Nat} (hs : ty_sub W' W = true) (h : ty_wr W' q j = true) : ty_wr W q j = true := by
  unfold ty_wr at h ⊢
  simp only [Bool.or_eq_true] at h ⊢
  rcases h with a | a
  · exact Or.inl a
  · right
    cases e : W.testBit (ty_ky q j) with
    | true => rfl
    | false =>
      rw [ty_sub_ok hs _ e] at a
      cases a
/-- entries of a group's cells, left out -/
theorem ty_lk_fl {g : Nat} {ov : ty_O} {q j : Nat} : ty_lk (ov.filter (fun e => !(ax_gm g e.1))) q j = if ax_gm g q = true then ty_tt q (bif ty_ar q then 0 else j) else ty_lk ov q j := by
  have hf : ∀ j, ty_fi (ov.filter (fun e => !(ax_gm g e.1))) q j = if ax_gm g q = true then none else ty_fi ov q j := by
    intro j
    by_cases e : ax_gm g q = true
    · rw [if_pos e]
      cases e2 : ty_fi (ov.filter (fun e => !(ax_gm g e.1))) q j with
      | none => rfl
      | some t =>
        have := (List.mem_filter.mp (ty_fi_mem e2)).2
        simp [e] at this
    · rw [if_neg e]
      refine ty_fi_filter (fun t => ?_) ov
      simp [e]
  unfold ty_lk ty_un
  rw [hf, hf]
  by_cases e : ax_gm g q = true
  · simp only [if_pos e]
    cases ty_ar q <;> rfl
  · simp only [if_neg e]
theorem ty_g300 {g : Nat} : ax_gm g 300 = false := by
  cases e : ax_gm g 300 with
  | false => rfl
  | true => have := ty_gm_lt e; omega
-- the three numbers more
def ty_dl (x y : ty_V) : Option Int := match x, y with
  | (_, n, f, a, z), (_, m, g, b, w) => bif !(Nat.beq n 0) && Nat.beq n m then some (g - f) else bif ty_eq a z && ty_eq b w then some (b - a) else none
theorem ty_dl_ok {ρ : Nat → Int} {N : Nat} {x y : ty_V} {i j d : Int} (hd : ty_dl x y = some d) (hx : ty_in ρ N x.2.1 x.2.2.1 x.2.2.2.1 x.2.2.2.2 i) (hy : ty_in ρ N y.2.1 y.2.2.1 y.2.2.2.1 y.2.2.2.2 j) : j = i + d := by
  obtain ⟨kx, n, f, a, z⟩ := x
  obtain ⟨ky, m, g, b, w⟩ := y
  obtain ⟨x1, x2, x3⟩ := hx
  obtain ⟨y1, y2, y3⟩ := hy
  dsimp only at x1 x2 x3 y1 y2 y3
  unfold ty_dl at hd
  dsimp only at hd
  cases h0 : !(Nat.beq n 0) && Nat.beq n m with
  | true =>
    rw [h0] at hd
    cases hd
    simp only [Bool.and_eq_true, Bool.not_eq_true'] at h0
    have hn := Nat.ne_of_beq_eq_false h0.1
    have hm := Nat.eq_of_beq_eq_true h0.2
    subst hm
    rcases x3 with p | p
    · exact absurd p hn
    · rcases y3 with r | r
      · exact absurd r hn
      · omega
  | false =>
    rw [h0] at hd
    simp only [cond_false] at hd
    cases h1 : ty_eq a z && ty_eq b w with
    | true =>
      rw [h1] at hd
      cases hd
      simp only [Bool.and_eq_true, ty_eq_iff] at h1
      omega
    | false => rw [h1] at hd; cases hd
/-- moved by d -/
def ty_sh (p : ty_V) (d : Int) : ty_V := match p with
  | (k, n, f, a, z) => (k, n, f + d, a + d, z + d)
theorem ty_sh_ok {ρ : Nat → Int} {N : Nat} {p : ty_V} {d i : Int} (h : ty_in ρ N p.2.1 p.2.2.1 p.2.2.2.1 p.2.2.2.2 i) : ty_in ρ N (ty_sh p d).2.1 (ty_sh p d).2.2.1 (ty_sh p d).2.2.2.1 (ty_sh p d).2.2.2.2 (i + d) := by
  obtain ⟨k, n, f, a, z⟩ := p
  obtain ⟨h1, h2, h3⟩ := h
  dsimp only at h1 h2 h3
  refine ⟨by show a + d ≤ _; omega, by show _ ≤ z + d; omega, ?_⟩
  rcases h3 with q | q
  · exact Or.inl q
  · exact Or.inr ⟨q.1, by show _ = ρ n + (f + d); omega⟩
/-- place less terms: behind a change of the place (s true) or of the terms; x before, y after, r the other one -/
def ty_p1 (s : Bool) (x y r p : ty_V) : ty_V := match ty_dl x y, p.1 with
  | some d, 0 => ty_sh p (bif s then d else -d)
  | _, _ => bif Nat.beq r.1 0 then (match y, r with
    | (_, _, _, a, z), (_, _, _, b, w) => bif s then (0, 0, 0, a - w, z - b) else (0, 0, 0, b - z, w - a)) else (7, 0, 0, 0, 0)
def ty_q1 (s : Bool) (x y r p : ty_V) : ty_V := match ty_p1 s x y r p, ty_p1 s x y r (7, 0, 0, 0, 0) with
  | (0, n, f, a, z), (0, _, _, b, w) => (0, n, f, ty_ma a b, ty_mi z w)
  | t, _ => t
def ty_p2 (x y p : ty_V) : ty_V := match ty_dl x y, p.1 with
  | some d, 0 => ty_sh p d
  | _, _ => (7, 0, 0, 0, 0)
def ty_q2 (x y p : ty_V) : ty_V := match ty_p2 x y p, y with
  | (0, n, f, a, z), (_, _, _, b, w) => (0, n, f, ty_ma a (b - 200), ty_mi z w)
  | t, _ => t
noncomputable def ty_pf (W a b pc : Nat) (lv : List (Nat × ty_V)) (st : List ty_V) (ov : ty_O) (N : Nat) (k : ty_C) : Bool := match st with
  | y :: (2, q, _) :: st => Nat.blt q 198 && (Nat.beq (ty_tab q).1 a && (Nat.blt a 99 && (Nat.blt b (ty_tab q).2.1 && (ty_ff a b (ty_tab q).2.1 y && (ty_wr W q b && ((!(ty_mb q) || ty_tl (ty_tt q b) y) &&
    ax_if (Nat.beq q 181 && (Nat.beq b 8 || (Nat.beq b 9 || Nat.beq b 14)))
      (match b with
      | 9 => ty_os ov 181 10 y fun ov => ty_os ov 300 1 (7, 0, 0, 0, 0) fun ov => ax_fn (pc + 3) fun pc' => k pc' lv st ov N 0 0
      | 8 => Nat.beq (ty_lk ov 181 8).1 0 && (Nat.beq y.1 0 && ty_fo (ty_q1 true (ty_lk ov 181 8) y (ty_lk ov 181 14) (ty_lk ov 300 1)) fun p1 => ty_fo (ty_q2 (ty_lk ov 181 8) y (ty_lk ov 300 2)) fun p2 => ty_os ov 181 9 y fun ov => ty_os ov 300 2 p1 fun ov => ty_os ov 300 3 p2 fun ov => ax_fn (pc + 3) fun pc' => k pc' lv st ov N 0 0)
      | _ => Nat.beq (ty_lk ov 181 14).1 0 && (Nat.beq y.1 0 && ty_fo (ty_q1 false (ty_lk ov 181 14) y (ty_lk ov 181 8) (ty_lk ov 300 1)) fun p1 => ty_os ov 181 15 y fun ov => ty_os ov 300 2 p1 fun ov => ax_fn (pc + 3) fun pc' => k pc' lv st ov N 0 0))
      (ty_os ov q (b + 1) y fun ov => ax_fn (pc + 3) fun pc' => k pc' lv st ov N 0 0)))))))
  | y :: (3, g, _) :: st => Nat.blt g 6 && (Nat.beq (ty_gl g).1 a && (Nat.blt a 99 && (Nat.blt b (ty_gl g).2 && (Nat.blt b 3 && (ty_ff a b (ty_gl g).2 y && (Nat.blt (ty_gt g b).1 2 && (ty_tl (ty_gt g b) y && (ty_sub (ty_gmk g) W && ax_flt (fun e => !(ax_gm g e.1)) ov fun ov => ax_fn (pc + 3) fun pc' => k pc' lv st ov N 0 0))))))))
  | _ => false
section TYP
variable {I : ax_H → Prop} {W : Nat} {K : Int} {ρ : Nat → Int} {N : Nat} {ov : ty_O} {h : ax_H} {lv : List (Nat × ty_V)} {lvx : List (Nat × Value)} {st : List ty_V} {stx : List Value} {nL pc a b c : Nat} {v : Value} {k : ty_C}
theorem ty_one_pf {ix q : Nat} {vs : List Value} {x : Value} {cl : ax_Cl} (h1 : h[q]? = some (a, vs)) (h2 : a ≠ 900) (h3 : q < 1000000000) (h4 : ax_cls[a]? = some cl) (h5 : vs.length = cl.2.2.1) (h6 : ax_fit (cl.2.2.2 b) x = true) : ax_one ty_R nL pc (.putfield ix) a b c v lvx (x :: .ref q :: stx) h = some (pc + 3, lvx, stx, h.set q (a, vs.set b x), 0, 0) := by
  simp only [ax_one, h1, h4]
  rw [if_neg (by rintro (e | e | e | e | e); exact h2 e; exact e trivial; exact e h3; exact e h5; rw [h6] at e; cases e)]
  simp only [ax_hs_eq, ax_go]
/-- what a field's store leaves of the three numbers, where it is another field -/
theorem ty_pv_set {q i tag j : Nat} {x : Value} {vs : List Value} (hl : 198 ≤ h.length) (hq : q < 198) (hg : h[q]? = some (tag, vs)) (h1 : q = 181 → i ≠ 8 ∧ i ≠ 9 ∧ i ≠ 14) (h2 : q ≠ 185) : ty_pv K (h.set q (tag, vs.set i x)) j = ty_pv K h j := by
  have hf : ∀ q' j', (q' = q → j' ≠ i) → ty_fd (h.set q (tag, vs.set i x)) q' j' = ty_fd h q' j' := by
    intro q' j' hne
    rw [ty_fd_set (by omega)]
    by_cases e : q' = q
    · rw [if_pos e]
      subst e
      unfold ty_fd
      rw [hg]
      exact List.getElem?_set_ne (Ne.symm (hne rfl))
    · rw [if_neg e]
  exact ty_pv_eq (hf _ _ (fun e => by have := h1 e.symm; omega)) (hf _ _ (fun e => by have := h1 e.symm; omega)) (hf _ _ (fun e => by have := h1 e.symm; omega)) (fun f => hf _ _ (fun e => absurd e.symm h2))
theorem ty_fd_of {q i tag : Nat} {vs : List Value} {y : Value} (hg : h[q]? = some (tag, vs)) (hy : vs[i]? = some y) : ty_fd h q i = some y := by
  unfold ty_fd
  rw [hg]
  exact hy
theorem ty_pv_at {tag : Nat} {vs : List Value} {a0 a1 : Int32} (hl : 198 ≤ h.length) (hg : h[181]? = some (tag, vs)) (h0 : vs[8]? = some (.int a0)) : ty_pv K (h.set 181 (tag, vs.set 8 (.int a1))) 0 = ty_pv K h 0 ∧ ty_pv K (h.set 181 (tag, vs.set 8 (.int a1))) 1 = (ty_pv K h 1).map (fun v => v + (a1.toInt - a0.toInt)) ∧ ty_pv K (h.set 181 (tag, vs.set 8 (.int a1))) 2 = (ty_pv K h 2).map (fun v => v + (a1.toInt - a0.toInt)) := by
  have hlt : 8 < vs.length := (List.getElem?_eq_some_iff.mp h0).1
  have hf : ∀ q' j', (q' = 181 → j' ≠ 8) → ty_fd (h.set 181 (tag, vs.set 8 (.int a1))) q' j' = ty_fd h q' j' := by
    intro q' j' hne
    rw [ty_fd_set (by omega)]
    by_cases e : q' = 181
    · rw [if_pos e]
      subst e
      unfold ty_fd
      rw [hg]
      exact List.getElem?_set_ne (Ne.symm (hne rfl))
    · rw [if_neg e]
  have hn : ty_fd (h.set 181 (tag, vs.set 8 (.int a1))) 181 8 = some (.int a1) := by
    rw [ty_fd_set (by omega), if_pos rfl]
    exact List.getElem?_set_self hlt
  have ho : ty_fd h 181 8 = some (.int a0) := ty_fd_of hg h0
  refine ⟨?_, ?_, ?_⟩
  · unfold ty_pv
    rw [hf 181 9 (fun _ => by decide)]
    simp only [fun f => hf 185 f (fun e => by cases e)]
  · unfold ty_pv
    rw [hf 181 14 (fun _ => by decide), hn, ho]
    simp only [ty_iv, Option.bind_some, Option.map_map]
    congr 1
    funext v
    show _ - v = _ - v + _
    omega
  · unfold ty_pv
    rw [hn, ho]
    simp only [ty_iv, Option.map_some]
    congr 1
    omega
theorem ty_pv_rd {tag : Nat} {vs : List Value} {a0 a1 : Int32} (hl : 198 ≤ h.length) (hg : h[181]? = some (tag, vs)) (h0 : vs[14]? = some (.int a0)) : ty_pv K (h.set 181 (tag, vs.set 14 (.int a1))) 0 = ty_pv K h 0 ∧ ty_pv K (h.set 181 (tag, vs.set 14 (.int a1))) 1 = (ty_pv K h 1).map (fun v => v - (a1.toInt - a0.toInt)) ∧ ∀ j, 2 ≤ j → ty_pv K (h.set 181 (tag, vs.set 14 (.int a1))) j = ty_pv K h j := by
  have hlt : 14 < vs.length := (List.getElem?_eq_some_iff.mp h0).1
  have hf : ∀ q' j', (q' = 181 → j' ≠ 14) → ty_fd (h.set 181 (tag, vs.set 14 (.int a1))) q' j' = ty_fd h q' j' := by
    intro q' j' hne
    rw [ty_fd_set (by omega)]
    by_cases e : q' = 181
    · rw [if_pos e]
      subst e
      unfold ty_fd
      rw [hg]
      exact List.getElem?_set_ne (Ne.symm (hne rfl))
    · rw [if_neg e]
  have hn : ty_fd (h.set 181 (tag, vs.set 14 (.int a1))) 181 14 = some (.int a1) := by
    rw [ty_fd_set (by omega), if_pos rfl]
    exact List.getElem?_set_self hlt
  have ho : ty_fd h 181 14 = some (.int a0) := ty_fd_of hg h0
  refine ⟨?_, ?_, fun j hj => ?_⟩
  · unfold ty_pv
    rw [hf 181 9 (fun _ => by decide)]
    simp only [fun f => hf 185 f (fun e => by cases e)]
  · unfold ty_pv
    rw [hf 181 8 (fun _ => by decide), hn, ho]
    cases ty_iv (ty_fd h 181 8) with
    | none => rfl
    | some p =>
      simp only [ty_iv, Option.bind_some, Option.map_some]
      congr 1
      omega
  · rcases j with _ | _ | _ | j
    · omega
    · omega
    · simp only [ty_pv, hf 181 8 (fun _ => by decide)]
    · rfl
theorem ty_p1_ok {s : Bool} {x y r p : ty_V} {h' : ax_H} {i0 i1 : Int} (hx : ty_in ρ N x.2.1 x.2.2.1 x.2.2.2.1 x.2.2.2.2 i0) (hy : ty_in ρ N y.2.1 y.2.2.1 y.2.2.2.1 y.2.2.2.2 i1) (hr : Nat.beq r.1 0 = true → ∀ v, ty_pv K h 1 = some v → ∃ i2, ty_in ρ N r.2.1 r.2.2.1 r.2.2.2.1 r.2.2.2.2 i2 ∧ v = bif s then i0 - i2 else i2 - i0) (hp : ty_ps K ρ N h 1 p) (hv : ty_pv K h' 1 = (ty_pv K h 1).map (fun v => bif s then v + (i1 - i0) else v - (i1 - i0))) : ty_ps K ρ N h' 1 (ty_p1 s x y r p) := by
  unfold ty_p1
  split
  · rename_i d hd hk
    have e := ty_dl_ok hd hx hy
    obtain ⟨kp, np, fp, ap, zp⟩ := p
    dsimp only at hk
    subst hk
    intro w hw
    rw [hv] at hw
    cases hpv : ty_pv K h 1 with
    | none => rw [hpv] at hw; cases hw
    | some v =>
      rw [hpv] at hw
      cases hw
      have h1 := hp v hpv
      cases s with
      | true =>
        have h2 := ty_sh_ok (p := (0, np, fp, ap, zp)) (d := d) h1
        have e2 : v + (i1 - i0) = v + d := by omega
        show ty_in _ _ _ _ _ _ (v + (i1 - i0))
        rw [e2]
        exact h2
      | false =>
        have h2 := ty_sh_ok (p := (0, np, fp, ap, zp)) (d := -d) h1
        have e2 : v - (i1 - i0) = v + -d := by omega
        show ty_in _ _ _ _ _ _ (v - (i1 - i0))
        rw [e2]
        exact h2
  · cases hc : Nat.beq r.1 0 with
    | false => exact ty_ps7
    | true =>
      obtain ⟨ky, m, g, b, w⟩ := y
      obtain ⟨kr, rn, rf, ra, rz⟩ := r
      obtain ⟨y1, y2, -⟩ := hy
      dsimp only at y1 y2
      simp only [cond_true]
      have key : ∀ v', ty_pv K h' 1 = some v' → ∃ i2, ra ≤ i2 ∧ i2 ≤ rz ∧ v' = bif s then i1 - i2 else i2 - i1 := by
        intro v' hw
        rw [hv] at hw
        cases hpv : ty_pv K h 1 with
        | none => rw [hpv] at hw; cases hw
        | some v =>
          rw [hpv] at hw
          cases hw
          obtain ⟨i2, ⟨q1, q2, -⟩, q3⟩ := hr hc v hpv
          refine ⟨i2, q1, q2, ?_⟩
          rw [q3]
          cases s with
          | true => show i0 - i2 + (i1 - i0) = i1 - i2; omega
          | false => show i2 - i0 - (i1 - i0) = i2 - i1; omega
      cases s with
      | true =>
        intro v' hw
        obtain ⟨i2, q1, q2, q3⟩ := key v' hw
        have q3 : v' = i1 - i2 := q3
        exact ⟨by omega, by omega, Or.inl rfl⟩
      | false =>
        intro v' hw
        obtain ⟨i2, q1, q2, q3⟩ := key v' hw
        have q3 : v' = i2 - i1 := q3
        exact ⟨by omega, by omega, Or.inl rfl⟩
theorem ty_q1_ok {s : Bool} {x y r p : ty_V} {h' : ax_H} {i0 i1 : Int} (hx : ty_in ρ N x.2.1 x.2.2.1 x.2.2.2.1 x.2.2.2.2 i0) (hy : ty_in ρ N y.2.1 y.2.2.1 y.2.2.2.1 y.2.2.2.2 i1) (hr : Nat.beq r.1 0 = true → ∀ v, ty_pv K h 1 = some v → ∃ i2, ty_in ρ N r.2.1 r.2.2.1 r.2.2.2.1 r.2.2.2.2 i2 ∧ v = bif s then i0 - i2 else i2 - i0) (hp : ty_ps K ρ N h 1 p) (hv : ty_pv K h' 1 = (ty_pv K h 1).map (fun v => bif s then v + (i1 - i0) else v - (i1 - i0))) : ty_ps K ρ N h' 1 (ty_q1 s x y r p) := by
  have h1 := ty_p1_ok hx hy hr hp hv
  have h2 := ty_p1_ok (p := (7, 0, 0, 0, 0)) hx hy hr ty_ps7 hv
  unfold ty_q1
  obtain ⟨t1, e1⟩ : ∃ t, ty_p1 s x y r p = t := ⟨_, rfl⟩
  obtain ⟨t2, e2⟩ : ∃ t, ty_p1 s x y r (7, 0, 0, 0, 0) = t := ⟨_, rfl⟩
  rw [e1] at h1 ⊢
  rw [e2] at h2 ⊢
  obtain ⟨k1, n1, f1, a1, z1⟩ := t1
  obtain ⟨k2, n2, f2, a2, z2⟩ := t2
  rcases k1 with _ | k1
  · rcases k2 with _ | k2
    · intro v hw
      obtain ⟨b1, b2, b3⟩ := h1 v hw
      obtain ⟨c1, c2, -⟩ := h2 v hw
      have l := @ty_ma_ok a1 a2
      have m := @ty_mi_ok z1 z2
      exact ⟨by omega, by omega, b3⟩
    · exact h1
  · cases k2 <;> exact h1
theorem ty_p2_ok {x y p : ty_V} {h' : ax_H} {i0 i1 : Int} (hx : ty_in ρ N x.2.1 x.2.2.1 x.2.2.2.1 x.2.2.2.2 i0) (hy : ty_in ρ N y.2.1 y.2.2.1 y.2.2.2.1 y.2.2.2.2 i1) (hp : ty_ps K ρ N h 2 p) (hv : ty_pv K h' 2 = (ty_pv K h 2).map (fun v => v + (i1 - i0))) : ty_ps K ρ N h' 2 (ty_p2 x y p) := by
  unfold ty_p2
  split
  · rename_i d hd hk
    have e := ty_dl_ok hd hx hy
    obtain ⟨kp, np, fp, ap, zp⟩ := p
    dsimp only at hk
    subst hk
    intro w hw
    rw [hv] at hw
    cases hpv : ty_pv K h 2 with
    | none => rw [hpv] at hw; cases hw
    | some v =>
      rw [hpv] at hw
      cases hw
      have h2 := ty_sh_ok (p := (0, np, fp, ap, zp)) (d := d) (hp v hpv)
      have e2 : v + (i1 - i0) = v + d := by omega
      show ty_in _ _ _ _ _ _ (v + (i1 - i0))
      rw [e2]
      exact h2
  · exact ty_ps7
theorem ty_q2_ok {x y p : ty_V} {h' : ax_H} {i0 i1 : Int} (hx : ty_in ρ N x.2.1 x.2.2.1 x.2.2.2.1 x.2.2.2.2 i0) (hy : ty_in ρ N y.2.1 y.2.2.1 y.2.2.2.1 y.2.2.2.2 i1) (hp : ty_ps K ρ N h 2 p) (hv : ty_pv K h' 2 = (ty_pv K h 2).map (fun v => v + (i1 - i0))) (hv0 : ∀ v, ty_pv K h 2 = some v → v = i0 - ty_kc K) : ty_ps K ρ N h' 2 (ty_q2 x y p) := by
  have h1 := ty_p2_ok hx hy hp hv
  unfold ty_q2
  obtain ⟨t1, e1⟩ : ∃ t, ty_p2 x y p = t := ⟨_, rfl⟩
  rw [e1] at h1 ⊢
  obtain ⟨k1, n1, f1, a1, z1⟩ := t1
  obtain ⟨ky, n2, f2, a2, z2⟩ := y
  rcases k1 with _ | k1
  · intro v hw
    obtain ⟨b1, b2, b3⟩ := h1 v hw
    rw [hv] at hw
    cases hpv : ty_pv K h 2 with
    | none => rw [hpv] at hw; cases hw
    | some u =>
      rw [hpv] at hw
      have hu := hv0 u hpv
      have hw : u + (i1 - i0) = v := Option.some.inj hw
      obtain ⟨c1, c2⟩ := ty_kc_bd K
      obtain ⟨d1, d2, -⟩ := hy
      dsimp only at d1 d2
      have l := @ty_ma_ok a1 (a2 - 200)
      have m := @ty_mi_ok z1 z2
      exact ⟨by omega, by omega, b3⟩
  · exact h1
theorem ty_pf_ok {ix : Nat} (hI : ty_Ik I) (hW : Nat.beq (W &&& ty_IK) 0 = true) (hg : ty_g K ρ N lv st ov lvx stx h) (hi : I h) (hs : ty_pf W a b pc lv st ov N k = true) : ty_ok I W K ρ N k h (ax_one ty_R nL pc (.putfield ix) a b c v lvx stx h) := by
  obtain ⟨g1, g2, g3⟩ := hg
  unfold ty_pf at hs
  split at hs
  · rename_i y q r s
    obtain ⟨yx, _, rfl, hy, x, rx, rfl, hx, h2⟩ := g2
    cases (show x = .ref q from hx)
    simp only [Bool.and_eq_true] at hs
    obtain ⟨s1, s2, s3, s4, s5, s6, s7, s8⟩ := hs
    have hq : q < 198 := Nat.le_of_ble_eq_true s1
    have ht := Nat.eq_of_beq_eq_true s2
    have ha : a < 99 := Nat.le_of_ble_eq_true s3
    have hb : b < (ty_tab q).2.1 := Nat.le_of_ble_eq_true s4
    obtain ⟨vs, e1, e2, e3⟩ := g3.2.1 q hq
    obtain ⟨cl, c1, c2, c3⟩ := ty_ff_ok s5 hy
    rw [ht] at e1
    have har : ty_ar q = false := ty_ar_no (by omega)
    have ho := ty_one_pf (ix := ix) (nL := nL) (pc := pc) (c := c) (v := v) (lvx := lvx) (stx := rx) e1 (by omega) (ty_q9 hq) c1 (by omega) c3
    have hl := g3.1
    have hF : ty_F W h (h.set q (a, vs.set b yx)) := ty_F.set hq hl e1 (by omega) s6
    have hL := hF.Lo
    have hi' := hI.go hW hF hi
    have hm : ty_mb q = true → ty_r ρ N h (ty_tt q b) yx := fun hmb => by
      rw [hmb, Bool.not_true, Bool.false_or] at s7
      exact ty_tl_ok s7 hy
    have hlb : b < vs.length := by omega
    have hvb : vs[b]? = some vs[b] := List.getElem?_eq_getElem hlb
    -- entries behind it
    have fin : ∀ ov', (∀ q' j', q' < 198 → ty_lk ov' q' j' = if q' = q ∧ j' = b then y else ty_lk ov q' j') → (∀ j, ty_ps K ρ N (h.set q (a, vs.set b yx)) j (ty_lk ov' 300 j)) → k (pc + 3) lv s ov' N 0 0 = true → ty_ok I W K ρ N k h (ax_one ty_R nL pc (.putfield ix) a b c v lvx (yx :: .ref q :: rx) h) := by
      intro ov' hlk hps hk
      refine ⟨pc + 3, lv, s, ov', N, 0, 0, ρ, lvx, rx, _, hk, ho, ⟨g1.mv hL, h2.mv hL, ty_H.set g3 hq e1 (fun q' j' hq' hne => Or.inr (Or.inl ?_)) ?_ hm hps⟩, hF, hi', ty_ex_refl ρ N⟩
      · rw [hlk q' j' hq', if_neg (by omega)]
      · rw [hlk q b hq, if_pos ⟨rfl, rfl⟩]
        exact hy
    cases hc : Nat.beq q 181 && (Nat.beq b 8 || (Nat.beq b 9 || Nat.beq b 14)) with
    | false =>
      simp only [ax_if, hc, ty_os_eq, ax_fn_eq] at s8
      refine fin _ (fun q' j' _ => ty_lk_ot q' j') (fun j => ?_) s8
      rw [ty_lk_ot, if_neg (by omega)]
      refine ty_ps_eq (ty_pv_set hl hq e1 (fun e => ?_) (fun e => ?_)) (g3.2.2 j)
      · subst e
        simp only [Bool.and_eq_false_iff, Bool.or_eq_false_iff] at hc
        rcases hc with q1 | ⟨q1, q2, q3⟩
        · cases q1
        · exact ⟨Nat.ne_of_beq_eq_false q1, Nat.ne_of_beq_eq_false q2, Nat.ne_of_beq_eq_false q3⟩
      · subst e
        have : (ty_tab 185).1 = 100 := by decide +kernel
        omega
    | true =>
      simp only [ax_if, hc] at s8
      simp only [Bool.and_eq_true, Bool.or_eq_true] at hc
      have hq1 := Nat.eq_of_beq_eq_true hc.1
      subst hq1
      have lk2 : ∀ (ov : ty_O) (q j j3 : Nat) (t : ty_V) (q' j' : Nat), q' < 198 → ty_lk (ty_ot ov 300 (j3 + 1) t) q' j' = ty_lk ov q' j' := fun ov q j j3 t q' j' hq' => by rw [ty_lk_ot, if_neg (by omega)]
      split at s8
      · simp only [ty_os_eq, ax_fn_eq] at s8
        refine fin _ (fun q' j' hq' => by rw [lk2 _ 0 0 0 _ q' j' hq', ty_lk_ot]) (fun j => ?_) s8
        rw [ty_lk_ot]
        by_cases ej : j = 0
        · rw [if_pos ⟨rfl, ej⟩]
          exact ty_ps7
        · rw [if_neg (by omega), ty_lk_ot, if_neg (by omega)]
          have : ty_pv K (h.set 181 (a, vs.set 9 yx)) j = ty_pv K h j := by
            have hf : ∀ j', j' ≠ 9 → ty_fd (h.set 181 (a, vs.set 9 yx)) 181 j' = ty_fd h 181 j' := fun j' hne => by
              rw [ty_fd_set (by omega), if_pos rfl]
              unfold ty_fd
              rw [e1]
              exact List.getElem?_set_ne (Ne.symm hne)
            exact ty_pv_eq1 (by omega) (hf 8 (by decide)) (hf 14 (by decide))
          exact ty_ps_eq this (g3.2.2 j)
      · simp only [Bool.and_eq_true, ty_fo_eq, ty_os_eq, ax_fn_eq] at s8
        obtain ⟨u1, u2, u3⟩ := s8
        obtain ⟨i1, rfl, hi1⟩ := ty_r0 u2 hy
        obtain ⟨i0, hi0, hi00⟩ := ty_r0 u1 (e3 8 _ hvb).1
        rw [hi0] at hvb
        obtain ⟨v0, v1, v2⟩ := ty_pv_at (K := K) (a1 := i1) hl e1 hvb
        refine fin _ (fun q' j' hq' => by rw [lk2 _ 0 0 2 _ q' j' hq', lk2 _ 0 0 1 _ q' j' hq', ty_lk_ot]) (fun j => ?_) u3
        rw [ty_lk_ot]
        by_cases ej : j = 2
        · subst ej
          rw [if_pos ⟨rfl, rfl⟩]
          refine ty_q2_ok hi00 hi1 (g3.2.2 2) v2 (fun v hv9 => ?_)
          have f8 : ty_fd h 181 8 = some (.int i0) := ty_fd_of e1 hvb
          simp only [ty_pv, f8, ty_iv, Option.map_some, Option.some.injEq] at hv9
          exact hv9.symm
        · rw [if_neg (by omega), ty_lk_ot]
          by_cases ej1 : j = 1
          · subst ej1
            rw [if_pos ⟨rfl, rfl⟩]
            refine ty_q1_ok hi00 hi1 (fun hk0 w hw => ?_) (g3.2.2 1) v1
            have hl14 : 14 < vs.length := by
              have : (ty_tab 181).2.1 = 32 := by decide +kernel
              omega
            have hv14 : vs[14]? = some vs[14] := List.getElem?_eq_getElem hl14
            obtain ⟨i2, hi2, hi22⟩ := ty_r0 hk0 (e3 14 _ hv14).1
            rw [hi2] at hv14
            refine ⟨i2.toInt, hi22, ?_⟩
            simp only [ty_pv, ty_fd_of e1 hvb, ty_fd_of e1 hv14, ty_iv, Option.bind_some, Option.map_some, Option.some.injEq] at hw
            exact hw.symm
          · rw [if_neg (by omega), ty_lk_ot, if_neg (by omega)]
            rcases j with _ | _ | _ | j
            · exact ty_ps_eq v0 (g3.2.2 0)
            · exact absurd rfl ej1
            · exact absurd rfl ej
            · exact ty_ps_eq rfl (g3.2.2 (j + 3))
      · rename_i n8 n9
        simp only [Bool.and_eq_true, ty_fo_eq, ty_os_eq, ax_fn_eq] at s8
        obtain ⟨u1, u2, u3⟩ := s8
        have hb14 : b = 14 := by
          rcases hc.2 with q1 | q1 | q1
          · exact absurd (Nat.eq_of_beq_eq_true q1) (fun e => n9 e)
          · exact absurd (Nat.eq_of_beq_eq_true q1) (fun e => n8 e)
          · exact Nat.eq_of_beq_eq_true q1
        subst hb14
        obtain ⟨i1, rfl, hi1⟩ := ty_r0 u2 hy
        obtain ⟨i0, hi0, hi00⟩ := ty_r0 u1 (e3 14 _ hvb).1
        rw [hi0] at hvb
        obtain ⟨v0, v1, v2⟩ := ty_pv_rd (K := K) (a1 := i1) hl e1 hvb
        refine fin _ (fun q' j' hq' => by rw [lk2 _ 0 0 1 _ q' j' hq', ty_lk_ot]) (fun j => ?_) u3
        rw [ty_lk_ot]
        by_cases ej1 : j = 1
        · subst ej1
          rw [if_pos ⟨rfl, rfl⟩]
          refine ty_q1_ok hi00 hi1 (fun hk0 w hw => ?_) (g3.2.2 1) v1
          have hl8 : 8 < vs.length := by
            have : (ty_tab 181).2.1 = 32 := by decide +kernel
            omega
          have hv8 : vs[8]? = some vs[8] := List.getElem?_eq_getElem hl8
          obtain ⟨i2, hi2, hi22⟩ := ty_r0 hk0 (e3 8 _ hv8).1
          rw [hi2] at hv8
          refine ⟨i2.toInt, hi22, ?_⟩
          simp only [ty_pv, ty_fd_of e1 hvb, ty_fd_of e1 hv8, ty_iv, Option.bind_some, Option.map_some, Option.some.injEq] at hw
          exact hw.symm
        · rw [if_neg (by omega), ty_lk_ot, if_neg (by omega)]
          rcases j with _ | _ | j
          · exact ty_ps_eq v0 (g3.2.2 0)
          · exact absurd rfl ej1
          · exact ty_ps_eq (v2 (j + 2) (by omega)) (g3.2.2 (j + 2))
  · rename_i y g r s
    obtain ⟨yx, _, rfl, hy, x, rx, rfl, ⟨q, rfl, hm⟩, h2⟩ := g2
    simp only [Bool.and_eq_true, ax_flt_eq, ax_fn_eq] at hs
    obtain ⟨s1, s2, s3, s4, s5, s6, s7, s8, s9, s10⟩ := hs
    have hg6 : g < 6 := Nat.le_of_ble_eq_true s1
    have ht := Nat.eq_of_beq_eq_true s2
    have ha : a < 99 := Nat.le_of_ble_eq_true s3
    have hb : b < (ty_gl g).2 := Nat.le_of_ble_eq_true s4
    have hb3 : b < 3 := Nat.le_of_ble_eq_true s5
    have hk2 : (ty_gt g b).1 < 2 := Nat.le_of_ble_eq_true s7
    have hq := ty_gm_lt hm
    obtain ⟨m1, m2, m3, m4⟩ := ty_g_ok hg6 hm
    obtain ⟨n1, n2⟩ := ty_gk_ok hm hb3 hb
    obtain ⟨vs, e1, e2, e3⟩ := g3.2.1 q hq
    obtain ⟨cl, c1, c2, c3⟩ := ty_ff_ok s6 hy
    rw [m1, ht] at e1
    have hl := g3.1
    have har : ty_ar q = false := ty_ar_no (by omega)
    have hF : ty_F W h (h.set q (a, vs.set b yx)) := ty_F.set hq hl e1 (by omega) (ty_wr_sub s9 n2)
    have hL := hF.Lo
    have htt : ty_r ρ N h (ty_tt q b) yx := by rw [n1 hk2]; exact ty_tl_ok s8 hy
    have hn300 : q ≠ 185 := by
      rintro rfl
      have : (ty_tab 185).1 = 100 := by decide +kernel
      omega
    have hn181 : q ≠ 181 := by
      rintro rfl
      have : ax_gm g 181 = false := by
        rcases (by omega : g = 0 ∨ g = 1 ∨ g = 2 ∨ g = 3 ∨ g = 4 ∨ g = 5) with rfl | rfl | rfl | rfl | rfl | rfl <;> decide +kernel
      rw [this] at hm
      cases hm
    refine ⟨pc + 3, lv, s, _, N, 0, 0, ρ, lvx, rx, _, s10, ty_one_pf e1 (by omega) (ty_q9 hq) c1 (by omega) c3, ⟨g1.mv hL, h2.mv hL, ty_H.set g3 hq e1 (fun q' j' hq' hne => ?_) ?_ (fun _ => htt) (fun j => ?_)⟩, hF, hI.go hW hF hi, ty_ex_refl ρ N⟩
    · rw [ty_lk_fl]
      by_cases e : ax_gm g q' = true
      · rw [if_pos e]
        have hm' := (ty_g_ok hg6 e).2.2.1
        refine Or.inr (Or.inr ⟨hm', ?_⟩)
        cases har' : ty_ar q' with
        | true => exact (ty_tt_ar har' j').symm
        | false => rfl
      · rw [if_neg e]
        exact Or.inr (Or.inl rfl)
    · rw [ty_lk_fl, if_pos hm, har]
      exact htt
    · rw [ty_lk_fl, if_neg (by rw [ty_g300]; decide)]
      exact ty_ps_eq (ty_pv_set hl hq e1 (fun e => absurd e hn181) hn300) (g3.2.2 j)
  · cases hs
end TYP
