/-! THE TYPED MACHINE, 9: stores into arrays, new arrays, Math, copies of arrays -/
def ty_jn (u z : ty_V) : ty_V := match u, z with
  | (k, _, _, a, b), (_, _, _, c, d) => (k, 0, 0, ty_mi a c, ty_ma b d)
theorem ty_jn_tl {u z : ty_V} (hk : u.1 < 2) : ty_tl (ty_jn u z) u = true := by
  obtain ⟨k, n, f, a, b⟩ := u
  obtain ⟨k2, n2, f2, c, d⟩ := z
  have l := @ty_mi_ok a c
  have m := @ty_ma_ok b d
  dsimp only at hk
  rcases (by omega : k = 0 ∨ k = 1) with rfl | rfl
  · show (ty_le (ty_mi a c) a && ty_le b (ty_ma b d)) = true
    simp only [Bool.and_eq_true, ty_le_iff]
    omega
  · show (ty_le (ty_mi a c) a && ty_le b (ty_ma b d)) = true
    simp only [Bool.and_eq_true, ty_le_iff]
    omega
theorem ty_jn_ok {ρ : Nat → Int} {N : Nat} {h : ax_H} {u z : ty_V} {x : Value} (hk : u.1 = z.1) (hk2 : z.1 < 2) (hr : ty_r ρ N h z x) : ty_r ρ N h (ty_jn u z) x := by
  obtain ⟨k, n, f, a, b⟩ := u
  obtain ⟨k2, n2, f2, c, d⟩ := z
  have l := @ty_mi_ok a c
  have m := @ty_ma_ok b d
  dsimp only at hk hk2
  subst hk
  rcases (by omega : k = 0 ∨ k = 1) with rfl | rfl
  · obtain ⟨i, h1, h2, h3, -⟩ := hr
    exact ⟨i, h1, by omega, by omega, Or.inl rfl⟩
  · obtain ⟨i, h1, h2, h3, -⟩ := hr
    exact ⟨i, h1, by omega, by omega, Or.inl rfl⟩
theorem ty_lk_o0 {ov : ty_O} {q : Nat} {t : ty_V} (hno : ty_no ov q = true) (ha : ty_ar q = true) (q' j' : Nat) : ty_lk (ty_ot ov q 0 t) q' j' = if q' = q then t else ty_lk ov q' j' := by
  have hf : ∀ j, ty_fi (ty_ot ov q 0 t) q' (j + 1) = ty_fi ov q' (j + 1) := fun j => by rw [ty_fi_ot, if_neg (by omega)]
  have hu : ty_un (ty_ot ov q 0 t) q' = if q' = q then t else ty_un ov q' := by
    unfold ty_un
    rw [ty_fi_ot]
    by_cases e : q' = q
    · rw [if_pos ⟨e, rfl⟩, if_pos e]
    · rw [if_neg (fun x => e x.1), if_neg e]
  by_cases e : q' = q
  · subst e
    rw [if_pos rfl]
    unfold ty_lk
    rw [hf, hu, if_pos rfl]
    cases e2 : ty_fi ov q' (j' + 1) with
    | none => rw [ha]; rfl
    | some s =>
      have h1 := List.all_eq_true.mp hno _ (ty_fi_mem e2)
      simp at h1
      have h2 : Nat.ble 1 (j' + 1) = true := Nat.ble_eq_true_of_le (by omega)
      rw [h2] at h1
      cases h1
  · rw [if_neg e]
    unfold ty_lk
    rw [hf, hu, if_neg e]
noncomputable def ty_aso (q : Nat) (lo hi : Int) (z : ty_V) (ov : ty_O) (g : ty_O → Bool) : Bool := ax_if (ty_tk q && ty_eq lo hi) (ty_os ov q (lo.toNat + 1) z g) (ty_no ov q && ax_if (ty_tl (ty_un ov q) z) (g ov) (Nat.beq (ty_un ov q).1 z.1 && (Nat.blt z.1 2 && ty_fo (ty_jn (ty_un ov q) z) fun t => ty_os ov q 0 t g)))
theorem ty_aso_ok {ρ : Nat → Int} {N : Nat} {h : ax_H} {q i : Nat} {lo hi : Int} {z : ty_V} {x : Value} {ov : ty_O} {g : ty_O → Bool} (hq : q < 198) (ha : ty_ar q = true) (hz : ty_r ρ N h z x) (h1 : lo ≤ i) (h2 : (i : Int) ≤ hi) (hs : ty_aso q lo hi z ov g = true) : ∃ ov', g ov' = true ∧ (∀ q' j', q' < 198 → (q' ≠ q ∨ j' ≠ i) → (ty_tl (ty_lk ov' q' j') (ty_lk ov q' j') = true ∨ ty_lk ov' q' j' = ty_lk ov q' j')) ∧ ty_r ρ N h (ty_lk ov' q i) x ∧ ∀ j, ty_lk ov' 300 j = ty_lk ov 300 j := by
  unfold ty_aso at hs
  cases hc : ty_tk q && ty_eq lo hi with
  | true =>
    simp only [ax_if, hc, ty_os_eq] at hs
    simp only [Bool.and_eq_true, ty_eq_iff] at hc
    have e : lo.toNat = i := by omega
    rw [e] at hs
    refine ⟨_, hs, fun q' j' _ hne => Or.inr ?_, ?_, fun j => ?_⟩
    · rw [ty_lk_ot, if_neg (by omega)]
    · rw [ty_lk_ot, if_pos ⟨rfl, rfl⟩]
      exact hz
    · rw [ty_lk_ot, if_neg (by omega)]
  | false =>
    simp only [ax_if, hc, Bool.and_eq_true] at hs
    obtain ⟨s1, s2⟩ := hs
    cases hd : ty_tl (ty_un ov q) z with
    | true =>
      simp only [hd] at s2
      exact ⟨ov, s2, fun _ _ _ _ => Or.inr rfl, by rw [ty_no_ok s1 ha]; exact ty_tl_ok hd hz, fun _ => rfl⟩
    | false =>
      simp only [hd, Bool.and_eq_true, ty_fo_eq, ty_os_eq] at s2
      obtain ⟨t1, t2, t3⟩ := s2
      have t1 := Nat.eq_of_beq_eq_true t1
      have t2 : z.1 < 2 := Nat.le_of_ble_eq_true t2
      refine ⟨_, t3, fun q' j' _ hne => ?_, ?_, fun j => ?_⟩
      · rw [ty_lk_o0 s1 ha]
        by_cases e : q' = q
        · subst e
          rw [if_pos rfl, ty_no_ok s1 ha]
          exact Or.inl (ty_jn_tl (by omega))
        · rw [if_neg e]
          exact Or.inr rfl
      · rw [ty_lk_o0 s1 ha, if_pos rfl]
        exact ty_jn_ok t1 t2 hz
      · rw [ty_lk_o0 s1 ha, if_neg (by omega)]
/-- the arrays that an instruction stores into -/
def ty_si (ins : Instr) (tag : Nat) : Bool := match ins with
  | .iastore => Nat.beq tag 100
  | .lastore => Nat.beq tag 101
  | .bastore => Nat.beq tag 102
  | _ => false
noncomputable def ty_as (ins : Instr) (tag W pc : Nat) (lv : List (Nat × ty_V)) (st : List ty_V) (ov : ty_O) (N : Nat) (k : ty_C) : Bool := match st with
  | z :: (0, _, _, lo, hi) :: (kx, q, _) :: st => ty_si ins tag && (Nat.beq z.1 (bif Nat.beq tag 101 then 1 else 0) && ((!(Nat.beq tag 102) || (ty_le 0 z.2.2.2.1 && ty_le z.2.2.2.2 1)) && (ty_le 0 lo && (match kx with
    | 2 => Nat.blt q 198 && (Nat.beq (ty_tab q).1 tag && (ty_le (hi + 1) ((ty_tab q).2.1 : Int) && (ty_wr W q 0 && ((!(ty_mb q) || ty_tl (ty_tt q 0) z) && ty_aso q lo hi z ov fun ov => ax_if (Nat.beq q 185) (ty_os ov 300 1 (7, 0, 0, 0, 0) fun ov => ax_fn (pc + 1) fun pc' => k pc' lv st ov N 0 0) (ax_fn (pc + 1) fun pc' => k pc' lv st ov N 0 0)))))
    | 3 => Nat.blt q 6 && (Nat.beq (ty_gl q).1 tag && (ty_le (hi + 1) ((ty_gl q).2 : Int) && (Nat.blt (ty_gt q 0).1 2 && (ty_tl (ty_gt q 0) z && (ty_sub (ty_gmk q) W && ax_flt (fun e => !(ax_gm q e.1)) ov fun ov => ax_fn (pc + 1) fun pc' => k pc' lv st ov N 0 0)))))
    | 4 => Nat.beq (ty_lt q).1 tag && (ty_le (hi + 1) ((ty_lt q).2.1 : Int) && (ty_le (ty_lt q).2.2.1 z.2.2.2.1 && (ty_le z.2.2.2.2 (ty_lt q).2.2.2 && (Nat.beq z.1 0 && ax_fn (pc + 1) fun pc' => k pc' lv st ov N 0 0))))
    | _ => false))))
  | _ => false
section TYA
variable {I : ax_H → Prop} {W : Nat} {K : Int} {ρ : Nat → Int} {N : Nat} {ov : ty_O} {h : ax_H} {lv : List (Nat × ty_V)} {lvx : List (Nat × Value)} {st : List ty_V} {stx : List Value} {nL pc a b c : Nat} {v : Value} {k : ty_C}
theorem ty_one_as {ins : Instr} {tag q : Nat} {vs : List Value} {i : Int32} {z : ty_V} {x : Value} (hl : ty_si ins tag = true) (hz : Nat.beq z.1 (bif Nat.beq tag 101 then 1 else 0) = true) (hb : (!(Nat.beq tag 102) || (ty_le 0 z.2.2.2.1 && ty_le z.2.2.2.2 1)) = true) (hr : ty_r ρ N h z x) (hg : h[q]? = some (tag, vs)) (hq : q < 1000000000) (h0 : ¬ i < 0) (h1 : i.toNatClampNeg < vs.length) : ax_one ty_R nL pc ins a b c v lvx (x :: .int i :: .ref q :: stx) h = some (pc + 1, lvx, stx, h.set q (tag, vs.set i.toNatClampNeg x), 0, 0) := by
  unfold ty_si at hl
  split at hl
  · have := Nat.eq_of_beq_eq_true hl
    subst this
    obtain ⟨j, rfl, -⟩ := ty_r0 hz hr
    simp only [ax_one, hg]
    rw [if_pos ⟨h0, h1, hq, rfl⟩]
    simp only [ax_hs_eq, ax_go]
  · have := Nat.eq_of_beq_eq_true hl
    subst this
    obtain ⟨j, rfl, -⟩ := ty_r1 hz hr
    simp only [ax_one, hg]
    rw [if_pos ⟨h0, h1, hq, rfl⟩]
    simp only [ax_hs_eq, ax_go]
  · have := Nat.eq_of_beq_eq_true hl
    subst this
    obtain ⟨j, rfl, j1, j2, -⟩ := ty_r0 hz hr
    have hb2 : (ty_le 0 z.2.2.2.1 && ty_le z.2.2.2.2 1) = true := hb
    simp only [Bool.and_eq_true, ty_le_iff] at hb2
    have hf : ax_fit .boolean (.int j) = true := by
      rcases ty_01 (i := j) (by omega) (by omega) with rfl | rfl <;> rfl
    simp only [ax_one, hg]
    rw [if_pos ⟨h0, h1, hq, hf⟩]
    simp only [ax_hs_eq, ax_go]
  · cases hl
theorem ty_si_ar {ins : Instr} {tag : Nat} (hl : ty_si ins tag = true) : 100 ≤ tag ∧ tag ≠ 103 := by
  unfold ty_si at hl
  split at hl
  · have := Nat.eq_of_beq_eq_true hl; omega
  · have := Nat.eq_of_beq_eq_true hl; omega
  · have := Nat.eq_of_beq_eq_true hl; omega
  · cases hl
theorem ty_as_ok {ins : Instr} {tag : Nat} (hI : ty_Ik I) (hW : Nat.beq (W &&& ty_IK) 0 = true) (hg : ty_g K ρ N lv st ov lvx stx h) (hi : I h) (hs : ty_as ins tag W pc lv st ov N k = true) : ty_ok I W K ρ N k h (ax_one ty_R nL pc ins a b c v lvx stx h) := by
  obtain ⟨g1, g2, g3⟩ := hg
  unfold ty_as at hs
  split at hs
  · rename_i z n f lo hi2 kx q r s
    obtain ⟨zx, _, rfl, hz, y, _, rfl, hy, x, rx, rfl, hx, h2⟩ := g2
    obtain ⟨i, rfl, i1, i2, -⟩ := hy
    simp only [Bool.and_eq_true] at hs
    obtain ⟨s1, s2, s3, s4, s5⟩ := hs
    have s4 := ty_le_iff.mp s4
    obtain ⟨hA, hA3⟩ := ty_si_ar s1
    have hl := g3.1
    split at s5
    · cases (show x = .ref q from hx)
      simp only [Bool.and_eq_true] at s5
      obtain ⟨t1, t2, t3, t4, t5, t6⟩ := s5
      have hq : q < 198 := Nat.le_of_ble_eq_true t1
      have t2 := Nat.eq_of_beq_eq_true t2
      have t3 := ty_le_iff.mp t3
      have har : ty_ar q = true := ty_ar_yes (by omega)
      obtain ⟨vs, e1, e2, e3⟩ := g3.2.1 q hq
      rw [t2] at e1
      obtain ⟨d1, d2, d3⟩ := ty_idx (n := vs.length) (i := i) (by omega) (by omega)
      have ho := ty_one_as (nL := nL) (pc := pc) (a := a) (b := b) (c := c) (v := v) (lvx := lvx) (stx := rx) s1 s2 s3 hz e1 (ty_q9 hq) d1 d2
      have hF : ty_F W h (h.set q (tag, vs.set i.toNatClampNeg zx)) := ty_F.setA hq hl e1 hA3 har t4
      have hL := hF.Lo
      have hm : ty_mb q = true → ty_r ρ N h (ty_tt q i.toNatClampNeg) zx := fun hmb => by
        rw [hmb, Bool.not_true, Bool.false_or] at t5
        rw [ty_tt_ar har]
        exact ty_tl_ok t5 hz
      obtain ⟨ov', k1, k2, k3, k4⟩ := ty_aso_ok hq har hz (i := i.toNatClampNeg) (by omega) (by omega) t6
      have n181 : q ≠ 181 := by
        rintro rfl
        have : (ty_tab 181).1 = 9 := by decide +kernel
        omega
      cases hp : Nat.beq q 185 with
      | true =>
        have hp := Nat.eq_of_beq_eq_true hp
        subst hp
        simp only [ax_if, Nat.beq_refl, ty_os_eq, ax_fn_eq] at k1
        refine ⟨pc + 1, lv, s, _, N, 0, 0, ρ, lvx, rx, _, k1, ho, ⟨g1.mv hL, h2.mv hL, ty_H.set g3 hq e1 (fun q' j' hq' hne => ?_) ?_ hm (fun j => ?_)⟩, hF, hI.go hW hF hi, ty_ex_refl ρ N⟩
        · rw [ty_lk_ot, if_neg (by omega)]
          rcases k2 q' j' hq' hne with p | p
          · exact Or.inl p
          · exact Or.inr (Or.inl p)
        · rw [ty_lk_ot, if_neg (by omega)]
          exact k3
        · rw [ty_lk_ot]
          by_cases ej : j = 0
          · rw [if_pos ⟨rfl, ej⟩]
            exact ty_ps7
          · rw [if_neg (by omega), k4]
            have hf : ∀ j', ty_fd (h.set 185 (tag, vs.set i.toNatClampNeg zx)) 181 j' = ty_fd h 181 j' := fun j' => by rw [ty_fd_set (by omega), if_neg (by decide)]
            exact ty_ps_eq (ty_pv_eq1 (by omega) (hf 8) (hf 14)) (g3.2.2 j)
      | false =>
        have hp2 := Nat.ne_of_beq_eq_false hp
        simp only [ax_if, hp, ax_fn_eq] at k1
        refine ⟨pc + 1, lv, s, _, N, 0, 0, ρ, lvx, rx, _, k1, ho, ⟨g1.mv hL, h2.mv hL, ty_H.set g3 hq e1 (fun q' j' hq' hne => ?_) k3 hm (fun j => ?_)⟩, hF, hI.go hW hF hi, ty_ex_refl ρ N⟩
        · rcases k2 q' j' hq' hne with p | p
          · exact Or.inl p
          · exact Or.inr (Or.inl p)
        · rw [k4]
          exact ty_ps_eq (ty_pv_set hl hq e1 (fun e => absurd e n181) hp2) (g3.2.2 j)
    · obtain ⟨p, rfl, hm⟩ := hx
      simp only [Bool.and_eq_true, ax_flt_eq, ax_fn_eq] at s5
      obtain ⟨t1, t2, t3, t4, t5, t6, t7⟩ := s5
      have t1 : q < 6 := Nat.le_of_ble_eq_true t1
      have t2 := Nat.eq_of_beq_eq_true t2
      have t3 := ty_le_iff.mp t3
      have t4 : (ty_gt q 0).1 < 2 := Nat.le_of_ble_eq_true t4
      have hp := ty_gm_lt hm
      obtain ⟨m1, m2, m3, m4⟩ := ty_g_ok t1 hm
      obtain ⟨vs, e1, e2, e3⟩ := g3.2.1 p hp
      have har : ty_ar p = true := ty_ar_yes (by omega)
      rw [m1, t2] at e1
      obtain ⟨d1, d2, d3⟩ := ty_idx (n := vs.length) (i := i) (by omega) (by omega)
      obtain ⟨n1, n2⟩ := ty_gk_ok (j := 0) hm (by decide) (by omega)
      have ho := ty_one_as (nL := nL) (pc := pc) (a := a) (b := b) (c := c) (v := v) (lvx := lvx) (stx := rx) s1 s2 s3 hz e1 (ty_q9 hp) d1 d2
      have hF : ty_F W h (h.set p (tag, vs.set i.toNatClampNeg zx)) := ty_F.setA hp hl e1 hA3 har (ty_wr_sub t6 n2)
      have hL := hF.Lo
      have htt : ty_r ρ N h (ty_tt p i.toNatClampNeg) zx := by rw [ty_tt_ar har, n1 t4]; exact ty_tl_ok t5 hz
      have gno : ∀ z, z = 181 ∨ z = 185 → p ≠ z := by
        intro z hz e
        subst e
        have : ax_gm q 181 = false ∧ ax_gm q 185 = false := by
          rcases (by omega : q = 0 ∨ q = 1 ∨ q = 2 ∨ q = 3 ∨ q = 4 ∨ q = 5) with rfl | rfl | rfl | rfl | rfl | rfl <;> decide +kernel
        rcases hz with rfl | rfl
        · rw [this.1] at hm; cases hm
        · rw [this.2] at hm; cases hm
      refine ⟨pc + 1, lv, s, _, N, 0, 0, ρ, lvx, rx, _, t7, ho, ⟨g1.mv hL, h2.mv hL, ty_H.set g3 hp e1 (fun q' j' hq' hne => ?_) ?_ (fun _ => htt) (fun j => ?_)⟩, hF, hI.go hW hF hi, ty_ex_refl ρ N⟩
      · rw [ty_lk_fl]
        by_cases e : ax_gm q q' = true
        · rw [if_pos e]
          refine Or.inr (Or.inr ⟨(ty_g_ok t1 e).2.2.1, ?_⟩)
          cases har' : ty_ar q' with
          | true => exact (ty_tt_ar har' j').symm
          | false => rfl
        · rw [if_neg e]
          exact Or.inr (Or.inl rfl)
      · rw [ty_lk_fl, if_pos hm, har]
        rw [ty_tt_ar har] at htt
        exact htt
      · rw [ty_lk_fl, if_neg (by rw [ty_g300]; decide)]
        exact ty_ps_eq (ty_pv_set hl hp e1 (fun e => absurd e (gno 181 (Or.inl rfl))) (gno 185 (Or.inr rfl))) (g3.2.2 j)
    · obtain ⟨p, cc, rfl, hp, hp9, hc, l1, l2, l3⟩ := hx
      simp only [Bool.and_eq_true, ax_fn_eq] at s5
      obtain ⟨t1, t2, t3, t4, t5, t6⟩ := s5
      have t1 := Nat.eq_of_beq_eq_true t1
      have t2 := ty_le_iff.mp t2
      have t3 := ty_le_iff.mp t3
      have t4 := ty_le_iff.mp t4
      obtain ⟨w, rfl, w1, w2, -⟩ := ty_r0 t5 hz
      obtain ⟨c1, c2⟩ := cc
      dsimp only at l1 l2 l3
      obtain ⟨d1, d2, d3⟩ := ty_idx (n := c2.length) (i := i) (by omega) (by omega)
      have hc' : h[p]? = some (tag, c2) := by rw [hc, l1, t1]
      have ho := ty_one_as (nL := nL) (pc := pc) (a := a) (b := b) (c := c) (v := v) (lvx := lvx) (stx := rx) s1 s2 s3 hz hc' hp9 d1 d2
      have hlc : ty_lc q (tag, c2) := ⟨t1.symm, l2, l3⟩
      have hF : ty_F W h (h.set p (tag, c2.set i.toNatClampNeg (.int w))) := ty_F.loc hp hc' hlc (by omega) (by omega)
      have hL := hF.Lo
      exact ⟨pc + 1, lv, s, _, N, 0, 0, ρ, lvx, rx, _, t6, ho, ⟨g1.mv hL, h2.mv hL, g3.far hL (by rw [List.length_set]; exact hl) (fun q' hq' => List.getElem?_set_ne (by omega))⟩, hF, hI.go hW hF hi, ty_ex_refl ρ N⟩
    · cases s5
  · cases hs
/-! new arrays -/
def ty_nk (a : Nat) (n : Int) : Option Nat := bif Nat.beq a 0 && ty_eq n 5 then some 0 else bif Nat.beq a 2 && ty_eq n 24 then some 1 else bif Nat.beq a 0 && ty_eq n 12 then some 2 else none
end TYA
noncomputable def ty_na (a pc : Nat) (lv : List (Nat × ty_V)) (st : List ty_V) (ov : ty_O) (N : Nat) (k : ty_C) : Bool := match st with
  | (0, _, _, lo, hi) :: st => ty_eq lo hi && (match ty_nk a lo with
    | some t => ax_fn (pc + 2) fun pc' => ax_fn lo.toNat fun n => k pc' lv ((4, t, 0, 0, 0) :: st) ov N 1 n
    | none => false)
  | _ => false
section TYA
variable {I : ax_H → Prop} {W : Nat} {K : Int} {ρ : Nat → Int} {N : Nat} {ov : ty_O} {h : ax_H} {lv : List (Nat × ty_V)} {lvx : List (Nat × Value)} {st : List ty_V} {stx : List Value} {nL pc a b c : Nat} {v : Value} {k : ty_C}
theorem ty_na_ok {aty : ClassFile.ArrayType} (hI : ty_Ik I) (hlen : h.length < 1000000000) (hg : ty_g K ρ N lv st ov lvx stx h) (hi : I h) (hs : ty_na a pc lv st ov N k = true) : ty_ok I W K ρ N k h (ax_one ty_R nL pc (.newarray aty) a b c v lvx stx h) := by
  obtain ⟨g1, g2, g3⟩ := hg
  unfold ty_na at hs
  split at hs
  · rename_i m f lo hi2 s
    obtain ⟨y, rx, rfl, ⟨i, rfl, i1, i2, -⟩, h2⟩ := g2
    simp only [Bool.and_eq_true] at hs
    obtain ⟨s1, s2⟩ := hs
    have s1 := ty_eq_iff.mp s1
    split at s2
    · rename_i t ht
      simp only [ax_fn_eq] at s2
      have key : ∃ ty, ax_tys[a]? = some ty ∧ a ≠ 900 ∧ lo.toNat = (ty_lt t).2.1 ∧ 0 ≤ lo ∧ lo ≤ 24 ∧ ty_lc t (100 + a, List.replicate lo.toNat (defaultValue ty)) := by
        unfold ty_nk at ht
        cases c1 : Nat.beq a 0 && ty_eq lo 5 with
        | true =>
          rw [c1] at ht
          cases ht
          simp only [Bool.and_eq_true, ty_eq_iff] at c1
          obtain ⟨c2, rfl⟩ := c1
          have c2 := Nat.eq_of_beq_eq_true c2
          subst c2
          refine ⟨.int, rfl, by decide, rfl, by decide, by decide, rfl, by simp; rfl, fun x hx => ?_⟩
          exact ⟨0, (List.mem_replicate.mp hx).2, by decide, by decide⟩
        | false =>
          rw [c1] at ht
          cases c3 : Nat.beq a 2 && ty_eq lo 24 with
          | true =>
            rw [c3] at ht
            cases ht
            simp only [Bool.and_eq_true, ty_eq_iff] at c3
            obtain ⟨c2, rfl⟩ := c3
            have c2 := Nat.eq_of_beq_eq_true c2
            subst c2
            refine ⟨.boolean, rfl, by decide, rfl, by decide, by decide, rfl, by simp; rfl, fun x hx => ?_⟩
            exact ⟨0, (List.mem_replicate.mp hx).2, by decide, by decide⟩
          | false =>
            rw [c3] at ht
            cases c4 : Nat.beq a 0 && ty_eq lo 12 with
            | true =>
              rw [c4] at ht
              cases ht
              simp only [Bool.and_eq_true, ty_eq_iff] at c4
              obtain ⟨c2, rfl⟩ := c4
              have c2 := Nat.eq_of_beq_eq_true c2
              subst c2
              refine ⟨.int, rfl, by decide, rfl, by decide, by decide, rfl, by simp; rfl, fun x hx => ?_⟩
              exact ⟨0, (List.mem_replicate.mp hx).2, by decide, by decide⟩
            | false => rw [c4] at ht; cases ht
      obtain ⟨ty, t1, t2, t3, t4, t5, t6⟩ := key
      obtain ⟨d1, d2, d3⟩ := ty_idx (n := 25) (i := i) (by omega) (by omega)
      have e : i.toNatClampNeg = lo.toNat := by omega
      have hF : ty_F W h (h ++ [(100 + a, List.replicate lo.toNat (defaultValue ty))]) := ty_F.push g3.1
      have hL := hF.Lo
      refine ⟨pc + 2, lv, _, ov, N, 1, lo.toNat, ρ, lvx, .ref h.length :: rx, _, s2, ?_, ⟨g1.mv hL, ⟨_, rx, rfl, ⟨h.length, _, rfl, g3.1, hlen, ?_, t6⟩, h2.mv hL⟩, g3.far hL (by rw [List.length_append]; have := g3.1; omega) (fun q' hq' => List.getElem?_append_left (by have := g3.1; omega))⟩, hF, ?_, ty_ex_refl ρ N⟩
      · simp only [ax_one, t1, e]
        rw [if_neg (by rintro (q1 | q1 | q1); exact d1 q1; omega; exact t2 q1)]
        simp only [ax_ha_eq]
      · rw [List.getElem?_append_right (Nat.le_refl _), Nat.sub_self]
        rfl
      · refine hI h _ (fun q j h1 h2 h3 => ?_) (fun k' bs hk' => ?_) hi
        · unfold ty_fd
          rw [List.getElem?_append_left (by have := g3.1; omega)]
        · rw [List.getElem?_append_left (List.getElem?_eq_some_iff.mp hk').1]
          exact hk'
    · cases s2
  · cases hs
end TYA
/-! Math and arraycopy -/
def ty_cs : List ty_V → Nat
  | [] => 0
  | t :: s => ty_ct t + ty_cs s
def ty_c6 (st : List ty_V) : Bool := st.all (fun t => Nat.ble t.1 6)
theorem ty_cs_ok {ρ : Nat → Int} {N : Nat} {h : ax_H} : ∀ {st : List ty_V} {stx : List Value}, ty_c6 st = true → ty_rs ρ N h st stx → (stx.map fun v => v.category).sum = ty_cs st
  | [], _, _, hr => by cases hr; rfl
  | t :: s, _, hc, ⟨x, r, e, h1, h2⟩ => by
    subst e
    simp only [ty_c6, List.all_cons, Bool.and_eq_true] at hc
    rw [List.map_cons, List.sum_cons, ty_cs_ok (st := s) hc.2 h2, ty_ct_ok hc.1 h1]
    rfl
/-- cells of one group -/
def ty_ag (x : ty_V) : Option Nat := match x with
  | (3, g, _) => some g
  | (2, q, _) => bif ax_gm 5 q then some 5 else bif ax_gm 3 q then some 3 else none
  | _ => none
def ty_aw (W : Nat) (x : ty_V) : Bool := match x with
  | (3, g, _) => ty_sub (ty_gmk g) W
  | (2, q, _) => ty_wr W q 0
  | _ => false
noncomputable def ty_mth (a W pc : Nat) (lv : List (Nat × ty_V)) (st : List ty_V) (ov : ty_O) (N : Nat) (k : ty_C) : Bool := match a, st with
  | 700, y :: x :: st => Nat.beq y.1 1 && (Nat.beq x.1 1 && (ty_c6 st && (Nat.ble (ty_cs st) 100 && (ty_brC 4 x y lv st ov (fun lv st ov _ y => ax_fn (pc + 3) fun p => k p lv (y :: st) ov N 0 0) && ty_brC 5 x y lv st ov (fun lv st ov x _ => ax_fn (pc + 3) fun p => k p lv (x :: st) ov N 0 0)))))
  | 701, y :: x :: st => Nat.beq y.1 1 && (Nat.beq x.1 1 && (ty_c6 st && (Nat.ble (ty_cs st) 100 && (ty_brC 4 x y lv st ov (fun lv st ov x _ => ax_fn (pc + 3) fun p => k p lv (x :: st) ov N 0 0) && ty_brC 5 x y lv st ov (fun lv st ov _ y => ax_fn (pc + 3) fun p => k p lv (y :: st) ov N 0 0)))))
  | 702, y :: x :: st => Nat.beq y.1 0 && (Nat.beq x.1 0 && (ty_c6 st && (Nat.ble (ty_cs st) 100 && (ty_brC 2 x y lv st ov (fun lv st ov _ y => ax_fn (pc + 3) fun p => k p lv (y :: st) ov N 0 0) && ty_brC 3 x y lv st ov (fun lv st ov x _ => ax_fn (pc + 3) fun p => k p lv (x :: st) ov N 0 0)))))
  | 703, (0, _, _, n1, n2) :: (0, _, _, z1, z2) :: dst :: (0, _, _, z3, z4) :: src :: st => ty_c6 st && (Nat.ble (ty_cs st) 100 && (ty_eq z1 0 && (ty_eq z2 0 && (ty_eq z3 0 && (ty_eq z4 0 && (ty_eq n1 n2 && (match ty_ag dst, ty_ag src with
    | some g, some g' => Nat.beq g g' && (Nat.blt g 6 && ((Nat.beq (ty_gl g).1 100 || Nat.beq (ty_gl g).1 101) && (Nat.blt (ty_gt g 0).1 2 && (Nat.beq (ty_gt g 0).1 ((ty_gl g).1 - 100) && (ty_eq n1 ((ty_gl g).2 : Int) && (ty_aw W dst && ax_flt (fun e => !(ax_gm g e.1)) ov fun ov => ax_fn (pc + 3) fun pc' => k pc' lv st ov N 0 0))))))
    | _, _ => false)))))))
  | _, _ => false
