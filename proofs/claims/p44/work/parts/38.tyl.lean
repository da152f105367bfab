/-! THE TYPED MACHINE, 7: loads -/
/-- one int for sure -/
def ty_sa (x y : ty_V) : Bool := match x, y with
  | (_, n, f, a, z), (k, m, g, b, w) => Nat.beq k 0 && ((!(Nat.beq n 0) && (Nat.beq n m && ty_eq f g)) || (ty_eq a z && (ty_eq b w && ty_eq a b)))
theorem ty_sa_ok {ρ : Nat → Int} {N : Nat} {x y : ty_V} {i j : Int} (h : ty_sa x y = true) (hx : ty_in ρ N x.2.1 x.2.2.1 x.2.2.2.1 x.2.2.2.2 i) (hy : ty_in ρ N y.2.1 y.2.2.1 y.2.2.2.1 y.2.2.2.2 j) : i = j ∧ Nat.beq y.1 0 = true := by
  obtain ⟨kx, n, f, a, z⟩ := x
  obtain ⟨ky, m, g, b, w⟩ := y
  obtain ⟨x1, x2, x3⟩ := hx
  obtain ⟨y1, y2, y3⟩ := hy
  dsimp only at x1 x2 x3 y1 y2 y3
  simp only [ty_sa, Bool.and_eq_true, Bool.or_eq_true, Bool.not_eq_true', ty_eq_iff] at h
  obtain ⟨h0, h1⟩ := h
  refine ⟨?_, h0⟩
  rcases h1 with ⟨q1, q2, q3⟩ | ⟨q1, q2, q3⟩
  · have hn := Nat.ne_of_beq_eq_false q1
    have hm := Nat.eq_of_beq_eq_true q2
    subst hm
    rcases x3 with p | p
    · exact absurd p hn
    · rcases y3 with r | r
      · exact absurd r hn
      · omega
  · omega
/-- fewer, by what is known of the place and of their difference -/
def ty_rf (t a p : ty_V) : ty_V := match t, a, p with
  | (k, n, f, lo, hi), (ka, _, _, al, ah), (kp, _, _, pl, ph) => bif Nat.beq k 0 && (Nat.beq ka 0 && Nat.beq kp 0) then (k, n, f, ty_ma lo (al - ph), ty_mi hi (ah - pl)) else (k, n, f, lo, hi)
/-- of the heap: with a name where it has none -/
noncomputable def ty_gfC (q j pc' : Nat) (t : ty_V) (lv : List (Nat × ty_V)) (st : List ty_V) (ov : ty_O) (N : Nat) (k : ty_C) : Bool := ty_nm N t fun t M => ax_if (Nat.beq M N) (ax_fn pc' fun pc' => k pc' lv (t :: st) ov N 0 0) (ty_os ov q (j + 1) t fun ov => ax_fn pc' fun pc' => k pc' lv (t :: st) ov M 0 0)
noncomputable def ty_gf (a b pc : Nat) (lv : List (Nat × ty_V)) (st : List ty_V) (ov : ty_O) (N : Nat) (k : ty_C) : Bool := match st with
  | (2, q, _) :: st => Nat.blt q 198 && (Nat.beq (ty_tab q).1 a && (Nat.blt a 99 && (Nat.blt b (ty_tab q).2.1 && ax_if (Nat.beq q 181 && Nat.beq b 14) (ty_gfC q b (pc + 3) (ty_rf (ty_lk ov q b) (ty_lk ov 181 8) (ty_lk ov 300 1)) lv st ov N k) (ty_gfC q b (pc + 3) (ty_lk ov q b) lv st ov N k))))
  | (3, g, _) :: st => Nat.beq (ty_gl g).1 a && (Nat.blt a 99 && (Nat.blt b (ty_gl g).2 && (Nat.blt g 6 && ax_fn (pc + 3) fun pc' => k pc' lv (ty_gt g b :: st) ov N 0 0)))
  | _ => false
theorem ty_ar_no {q : Nat} (h : (ty_tab q).1 < 99) : ty_ar q = false := by
  unfold ty_ar
  cases e : Nat.ble 100 (ty_tab q).1 with
  | false => rfl
  | true =>
    have := Nat.le_of_ble_eq_true e
    omega
theorem ty_ar_yes {q : Nat} (h : 100 ≤ (ty_tab q).1) : ty_ar q = true := Nat.ble_eq_true_of_le h
theorem ty_lk_ot {ov : ty_O} {q j : Nat} {t : ty_V} (q' j' : Nat) : ty_lk (ty_ot ov q (j + 1) t) q' j' = if q' = q ∧ j' = j then t else ty_lk ov q' j' := by
  have hu : ty_un (ty_ot ov q (j + 1) t) q' = ty_un ov q' := by
    unfold ty_un
    rw [ty_fi_ot, if_neg (by omega)]
  unfold ty_lk
  rw [ty_fi_ot, hu]
  by_cases e : q' = q ∧ j' = j
  · rw [if_pos e, if_pos (by omega)]
  · rw [if_neg e, if_neg (by omega)]
theorem ty_q9 {q : Nat} (h : q < 198) : q < 1000000000 := Nat.lt_of_lt_of_le h (by decide)
theorem ty_tb_1 : ((List.range 301).all fun q => !(ty_ar q) || Nat.beq (ty_tab q).2.2.2.length 1) = true := by decide +kernel
theorem ty_tt_ar {q : Nat} (ha : ty_ar q = true) (j : Nat) : ty_tt q j = ty_tt q 0 := by
  have h1 : (ty_tab q).2.2.2.length = 1 := by
    rcases Nat.lt_or_ge q 301 with h | h
    · have := List.all_eq_true.mp ty_tb_1 q (List.mem_range.mpr h)
      rw [ha, Bool.not_true, Bool.false_or] at this
      exact Nat.eq_of_beq_eq_true this
    · have e1 : Nat.blt q 27 = false := ty_blt_no (by omega)
      have e2 : Nat.blt q 181 = false := ty_blt_no (by omega)
      have e3 : Nat.blt q 198 = false := ty_blt_no (by omega)
      have e4 : Nat.beq q 300 = false := ty_beq_no (by omega)
      unfold ty_tab
      rw [e1, e2, e3, e4]
      rfl
  unfold ty_tt
  split
  · rfl
  · rename_i t ts e
    rw [e] at h1
    have : ts = [] := List.length_eq_zero_iff.mp (by simpa using h1)
    subst this
    rcases j with _ | j <;> rfl
section TYL
variable {I : ax_H → Prop} {W : Nat} {K : Int} {ρ : Nat → Int} {N : Nat} {ov : ty_O} {h : ax_H} {lv : List (Nat × ty_V)} {lvx : List (Nat × Value)} {st : List ty_V} {stx : List Value} {nL pc a b c : Nat} {v : Value} {k : ty_C}
/-- what is known of one thing in the heap more exactly -/
theorem ty_H.put {q j : Nat} {t : ty_V} {x : Value} (hH : ty_H K ρ N ov h) (hq : q < 198) (hx : ty_fd h q j = some x) (ht : ty_r ρ N h t x) : ty_H K ρ N (ty_ot ov q (j + 1) t) h := by
  obtain ⟨h1, h2, h3⟩ := hH
  refine ⟨h1, fun q' hq' => ?_, fun j' => ?_⟩
  · obtain ⟨vs, e1, e2, e3⟩ := h2 q' hq'
    refine ⟨vs, e1, e2, fun j' y hy => ⟨?_, (e3 j' y hy).2⟩⟩
    rw [ty_lk_ot]
    by_cases e : q' = q ∧ j' = j
    · rw [if_pos e]
      obtain ⟨rfl, rfl⟩ := e
      unfold ty_fd at hx
      rw [e1] at hx
      have : vs[j']? = some x := hx
      rw [hy] at this
      cases this
      exact ht
    · rw [if_neg e]
      exact (e3 j' y hy).1
  · rw [ty_lk_ot, if_neg (by omega)]
    exact h3 j'
theorem ty_gfC_ok {q j pc' : Nat} {t : ty_V} {x : Value} {o : Option ax_S} (hg : ty_g K ρ N lv st ov lvx stx h) (hi : I h) (hq : q < 198) (hx : ty_fd h q j = some x) (ht : ty_r ρ N h t x) (hs : ty_gfC q j pc' t lv st ov N k = true) (ho : o = some (pc', lvx, x :: stx, h, 0, 0)) : ty_ok I W K ρ N k h o := by
  unfold ty_gfC at hs
  obtain ⟨ρ', N', t', e, e1, e2, e3, e9⟩ := ty_nm_ok (f := fun t M => ax_if (Nat.beq M N) (ax_fn pc' fun pc' => k pc' lv (t :: st) ov N 0 0) (ty_os ov q (j + 1) t fun ov => ax_fn pc' fun pc' => k pc' lv (t :: st) ov M 0 0)) ht
  rw [e] at hs
  simp only [ty_os_eq, ax_fn_eq] at hs
  obtain ⟨g1, g2, g3⟩ := e2 K lv st ov lvx stx hg
  cases hM : Nat.beq N' N with
  | true =>
    have := Nat.eq_of_beq_eq_true hM
    subst this
    simp only [ax_if, hM] at hs
    exact ⟨pc', lv, _, ov, N', 0, 0, ρ', lvx, _, h, hs, ho, ⟨g1, ⟨x, stx, rfl, e1, g2⟩, g3⟩, ty_F_refl W h, hi, e9⟩
  | false =>
    simp only [ax_if, hM] at hs
    exact ⟨pc', lv, _, _, N', 0, 0, ρ', lvx, _, h, hs, ho, ⟨g1, ⟨x, stx, rfl, e1, g2⟩, g3.put hq hx e1⟩, ty_F_refl W h, hi, e9⟩
theorem ty_rf_ok {t : ty_V} {x : Value} (hH : ty_H K ρ N ov h) (hx : ty_fd h 181 14 = some x) (ht : ty_r ρ N h t x) : ty_r ρ N h (ty_rf t (ty_lk ov 181 8) (ty_lk ov 300 1)) x := by
  obtain ⟨h1, h2, h3⟩ := hH
  obtain ⟨kt, n, f, lo, hi⟩ := t
  obtain ⟨⟨ka, na, fa, al, ah⟩, ea⟩ : ∃ q, ty_lk ov 181 8 = q := ⟨_, rfl⟩
  obtain ⟨⟨kp, np, fp, pl, ph⟩, ep⟩ : ∃ q, ty_lk ov 300 1 = q := ⟨_, rfl⟩
  rw [ea, ep]
  unfold ty_rf
  dsimp only
  cases hc : Nat.beq kt 0 && (Nat.beq ka 0 && Nat.beq kp 0) with
  | false => exact ht
  | true =>
    simp only [Bool.and_eq_true] at hc
    have k1 := Nat.eq_of_beq_eq_true hc.1
    have k2 := Nat.eq_of_beq_eq_true hc.2.1
    have k3 := Nat.eq_of_beq_eq_true hc.2.2
    subst k1; subst k2; subst k3
    obtain ⟨r, rfl, r1, r2, r3⟩ := ht
    obtain ⟨vs, e1, e2, e3⟩ := h2 181 (by omega)
    have hl : vs.length = 32 := by rw [e2]; decide +kernel
    have hA : vs[8]? = some (vs[8]'(by omega)) := List.getElem?_eq_getElem (by omega)
    have q1 := (e3 8 _ hA).1
    rw [ea] at q1
    obtain ⟨p, p1, p2, p3, p4⟩ := q1
    have hfa : ty_fd h 181 8 = some (.int p) := by
      unfold ty_fd
      rw [e1]
      show vs[8]? = _
      rw [hA, p1]
    have hps := h3 1
    rw [ep] at hps
    have hv := hps (p.toInt - r.toInt) (by simp only [ty_pv, hfa, hx, ty_iv, Option.bind_some, Option.map_some])
    obtain ⟨v1, v2, -⟩ := hv
    have l1 := @ty_ma_ok lo (al - ph)
    have u1 := @ty_mi_ok hi (ah - pl)
    exact ⟨r, rfl, by omega, by omega, r3⟩
theorem ty_one_gf {ix q : Nat} {vs : List Value} {x : Value} (h1 : ax_get ty_R h q = some (a, vs)) (h2 : a ≠ 900) (h3 : vs[b]? = some x) : ax_one ty_R nL pc (.getfield ix) a b c v lvx (.ref q :: stx) h = some (pc + 3, lvx, x :: stx, h, 0, 0) := by
  simp only [ax_one, h1]
  rw [if_neg (by rintro (e | e); exact h2 e; exact e trivial), h3]
  rfl
theorem ty_gf_ok {ix : Nat} (hg : ty_g K ρ N lv st ov lvx stx h) (hi : I h) (hs : ty_gf a b pc lv st ov N k = true) : ty_ok I W K ρ N k h (ax_one ty_R nL pc (.getfield ix) a b c v lvx stx h) := by
  obtain ⟨g1, g2, g3⟩ := hg
  unfold ty_gf at hs
  split at hs
  · rename_i q r s
    obtain ⟨x, rx, rfl, hx, h2⟩ := g2
    cases (show x = .ref q from hx)
    simp only [Bool.and_eq_true] at hs
    obtain ⟨s1, s2, s3, s4, s5⟩ := hs
    have hq : q < 198 := Nat.le_of_ble_eq_true s1
    have ht := Nat.eq_of_beq_eq_true s2
    have ha : a < 99 := Nat.le_of_ble_eq_true s3
    have hb : b < (ty_tab q).2.1 := Nat.le_of_ble_eq_true s4
    obtain ⟨vs, e1, e2, e3⟩ := g3.2.1 q hq
    have hl : b < vs.length := by omega
    have hv : vs[b]? = some vs[b] := List.getElem?_eq_getElem hl
    have hf : ty_fd h q b = some vs[b] := by
      unfold ty_fd
      rw [e1]
      exact hv
    have ho : ax_one ty_R nL pc (.getfield ix) a b c v lvx (.ref q :: rx) h = some (pc + 3, lvx, vs[b] :: rx, h, 0, 0) :=
      ty_one_gf (by rw [ax_get_lt (ty_q9 hq), e1, ht]) (by omega) hv
    cases hc : Nat.beq q 181 && Nat.beq b 14 with
    | false =>
      simp only [ax_if, hc] at s5
      exact ty_gfC_ok ⟨g1, h2, g3⟩ hi hq hf (e3 b _ hv).1 s5 ho
    | true =>
      simp only [ax_if, hc] at s5
      simp only [Bool.and_eq_true] at hc
      have k1 := Nat.eq_of_beq_eq_true hc.1
      have k2 := Nat.eq_of_beq_eq_true hc.2
      subst k1; subst k2
      exact ty_gfC_ok ⟨g1, h2, g3⟩ hi hq hf (ty_rf_ok g3 hf (e3 14 _ hv).1) s5 ho
  · rename_i g r s
    obtain ⟨x, rx, rfl, hx, h2⟩ := g2
    obtain ⟨q, rfl, hm⟩ := hx
    simp only [Bool.and_eq_true, ax_fn_eq] at hs
    obtain ⟨s1, s2, s3, s4, s5⟩ := hs
    have ht := Nat.eq_of_beq_eq_true s1
    have ha : a < 99 := Nat.le_of_ble_eq_true s2
    have hb : b < (ty_gl g).2 := Nat.le_of_ble_eq_true s3
    have hg6 : g < 6 := Nat.le_of_ble_eq_true s4
    have hq := ty_gm_lt hm
    obtain ⟨m1, m2, m3, m4⟩ := ty_g_ok hg6 hm
    obtain ⟨vs, e1, e2, e3⟩ := g3.2.1 q hq
    have hl : b < vs.length := by omega
    have hv : vs[b]? = some vs[b] := List.getElem?_eq_getElem hl
    have hno : Nat.ble 100 (ty_gl g).1 = false := by
      cases e : Nat.ble 100 (ty_gl g).1 with
      | false => rfl
      | true =>
        have := Nat.le_of_ble_eq_true e
        omega
    exact ⟨pc + 3, lv, _, ov, N, 0, 0, ρ, lvx, _, h, s5, ty_one_gf (by rw [ax_get_lt (ty_q9 hq), e1, m1, ht]) (by omega) hv, ⟨g1, ⟨vs[b], rx, rfl, ty_tl_ok (m4 b (by rw [hno]; exact hb)) ((e3 b _ hv).2 m3), h2⟩, g3⟩, ty_F_refl W h, hi, ty_ex_refl ρ N⟩
  · cases hs
end TYL
/-- which arrays an instruction loads from -/
def ty_lo (ins : Instr) (tag : Nat) : Bool := match ins with
  | .iaload => Nat.beq tag 100
  | .laload => Nat.beq tag 101
  | .baload => Nat.beq tag 102
  | .aaload => Nat.ble 104 tag && Nat.blt tag 107
  | _ => false
/-- an array whose elements are followed one by one -/
def ty_tk (q : Nat) : Bool := Nat.beq q 184
/-- nothing is said of single elements -/
def ty_no (ov : ty_O) (q : Nat) : Bool := ov.all (fun e => !(Nat.beq e.1 q && Nat.ble 1 e.2.1))
theorem ty_no_ok {ov : ty_O} {q : Nat} (h : ty_no ov q = true) (ha : ty_ar q = true) (j : Nat) : ty_lk ov q j = ty_un ov q := by
  unfold ty_lk
  cases e : ty_fi ov q (j + 1) with
  | none => rw [ha]; rfl
  | some t =>
    have h1 := List.all_eq_true.mp h _ (ty_fi_mem e)
    simp at h1
    have h2 : Nat.ble 1 (j + 1) = true := Nat.ble_eq_true_of_le (by omega)
    rw [h2] at h1
    cases h1
theorem ty_idx {n : Nat} {i : Int32} (h0 : 0 ≤ i.toInt) (h1 : i.toInt < n) : ¬ i < 0 ∧ i.toNatClampNeg < n ∧ (i.toNatClampNeg : Int) = i.toInt := by
  have e0 : (0 : Int32).toInt = 0 := by decide
  have e1 : i.toNatClampNeg = i.toInt.toNat := rfl
  refine ⟨by rw [Int32.lt_iff_toInt_lt, e0]; omega, by rw [e1]; omega, by rw [e1]; omega⟩
noncomputable def ty_al (ins : Instr) (pc : Nat) (lv : List (Nat × ty_V)) (st : List ty_V) (ov : ty_O) (N : Nat) (k : ty_C) : Bool := match st with
  | (0, n, f, lo, hi) :: (kx, q, _) :: st => ty_le 0 lo && (match kx with
    | 2 => ax_if (Nat.blt q 198)
      (ty_lo ins (ty_tab q).1 && (ty_le (hi + 1) ((ty_tab q).2.1 : Int) && ax_if (ty_tk q && ty_eq lo hi)
        (ty_gfC q lo.toNat (pc + 1) (ty_lk ov q lo.toNat) lv st ov N k)
        (ty_no ov q && ax_if (Nat.beq q 185 && (Nat.beq (ty_lk ov 300 0).1 0 && (ty_sa (0, n, f, lo, hi) (ty_lk ov 181 9) && Nat.beq (ty_un ov q).1 0)))
          (ax_fn (pc + 1) fun pc' => k pc' lv (ty_lk ov 300 0 :: st) ov N 0 0)
          (ax_fn (pc + 1) fun pc' => k pc' lv (ty_un ov q :: st) ov N 0 0))))
      (Nat.beq q 1000000000 && (ty_lo ins 101 && (ty_le hi 5 && ax_fn (pc + 1) fun pc' => k pc' lv (ty_AL :: st) ov N 0 0)))
    | 3 => Nat.blt q 6 && (Nat.ble 100 (ty_gl q).1 && (ty_lo ins (ty_gl q).1 && (ty_le (hi + 1) ((ty_gl q).2 : Int) && ax_fn (pc + 1) fun pc' => k pc' lv (ty_gt q 0 :: st) ov N 0 0)))
    | 4 => ty_lo ins (ty_lt q).1 && (ty_le (hi + 1) ((ty_lt q).2.1 : Int) && ax_fn (pc + 1) fun pc' => k pc' lv ((0, 0, 0, (ty_lt q).2.2) :: st) ov N 0 0)
    | _ => false)
  | _ => false
section TYL
variable {I : ax_H → Prop} {W : Nat} {K : Int} {ρ : Nat → Int} {N : Nat} {ov : ty_O} {h : ax_H} {lv : List (Nat × ty_V)} {lvx : List (Nat × Value)} {st : List ty_V} {stx : List Value} {nL pc a b c : Nat} {v : Value} {k : ty_C}
theorem ty_one_lo {ins : Instr} {tag q : Nat} {vs : List Value} {i : Int32} {x : Value} (hl : ty_lo ins tag = true) (hg : ax_get ty_R h q = some (tag, vs)) (h0 : ¬ i < 0) (hx : vs[i.toNatClampNeg]? = some x) : ax_one ty_R nL pc ins a b c v lvx (.int i :: .ref q :: stx) h = some (pc + 1, lvx, x :: stx, h, 0, 0) := by
  unfold ty_lo at hl
  split at hl
  · have := Nat.eq_of_beq_eq_true hl
    subst this
    simp only [ax_one, hg, if_neg h0, hx, ax_go]
  · have := Nat.eq_of_beq_eq_true hl
    subst this
    simp only [ax_one, hg, if_neg h0, hx, ax_go]
  · have := Nat.eq_of_beq_eq_true hl
    subst this
    simp only [ax_one, hg, if_neg h0, hx, ax_go]
  · simp only [Bool.and_eq_true] at hl
    have h1 := Nat.le_of_ble_eq_true hl.1
    have h2 : tag < 107 := Nat.le_of_ble_eq_true hl.2
    simp only [ax_one, hg]
    rw [if_neg (by rintro (e | e | e); exact h0 e; omega; omega), hx]
    rfl
  · cases hl
theorem ty_lo_ar {ins : Instr} {tag : Nat} (hl : ty_lo ins tag = true) : 100 ≤ tag := by
  unfold ty_lo at hl
  split at hl
  · have := Nat.eq_of_beq_eq_true hl; omega
  · have := Nat.eq_of_beq_eq_true hl; omega
  · have := Nat.eq_of_beq_eq_true hl; omega
  · simp only [Bool.and_eq_true] at hl
    have h1 := Nat.le_of_ble_eq_true hl.1
    omega
  · cases hl
theorem ty_al_ok {ins : Instr} (hg : ty_g K ρ N lv st ov lvx stx h) (hi : I h) (hs : ty_al ins pc lv st ov N k = true) : ty_ok I W K ρ N k h (ax_one ty_R nL pc ins a b c v lvx stx h) := by
  obtain ⟨g1, g2, g3⟩ := hg
  unfold ty_al at hs
  split at hs
  · rename_i n f lo hi2 kx q r s
    obtain ⟨y, _, rfl, hy, x, rx, rfl, hx, h2⟩ := g2
    obtain ⟨i, rfl, hin⟩ := hy
    obtain ⟨i1, i2, i3⟩ := id hin
    simp only [Bool.and_eq_true] at hs
    obtain ⟨s0, s1⟩ := hs
    have s0 := ty_le_iff.mp s0
    split at s1
    · cases (show x = .ref q from hx)
      cases hq : Nat.blt q 198 with
      | true =>
        simp only [ax_if, hq, Bool.and_eq_true] at s1
        have hq : q < 198 := Nat.le_of_ble_eq_true hq
        obtain ⟨t1, t2, t3⟩ := s1
        have t2 := ty_le_iff.mp t2
        have hA := ty_lo_ar t1
        obtain ⟨vs, e1, e2, e3⟩ := g3.2.1 q hq
        obtain ⟨d1, d2, d3⟩ := ty_idx (n := vs.length) (i := i) (by omega) (by omega)
        have hv : vs[i.toNatClampNeg]? = some vs[i.toNatClampNeg] := List.getElem?_eq_getElem d2
        have hf : ty_fd h q i.toNatClampNeg = some vs[i.toNatClampNeg] := by
          unfold ty_fd
          rw [e1]
          exact hv
        have ho := ty_one_lo (nL := nL) (pc := pc) (a := a) (b := b) (c := c) (v := v) (lvx := lvx) (stx := rx) t1 (by rw [ax_get_lt (ty_q9 hq)]; exact e1) d1 hv
        cases hk : ty_tk q && ty_eq lo hi2 with
        | true =>
          simp only [hk] at t3
          simp only [Bool.and_eq_true, ty_eq_iff] at hk
          have e5 : lo.toNat = i.toNatClampNeg := by omega
          rw [e5] at t3
          exact ty_gfC_ok ⟨g1, h2, g3⟩ hi hq hf (e3 _ _ hv).1 t3 ho
        | false =>
          simp only [hk, Bool.and_eq_true] at t3
          obtain ⟨t4, t5⟩ := t3
          have e4 := (e3 _ _ hv).1
          rw [ty_no_ok t4 (ty_ar_yes hA)] at e4
          cases hp : Nat.beq q 185 && (Nat.beq (ty_lk ov 300 0).1 0 && (ty_sa (0, n, f, lo, hi2) (ty_lk ov 181 9) && Nat.beq (ty_un ov q).1 0)) with
          | false =>
            simp only [hp, ax_fn_eq] at t5
            exact ⟨pc + 1, lv, _, ov, N, 0, 0, ρ, lvx, _, h, t5, ho, ⟨g1, ⟨_, rx, rfl, e4, h2⟩, g3⟩, ty_F_refl W h, hi, ty_ex_refl ρ N⟩
          | true =>
            simp only [hp, ax_fn_eq] at t5
            simp only [Bool.and_eq_true] at hp
            obtain ⟨p1, p2, p3, p4⟩ := hp
            have p1 := Nat.eq_of_beq_eq_true p1
            subst p1
            refine ⟨pc + 1, lv, _, ov, N, 0, 0, ρ, lvx, _, h, t5, ho, ⟨g1, ⟨_, rx, rfl, ?_, h2⟩, g3⟩, ty_F_refl W h, hi, ty_ex_refl ρ N⟩
            -- the byte where the token begins
            obtain ⟨ws, w1, w2, w3⟩ := g3.2.1 181 (by omega)
            have hwl : ws.length = 32 := by rw [w2]; decide +kernel
            have hw : ws[9]? = some (ws[9]'(by omega)) := List.getElem?_eq_getElem (by omega)
            have hw3 := (w3 9 _ hw).1
            obtain ⟨kk, hkk⟩ : ∃ t, ty_lk ov 181 9 = t := ⟨_, rfl⟩
            rw [hkk] at p3 hw3
            have hk0 : Nat.beq kk.1 0 = true := by
              obtain ⟨k0, k1, k2, k3, k4⟩ := kk
              simp only [ty_sa, Bool.and_eq_true] at p3
              exact p3.1
            obtain ⟨fi, hfi, hfin⟩ := ty_r0 hk0 hw3
            obtain ⟨hef, -⟩ := ty_sa_ok p3 (x := (0, n, f, lo, hi2)) hin hfin
            have hps := g3.2.2 0
            obtain ⟨⟨pk, pn, pf, pa, pz⟩, hpe⟩ : ∃ t, ty_lk ov 300 0 = t := ⟨_, rfl⟩
            rw [hpe] at hps p2 ⊢
            have p2 := Nat.eq_of_beq_eq_true p2
            dsimp only at p2
            subst p2
            -- it is an int
            have e6 : ∃ z : Int32, vs[i.toNatClampNeg] = .int z := by
              obtain ⟨z, hz, -⟩ := ty_r0 p4 e4
              exact ⟨z, hz⟩
            obtain ⟨z, hz⟩ := e6
            rw [hz]
            refine ⟨z, rfl, hps z.toInt ?_⟩
            have hfd : ty_fd h 181 9 = some (.int fi) := by
              unfold ty_fd
              rw [w1]
              show ws[9]? = _
              rw [hw, hfi]
            have hfd2 : ty_fd h 185 fi.toInt.toNat = some (.int z) := by
              rw [← hef, show i.toInt.toNat = i.toNatClampNeg from rfl, hf, hz]
            simp only [ty_pv, hfd, ty_iv, Option.bind_some, hfd2]
      | false =>
        simp only [ax_if, hq, Bool.and_eq_true, ax_fn_eq] at s1
        obtain ⟨t1, t2, t3, t4⟩ := s1
        have t1 := Nat.eq_of_beq_eq_true t1
        subst t1
        have t3 := ty_le_iff.mp t3
        obtain ⟨d1, d2, d3⟩ := ty_idx (n := ax_bits.length) (i := i) (by omega) (by show i.toInt < ((6 : Nat) : Int); omega)
        have hv : ax_bits[i.toNatClampNeg]? = some ax_bits[i.toNatClampNeg] := List.getElem?_eq_getElem d2
        have hb : ∀ j (hj : j < ax_bits.length), ∃ z : Int64, ax_bits[j] = .long z := by
          intro j hj
          have : j < 6 := hj
          rcases (by omega : j = 0 ∨ j = 1 ∨ j = 2 ∨ j = 3 ∨ j = 4 ∨ j = 5) with rfl | rfl | rfl | rfl | rfl | rfl <;> exact ⟨_, rfl⟩
        obtain ⟨z, hz⟩ := hb _ d2
        refine ⟨pc + 1, lv, _, ov, N, 0, 0, ρ, lvx, _, h, t4, ty_one_lo (tag := 101) (vs := ax_bits) t2 rfl d1 hv, ⟨g1, ⟨_, rx, rfl, ?_, h2⟩, g3⟩, ty_F_refl W h, hi, ty_ex_refl ρ N⟩
        rw [hz]
        exact ty_AL_ok z
    · obtain ⟨p, rfl, hm⟩ := hx
      simp only [Bool.and_eq_true, ax_fn_eq] at s1
      obtain ⟨t1, t2, t3, t4, t5⟩ := s1
      have t1 : q < 6 := Nat.le_of_ble_eq_true t1
      have t4 := ty_le_iff.mp t4
      have hp := ty_gm_lt hm
      obtain ⟨m1, m2, m3, m4⟩ := ty_g_ok t1 hm
      obtain ⟨vs, e1, e2, e3⟩ := g3.2.1 p hp
      obtain ⟨d1, d2, d3⟩ := ty_idx (n := vs.length) (i := i) (by omega) (by omega)
      have hv : vs[i.toNatClampNeg]? = some vs[i.toNatClampNeg] := List.getElem?_eq_getElem d2
      have e4 := (e3 _ _ hv).2 m3
      have hz : ty_tt p i.toNatClampNeg = ty_tt p 0 := ty_tt_ar (ty_ar_yes (by rw [m1]; exact ty_lo_ar t3)) _
      rw [hz] at e4
      refine ⟨pc + 1, lv, _, ov, N, 0, 0, ρ, lvx, _, h, t5, ty_one_lo t3 (by rw [ax_get_lt (ty_q9 hp), e1, m1]) d1 hv, ⟨g1, ⟨_, rx, rfl, ty_tl_ok (m4 0 (by rw [t2]; exact Nat.one_pos)) e4, h2⟩, g3⟩, ty_F_refl W h, hi, ty_ex_refl ρ N⟩
    · obtain ⟨p, cc, rfl, hp, hp9, hc, l1, l2, l3⟩ := hx
      simp only [Bool.and_eq_true, ax_fn_eq] at s1
      obtain ⟨t1, t2, t3⟩ := s1
      have t2 := ty_le_iff.mp t2
      obtain ⟨c1, c2⟩ := cc
      dsimp only at l1 l2 l3
      obtain ⟨d1, d2, d3⟩ := ty_idx (n := c2.length) (i := i) (by omega) (by omega)
      have hv : c2[i.toNatClampNeg]? = some c2[i.toNatClampNeg] := List.getElem?_eq_getElem d2
      obtain ⟨z, hz, z1, z2⟩ := l3 _ (List.getElem_mem d2)
      refine ⟨pc + 1, lv, _, ov, N, 0, 0, ρ, lvx, _, h, t3, ty_one_lo t1 (by rw [ax_get_lt hp9, hc, l1]) d1 hv, ⟨g1, ⟨_, rx, rfl, ?_, h2⟩, g3⟩, ty_F_refl W h, hi, ty_ex_refl ρ N⟩
      rw [hz]
      exact ⟨z, rfl, z1, z2, Or.inl rfl⟩
    · cases s1
  · cases hs
end TYL
