/-! THE TYPED MACHINE, 2: numbers -/
def ty_AI : ty_V := (0, 0, 0, -2147483648, 2147483647)
def ty_AL : ty_V := (1, 0, 0, -9223372036854775808, 9223372036854775807)
def ty_w (k n : Nat) (f a z : Int) : ty_V := match k with
  | 0 => bif ty_le (-2147483648) a && ty_le z 2147483647 then (0, n, f, a, z) else ty_AI
  | _ => bif ty_le (-9223372036854775808) a && ty_le z 9223372036854775807 then (1, n, f, a, z) else ty_AL
section TYN
variable {ρ : Nat → Int} {N : Nat} {h : ax_H}
theorem ty_AI_ok (r : Int32) : ty_r ρ N h ty_AI (.int r) := by
  have h1 := Int32.le_toInt r
  have h2 := Int32.toInt_lt r
  exact ⟨r, rfl, by omega, by omega, Or.inl rfl⟩
theorem ty_AL_ok (r : Int64) : ty_r ρ N h ty_AL (.long r) := by
  have h1 := Int64.le_toInt r
  have h2 := Int64.toInt_lt r
  exact ⟨r, rfl, by omega, by omega, Or.inl rfl⟩
theorem ty_w0_ok {n : Nat} {f a z s : Int} {r : Int32} (hs : ty_in ρ N n f a z s) (e : r.toInt = s.bmod (2 ^ 32)) : ty_r ρ N h (ty_w 0 n f a z) (.int r) := by
  unfold ty_w
  cases hc : ty_le (-2147483648) a && ty_le z 2147483647 with
  | true =>
    simp only [Bool.and_eq_true, ty_le_iff] at hc
    have e2 : r.toInt = s := by
      rw [e]
      exact Int.bmod_eq_of_le (by have := hs.1; omega) (by have := hs.2.1; omega)
    exact ⟨r, rfl, by rw [e2]; exact hs⟩
  | false => exact ty_AI_ok r
theorem ty_w1_ok {n : Nat} {f a z s : Int} {r : Int64} (hs : ty_in ρ N n f a z s) (e : r.toInt = s.bmod (2 ^ 64)) : ty_r ρ N h (ty_w 1 n f a z) (.long r) := by
  unfold ty_w
  cases hc : ty_le (-9223372036854775808) a && ty_le z 9223372036854775807 with
  | true =>
    simp only [Bool.and_eq_true, ty_le_iff] at hc
    have e2 : r.toInt = s := by
      rw [e]
      exact Int.bmod_eq_of_le (by have := hs.1; omega) (by have := hs.2.1; omega)
    exact ⟨r, rfl, by rw [e2]; exact hs⟩
  | false => exact ty_AL_ok r
end TYN
def ty_tp (k : Nat) : ty_V := match k with
  | 0 => ty_AI
  | _ => ty_AL
/-- plus -/
def ty_ad (k : Nat) (x y : ty_V) : ty_V := match x, y with
  | (_, n, f, a, z), (_, m, g, b, w) => bif ty_eq b w && !(Nat.beq n 0) then ty_w k n (f + b) (a + b) (z + w) else bif ty_eq a z && !(Nat.beq m 0) then ty_w k m (g + a) (a + b) (z + w) else ty_w k 0 0 (a + b) (z + w)
def ty_su (k : Nat) (x y : ty_V) : ty_V := match x, y with
  | (_, n, f, a, z), (_, m, g, b, w) => bif Nat.beq n m && !(Nat.beq n 0) then ty_w k 0 0 (f - g) (f - g) else bif ty_eq b w && !(Nat.beq n 0) then ty_w k n (f - b) (a - w) (z - b) else ty_w k 0 0 (a - w) (z - b)
def ty_mu (k : Nat) (x y : ty_V) : ty_V := match x, y with
  | (_, _, _, a, z), (_, _, _, b, w) => ty_w k 0 0 (ty_mi (ty_mi (a * b) (a * w)) (ty_mi (z * b) (z * w))) (ty_ma (ty_ma (a * b) (a * w)) (ty_ma (z * b) (z * w)))
def ty_ne (k : Nat) (x : ty_V) : ty_V := match x with
  | (_, _, _, a, z) => ty_w k 0 0 (-z) (-a)
/-- by what isn't 0 -/
def ty_dv (k : Nat) (x y : ty_V) : Option ty_V := match x, y with
  | (_, _, _, a, z), (_, _, _, b, w) => bif ty_le 1 b then some (bif ty_eq b w then ty_w k 0 0 (a.tdiv b) (z.tdiv b) else ty_w k 0 0 (ty_mi a 0) (ty_ma z 0)) else bif ty_le w (-1) then some (ty_tp k) else none
def ty_re (k : Nat) (x y : ty_V) : Option ty_V := match x, y with
  | (_, _, _, a, z), (_, _, _, b, w) => bif ty_le 1 b then some (bif ty_le 0 a then ty_w k 0 0 0 (ty_mi z (w - 1)) else ty_w k 0 0 (1 - w) (w - 1)) else bif ty_le w (-1) then some (ty_tp k) else none
section TYN
variable {ρ : Nat → Int} {N : Nat} {h : ax_H}
theorem ty_ad_in {x y : ty_V} {i j : Int} (hx : ty_in ρ N x.2.1 x.2.2.1 x.2.2.2.1 x.2.2.2.2 i) (hy : ty_in ρ N y.2.1 y.2.2.1 y.2.2.2.1 y.2.2.2.2 j) : ∀ k, ∃ n f a z, ty_ad k x y = ty_w k n f a z ∧ ty_in ρ N n f a z (i + j) := by
  intro k
  obtain ⟨kx, n, f, a, z⟩ := x
  obtain ⟨ky, m, g, b, w⟩ := y
  obtain ⟨x1, x2, x3⟩ := hx
  obtain ⟨y1, y2, y3⟩ := hy
  dsimp only at x1 x2 x3 y1 y2 y3
  unfold ty_ad
  dsimp only
  cases h1 : ty_eq b w && !(Nat.beq n 0) with
  | true =>
    simp only [Bool.and_eq_true, ty_eq_iff, Bool.not_eq_true'] at h1
    have hn : n ≠ 0 := Nat.ne_of_beq_eq_false h1.2
    refine ⟨n, _, _, _, rfl, by omega, by omega, Or.inr ?_⟩
    rcases x3 with q | q
    · exact absurd q hn
    · exact ⟨q.1, by omega⟩
  | false =>
    cases h2 : ty_eq a z && !(Nat.beq m 0) with
    | true =>
      simp only [Bool.and_eq_true, ty_eq_iff, Bool.not_eq_true'] at h2
      have hn : m ≠ 0 := Nat.ne_of_beq_eq_false h2.2
      refine ⟨m, _, _, _, rfl, by omega, by omega, Or.inr ?_⟩
      rcases y3 with q | q
      · exact absurd q hn
      · exact ⟨q.1, by omega⟩
    | false => exact ⟨0, _, _, _, rfl, by omega, by omega, Or.inl rfl⟩
theorem ty_su_in {x y : ty_V} {i j : Int} (hx : ty_in ρ N x.2.1 x.2.2.1 x.2.2.2.1 x.2.2.2.2 i) (hy : ty_in ρ N y.2.1 y.2.2.1 y.2.2.2.1 y.2.2.2.2 j) : ∀ k, ∃ n f a z, ty_su k x y = ty_w k n f a z ∧ ty_in ρ N n f a z (i - j) := by
  intro k
  obtain ⟨kx, n, f, a, z⟩ := x
  obtain ⟨ky, m, g, b, w⟩ := y
  obtain ⟨x1, x2, x3⟩ := hx
  obtain ⟨y1, y2, y3⟩ := hy
  dsimp only at x1 x2 x3 y1 y2 y3
  unfold ty_su
  dsimp only
  cases h0 : Nat.beq n m && !(Nat.beq n 0) with
  | true =>
    simp only [Bool.and_eq_true, Bool.not_eq_true'] at h0
    have hn : n ≠ 0 := Nat.ne_of_beq_eq_false h0.2
    have hm := Nat.eq_of_beq_eq_true h0.1
    subst hm
    refine ⟨0, _, _, _, rfl, ?_, ?_, Or.inl rfl⟩ <;> omega
  | false =>
    cases h1 : ty_eq b w && !(Nat.beq n 0) with
    | true =>
      simp only [Bool.and_eq_true, ty_eq_iff, Bool.not_eq_true'] at h1
      have hn : n ≠ 0 := Nat.ne_of_beq_eq_false h1.2
      refine ⟨n, _, _, _, rfl, by omega, by omega, Or.inr ?_⟩
      rcases x3 with q | q
      · exact absurd q hn
      · exact ⟨q.1, by omega⟩
    | false => exact ⟨0, _, _, _, rfl, by omega, by omega, Or.inl rfl⟩
theorem ty_mul_le {a z i b w j : Int} (h1 : a ≤ i) (h2 : i ≤ z) (h3 : b ≤ j) (h4 : j ≤ w) : ty_mi (ty_mi (a * b) (a * w)) (ty_mi (z * b) (z * w)) ≤ i * j ∧ i * j ≤ ty_ma (ty_ma (a * b) (a * w)) (ty_ma (z * b) (z * w)) := by
  have l1 := @ty_mi_ok (ty_mi (a * b) (a * w)) (ty_mi (z * b) (z * w))
  have l2 := @ty_mi_ok (a * b) (a * w)
  have l3 := @ty_mi_ok (z * b) (z * w)
  have u1 := @ty_ma_ok (ty_ma (a * b) (a * w)) (ty_ma (z * b) (z * w))
  have u2 := @ty_ma_ok (a * b) (a * w)
  have u3 := @ty_ma_ok (z * b) (z * w)
  -- for a fixed number c, c * j lies between its two ends
  have mid : ∀ c : Int, (c * b ≤ c * j ∧ c * j ≤ c * w) ∨ (c * w ≤ c * j ∧ c * j ≤ c * b) := fun c => by
    rcases (by omega : 0 ≤ c ∨ c ≤ 0) with q | q
    · exact Or.inl ⟨Int.mul_le_mul_of_nonneg_left h3 q, Int.mul_le_mul_of_nonneg_left h4 q⟩
    · exact Or.inr ⟨Int.mul_le_mul_of_nonpos_left q h4, Int.mul_le_mul_of_nonpos_left q h3⟩
  have ha := mid a
  have hz := mid z
  rcases (by omega : 0 ≤ j ∨ j ≤ 0) with q | q
  · have q1 : a * j ≤ i * j := Int.mul_le_mul_of_nonneg_right h1 q
    have q2 : i * j ≤ z * j := Int.mul_le_mul_of_nonneg_right h2 q
    omega
  · have q1 : i * j ≤ a * j := Int.mul_le_mul_of_nonpos_right h1 q
    have q2 : z * j ≤ i * j := Int.mul_le_mul_of_nonpos_right h2 q
    omega
theorem ty_mu_in {x y : ty_V} {i j : Int} (hx : ty_in ρ N x.2.1 x.2.2.1 x.2.2.2.1 x.2.2.2.2 i) (hy : ty_in ρ N y.2.1 y.2.2.1 y.2.2.2.1 y.2.2.2.2 j) : ∀ k, ∃ n f a z, ty_mu k x y = ty_w k n f a z ∧ ty_in ρ N n f a z (i * j) := by
  intro k
  obtain ⟨kx, n, f, a, z⟩ := x
  obtain ⟨ky, m, g, b, w⟩ := y
  have := ty_mul_le hx.1 hx.2.1 hy.1 hy.2.1
  exact ⟨0, _, _, _, rfl, this.1, this.2, Or.inl rfl⟩
theorem ty_ne_in {x : ty_V} {i : Int} (hx : ty_in ρ N x.2.1 x.2.2.1 x.2.2.2.1 x.2.2.2.2 i) : ∀ k, ∃ n f a z, ty_ne k x = ty_w k n f a z ∧ ty_in ρ N n f a z (-i) := by
  intro k
  obtain ⟨kx, n, f, a, z⟩ := x
  obtain ⟨x1, x2, x3⟩ := hx
  dsimp only at x1 x2
  exact ⟨0, _, _, _, rfl, by omega, by omega, Or.inl rfl⟩
theorem ty_tdiv_le {i b : Int} (hb : 1 ≤ b) : (0 ≤ i → 0 ≤ i.tdiv b ∧ i.tdiv b ≤ i) ∧ (i ≤ 0 → i ≤ i.tdiv b ∧ i.tdiv b ≤ 0) := by
  refine ⟨fun h => ⟨Int.tdiv_nonneg h (by omega), Int.tdiv_le_self b h⟩, fun h => ?_⟩
  have h1 := Int.tdiv_nonneg (a := -i) (b := b) (by omega) (by omega)
  have h2 := Int.tdiv_le_self (a := -i) b (by omega)
  rw [Int.neg_tdiv] at h1 h2
  omega
/-- what is divided: an interval for the exact quotient, or anything -/
theorem ty_dv_in {k : Nat} {x y t : ty_V} {i j : Int} (hx : ty_in ρ N x.2.1 x.2.2.1 x.2.2.2.1 x.2.2.2.2 i) (hy : ty_in ρ N y.2.1 y.2.2.1 y.2.2.2.1 y.2.2.2.2 j) (hs : ty_dv k x y = some t) : j ≠ 0 ∧ (t = ty_tp k ∨ ∃ n f a z, t = ty_w k n f a z ∧ ty_in ρ N n f a z (i.tdiv j)) := by
  obtain ⟨kx, n, f, a, z⟩ := x
  obtain ⟨ky, m, g, b, w⟩ := y
  obtain ⟨x1, x2, x3⟩ := hx
  obtain ⟨y1, y2, y3⟩ := hy
  dsimp only at x1 x2 x3 y1 y2 y3
  unfold ty_dv at hs
  dsimp only at hs
  cases h1 : ty_le 1 b with
  | true =>
    rw [h1] at hs
    have hb := ty_le_iff.mp h1
    simp only [cond_true, Option.some.injEq] at hs
    refine ⟨by omega, Or.inr ?_⟩
    cases h2 : ty_eq b w with
    | true =>
      rw [h2] at hs
      have e := ty_eq_iff.mp h2
      obtain rfl : j = b := by omega
      exact ⟨0, _, _, _, hs.symm, Int.tdiv_le_tdiv (by omega) x1, Int.tdiv_le_tdiv (by omega) x2, Or.inl rfl⟩
    | false =>
      rw [h2] at hs
      have q := ty_tdiv_le (i := i) (b := j) (show 1 ≤ j by omega)
      have l1 := @ty_mi_ok a 0
      have u1 := @ty_ma_ok z 0
      have q3 : ty_mi a 0 ≤ i.tdiv j ∧ i.tdiv j ≤ ty_ma z 0 := by
        rcases (by omega : 0 ≤ i ∨ i ≤ 0) with p | p
        · have := q.1 p
          omega
        · have := q.2 p
          omega
      exact ⟨0, _, _, _, hs.symm, q3.1, q3.2, Or.inl rfl⟩
  | false =>
    rw [h1] at hs
    cases h3 : ty_le w (-1) with
    | true =>
      rw [h3] at hs
      have := ty_le_iff.mp h3
      simp only [cond_true, cond_false, Option.some.injEq] at hs
      exact ⟨by omega, Or.inl hs.symm⟩
    | false => rw [h3] at hs; cases hs
theorem ty_re_in {k : Nat} {x y t : ty_V} {i j : Int} (hx : ty_in ρ N x.2.1 x.2.2.1 x.2.2.2.1 x.2.2.2.2 i) (hy : ty_in ρ N y.2.1 y.2.2.1 y.2.2.2.1 y.2.2.2.2 j) (hs : ty_re k x y = some t) : j ≠ 0 ∧ (t = ty_tp k ∨ (1 ≤ j ∧ ∃ n f a z, t = ty_w k n f a z ∧ ty_in ρ N n f a z (i.tmod j))) := by
  obtain ⟨kx, n, f, a, z⟩ := x
  obtain ⟨ky, m, g, b, w⟩ := y
  obtain ⟨x1, x2, x3⟩ := hx
  obtain ⟨y1, y2, y3⟩ := hy
  dsimp only at x1 x2 x3 y1 y2 y3
  unfold ty_re at hs
  dsimp only at hs
  cases h1 : ty_le 1 b with
  | true =>
    rw [h1] at hs
    have hb := ty_le_iff.mp h1
    simp only [cond_true, Option.some.injEq] at hs
    refine ⟨by omega, Or.inr ⟨by omega, ?_⟩⟩
    have q1 := Int.tmod_lt_of_pos i (b := j) (by omega)
    have q2 := Int.lt_tmod_of_pos i (b := j) (by omega)
    cases h2 : ty_le 0 a with
    | true =>
      rw [h2] at hs
      have e := ty_le_iff.mp h2
      have q3 := Int.tmod_nonneg j (a := i) (by omega)
      have l1 := @ty_mi_ok z (w - 1)
      have q4 : i.tmod j ≤ i := by
        have := Int.tmod_def i j
        have h5 := Int.tdiv_nonneg (a := i) (b := j) (by omega) (by omega)
        have h6 : 0 ≤ j * i.tdiv j := Int.mul_nonneg (by omega) h5
        omega
      exact ⟨0, _, _, _, hs.symm, by omega, by omega, Or.inl rfl⟩
    | false =>
      rw [h2] at hs
      exact ⟨0, _, _, _, hs.symm, by omega, by omega, Or.inl rfl⟩
  | false =>
    rw [h1] at hs
    cases h3 : ty_le w (-1) with
    | true =>
      rw [h3] at hs
      have := ty_le_iff.mp h3
      simp only [cond_true, cond_false, Option.some.injEq] at hs
      exact ⟨by omega, Or.inl hs.symm⟩
    | false => rw [h3] at hs; cases hs
-- of ints
theorem ty_ad0 {x y : ty_V} {i j : Int32} (hx : ty_in ρ N x.2.1 x.2.2.1 x.2.2.2.1 x.2.2.2.2 i.toInt) (hy : ty_in ρ N y.2.1 y.2.2.1 y.2.2.2.1 y.2.2.2.2 j.toInt) : ty_r ρ N h (ty_ad 0 x y) (.int (i + j)) := by
  obtain ⟨n, f, a, z, e, hi⟩ := ty_ad_in hx hy 0
  rw [e]; exact ty_w0_ok hi (Int32.toInt_add _ _)
theorem ty_su0 {x y : ty_V} {i j : Int32} (hx : ty_in ρ N x.2.1 x.2.2.1 x.2.2.2.1 x.2.2.2.2 i.toInt) (hy : ty_in ρ N y.2.1 y.2.2.1 y.2.2.2.1 y.2.2.2.2 j.toInt) : ty_r ρ N h (ty_su 0 x y) (.int (i - j)) := by
  obtain ⟨n, f, a, z, e, hi⟩ := ty_su_in hx hy 0
  rw [e]; exact ty_w0_ok hi (Int32.toInt_sub _ _)
theorem ty_mu0 {x y : ty_V} {i j : Int32} (hx : ty_in ρ N x.2.1 x.2.2.1 x.2.2.2.1 x.2.2.2.2 i.toInt) (hy : ty_in ρ N y.2.1 y.2.2.1 y.2.2.2.1 y.2.2.2.2 j.toInt) : ty_r ρ N h (ty_mu 0 x y) (.int (i * j)) := by
  obtain ⟨n, f, a, z, e, hi⟩ := ty_mu_in hx hy 0
  rw [e]; exact ty_w0_ok hi (Int32.toInt_mul _ _)
theorem ty_ne0 {x : ty_V} {i : Int32} (hx : ty_in ρ N x.2.1 x.2.2.1 x.2.2.2.1 x.2.2.2.2 i.toInt) : ty_r ρ N h (ty_ne 0 x) (.int (-i)) := by
  obtain ⟨n, f, a, z, e, hi⟩ := ty_ne_in hx 0
  rw [e]; exact ty_w0_ok hi (Int32.toInt_neg _)
theorem ty_dv0 {x y t : ty_V} {i j : Int32} (hx : ty_in ρ N x.2.1 x.2.2.1 x.2.2.2.1 x.2.2.2.2 i.toInt) (hy : ty_in ρ N y.2.1 y.2.2.1 y.2.2.2.1 y.2.2.2.2 j.toInt) (hs : ty_dv 0 x y = some t) : j ≠ 0 ∧ ty_r ρ N h t (.int (i / j)) := by
  obtain ⟨h1, h2⟩ := ty_dv_in hx hy hs
  refine ⟨fun e => h1 (by rw [e]; rfl), ?_⟩
  rcases h2 with rfl | ⟨n, f, a, z, e, hi⟩
  · exact ty_AI_ok _
  · rw [e]; exact ty_w0_ok hi (Int32.toInt_div _ _)
theorem ty_re0 {x y t : ty_V} {i j : Int32} (hx : ty_in ρ N x.2.1 x.2.2.1 x.2.2.2.1 x.2.2.2.2 i.toInt) (hy : ty_in ρ N y.2.1 y.2.2.1 y.2.2.2.1 y.2.2.2.2 j.toInt) (hs : ty_re 0 x y = some t) : j ≠ 0 ∧ ty_r ρ N h t (.int (i - i / j * j)) := by
  obtain ⟨h1, h2⟩ := ty_re_in hx hy hs
  refine ⟨fun e => h1 (by rw [e]; rfl), ?_⟩
  rcases h2 with rfl | ⟨hj, n, f, a, z, e, hi⟩
  · exact ty_AI_ok _
  · rw [e]
    refine ty_w0_ok hi ?_
    have e1 : (i / j).toInt = i.toInt.tdiv j.toInt := Int32.toInt_div_of_ne_right _ _ (fun e => by
      have : j.toInt = (-1 : Int32).toInt := by rw [e]
      have h9 : (-1 : Int32).toInt = -1 := by decide
      omega)
    rw [Int32.toInt_sub, Int32.toInt_mul, e1, Int.tmod_def, Int.mul_comm j.toInt]
    exact Int.sub_bmod_bmod
-- of longs
theorem ty_ad1 {x y : ty_V} {i j : Int64} (hx : ty_in ρ N x.2.1 x.2.2.1 x.2.2.2.1 x.2.2.2.2 i.toInt) (hy : ty_in ρ N y.2.1 y.2.2.1 y.2.2.2.1 y.2.2.2.2 j.toInt) : ty_r ρ N h (ty_ad 1 x y) (.long (i + j)) := by
  obtain ⟨n, f, a, z, e, hi⟩ := ty_ad_in hx hy 1
  rw [e]; exact ty_w1_ok hi (Int64.toInt_add _ _)
theorem ty_su1 {x y : ty_V} {i j : Int64} (hx : ty_in ρ N x.2.1 x.2.2.1 x.2.2.2.1 x.2.2.2.2 i.toInt) (hy : ty_in ρ N y.2.1 y.2.2.1 y.2.2.2.1 y.2.2.2.2 j.toInt) : ty_r ρ N h (ty_su 1 x y) (.long (i - j)) := by
  obtain ⟨n, f, a, z, e, hi⟩ := ty_su_in hx hy 1
  rw [e]; exact ty_w1_ok hi (Int64.toInt_sub _ _)
theorem ty_mu1 {x y : ty_V} {i j : Int64} (hx : ty_in ρ N x.2.1 x.2.2.1 x.2.2.2.1 x.2.2.2.2 i.toInt) (hy : ty_in ρ N y.2.1 y.2.2.1 y.2.2.2.1 y.2.2.2.2 j.toInt) : ty_r ρ N h (ty_mu 1 x y) (.long (i * j)) := by
  obtain ⟨n, f, a, z, e, hi⟩ := ty_mu_in hx hy 1
  rw [e]; exact ty_w1_ok hi (Int64.toInt_mul _ _)
theorem ty_ne1 {x : ty_V} {i : Int64} (hx : ty_in ρ N x.2.1 x.2.2.1 x.2.2.2.1 x.2.2.2.2 i.toInt) : ty_r ρ N h (ty_ne 1 x) (.long (-i)) := by
  obtain ⟨n, f, a, z, e, hi⟩ := ty_ne_in hx 1
  rw [e]; exact ty_w1_ok hi (Int64.toInt_neg _)
theorem ty_dv1 {x y t : ty_V} {i j : Int64} (hx : ty_in ρ N x.2.1 x.2.2.1 x.2.2.2.1 x.2.2.2.2 i.toInt) (hy : ty_in ρ N y.2.1 y.2.2.1 y.2.2.2.1 y.2.2.2.2 j.toInt) (hs : ty_dv 1 x y = some t) : j ≠ 0 ∧ ty_r ρ N h t (.long (i / j)) := by
  obtain ⟨h1, h2⟩ := ty_dv_in hx hy hs
  refine ⟨fun e => h1 (by rw [e]; rfl), ?_⟩
  rcases h2 with rfl | ⟨n, f, a, z, e, hi⟩
  · exact ty_AL_ok _
  · rw [e]; exact ty_w1_ok hi (Int64.toInt_div _ _)
theorem ty_re1 {x y t : ty_V} {i j : Int64} (hx : ty_in ρ N x.2.1 x.2.2.1 x.2.2.2.1 x.2.2.2.2 i.toInt) (hy : ty_in ρ N y.2.1 y.2.2.1 y.2.2.2.1 y.2.2.2.2 j.toInt) (hs : ty_re 1 x y = some t) : j ≠ 0 ∧ ty_r ρ N h t (.long (i - i / j * j)) := by
  obtain ⟨h1, h2⟩ := ty_re_in hx hy hs
  refine ⟨fun e => h1 (by rw [e]; rfl), ?_⟩
  rcases h2 with rfl | ⟨hj, n, f, a, z, e, hi⟩
  · exact ty_AL_ok _
  · rw [e]
    refine ty_w1_ok hi ?_
    have e1 : (i / j).toInt = i.toInt.tdiv j.toInt := Int64.toInt_div_of_ne_right _ _ (fun e => by
      have : j.toInt = (-1 : Int64).toInt := by rw [e]
      have h9 : (-1 : Int64).toInt = -1 := by decide
      omega)
    rw [Int64.toInt_sub, Int64.toInt_mul, e1, Int.tmod_def, Int.mul_comm j.toInt]
    exact Int.sub_bmod_bmod
end TYN
/-- bits of ints -/
def ty_an (x y : ty_V) : ty_V := match x, y with
  | (_, _, _, a, z), (_, _, _, b, w) => bif ty_eq a 1 && (ty_eq z 1 && (ty_eq b 1 && ty_eq w 1)) then (0, 0, 0, 1, 1) else bif ty_le 0 a then (0, 0, 0, 0, bif ty_le 0 b then ty_mi z w else z) else bif ty_le 0 b then (0, 0, 0, 0, w) else ty_AI
def ty_or (x y : ty_V) : ty_V := match x, y with
  | (_, _, _, a, z), (_, _, _, b, w) => bif ty_le 0 a && (ty_le 0 b && (ty_le z 1 && ty_le w 1)) then (0, 0, 0, ty_ma a b, ty_ma z w) else ty_AI
def ty_xo (x y : ty_V) : ty_V := match x, y with
  | (_, _, _, a, z), (_, _, _, b, w) => bif ty_eq b 1 && (ty_eq w 1 && (ty_le 0 a && ty_le z 23)) then (0, 0, 0, 0, 23) else ty_AI
def ty_sl (x y : ty_V) : ty_V := match x, y with
  | (_, _, _, a, z), (_, _, _, b, w) => bif ty_eq a 1 && (ty_eq z 1 && (ty_le 0 b && ty_le w 5)) then (0, 0, 0, 1, 32) else ty_AI
def ty_sr (x y : ty_V) : ty_V := match x, y with
  | (_, _, _, a, z), (_, _, _, b, w) => bif ty_eq b 1 && (ty_eq w 1 && (ty_le 0 a && ty_le z 23)) then (0, 0, 0, 0, 11) else ty_AI
theorem ty_small (n : Nat) {i : Int32} (h0 : 0 ≤ i.toInt) (h1 : i.toInt < n) (hn : n < 2147483648) : ∃ k, k < n ∧ i = Int32.ofNat k := by
  refine ⟨i.toInt.toNat, by omega, Int32.toInt_inj.mp ?_⟩
  rw [Int32.toInt_ofNat_of_lt (by omega)]
  omega
section TYN
variable {ρ : Nat → Int} {N : Nat} {h : ax_H}
theorem ty_an_ok {x y : ty_V} {i j : Int32} (hx : ty_in ρ N x.2.1 x.2.2.1 x.2.2.2.1 x.2.2.2.2 i.toInt) (hy : ty_in ρ N y.2.1 y.2.2.1 y.2.2.2.1 y.2.2.2.2 j.toInt) : ty_r ρ N h (ty_an x y) (.int (i &&& j)) := by
  obtain ⟨kx, n, f, a, z⟩ := x
  obtain ⟨ky, m, g, b, w⟩ := y
  obtain ⟨x1, x2, x3⟩ := hx
  obtain ⟨y1, y2, y3⟩ := hy
  dsimp only at x1 x2 x3 y1 y2 y3
  unfold ty_an
  dsimp only
  cases h0 : ty_eq a 1 && (ty_eq z 1 && (ty_eq b 1 && ty_eq w 1)) with
  | true =>
    simp only [Bool.and_eq_true, ty_eq_iff] at h0
    obtain rfl : i = 1 := Int32.toInt_inj.mp (by have h9 : (1 : Int32).toInt = 1 := by decide
                                                 omega)
    obtain rfl : j = 1 := Int32.toInt_inj.mp (by have h9 : (1 : Int32).toInt = 1 := by decide
                                                 omega)
    exact ⟨1, rfl, by decide, by decide, Or.inl rfl⟩
  | false =>
    cases h1 : ty_le 0 a with
    | true =>
      have ha := ty_le_iff.mp h1
      have q := ax_and_le (i := j) (j := i) (by omega)
      rw [ax_and_comm] at q
      refine ⟨_, rfl, q.1, ?_, Or.inl rfl⟩
      cases h2 : ty_le 0 b with
      | true =>
        have hb := ty_le_iff.mp h2
        have q2 := ax_and_le (i := i) (j := j) (by omega)
        have := @ty_mi_ok z w
        show _ ≤ ty_mi z w
        omega
      | false => show _ ≤ z; omega
    | false =>
      cases h2 : ty_le 0 b with
      | true =>
        have hb := ty_le_iff.mp h2
        have q2 := ax_and_le (i := i) (j := j) (by omega)
        exact ⟨_, rfl, q2.1, by show _ ≤ w; omega, Or.inl rfl⟩
      | false => exact ty_AI_ok _
theorem ty_or_ok {x y : ty_V} {i j : Int32} (hx : ty_in ρ N x.2.1 x.2.2.1 x.2.2.2.1 x.2.2.2.2 i.toInt) (hy : ty_in ρ N y.2.1 y.2.2.1 y.2.2.2.1 y.2.2.2.2 j.toInt) : ty_r ρ N h (ty_or x y) (.int (i ||| j)) := by
  obtain ⟨kx, n, f, a, z⟩ := x
  obtain ⟨ky, m, g, b, w⟩ := y
  obtain ⟨x1, x2, x3⟩ := hx
  obtain ⟨y1, y2, y3⟩ := hy
  dsimp only at x1 x2 x3 y1 y2 y3
  unfold ty_or
  dsimp only
  cases h0 : ty_le 0 a && (ty_le 0 b && (ty_le z 1 && ty_le w 1)) with
  | true =>
    simp only [Bool.and_eq_true, ty_le_iff] at h0
    have l1 := @ty_ma_ok a b
    have u1 := @ty_ma_ok z w
    obtain ⟨p, hp, rfl⟩ := ty_small 2 (i := i) (by omega) (by omega) (by omega)
    obtain ⟨q, hq, rfl⟩ := ty_small 2 (i := j) (by omega) (by omega) (by omega)
    have e : ∀ p, p < 2 → ∀ q, q < 2 → (Int32.ofNat p).toInt = p ∧ (Int32.ofNat q).toInt = q ∧ (Int32.ofNat p ||| Int32.ofNat q).toInt = max p q := by decide
    obtain ⟨e1, e2, e3⟩ := e p hp q hq
    exact ⟨_, rfl, by rw [e3]; omega, by rw [e3]; omega, Or.inl rfl⟩
  | false => exact ty_AI_ok _
theorem ty_xo_ok {x y : ty_V} {i j : Int32} (hx : ty_in ρ N x.2.1 x.2.2.1 x.2.2.2.1 x.2.2.2.2 i.toInt) (hy : ty_in ρ N y.2.1 y.2.2.1 y.2.2.2.1 y.2.2.2.2 j.toInt) : ty_r ρ N h (ty_xo x y) (.int (i ^^^ j)) := by
  obtain ⟨kx, n, f, a, z⟩ := x
  obtain ⟨ky, m, g, b, w⟩ := y
  obtain ⟨x1, x2, x3⟩ := hx
  obtain ⟨y1, y2, y3⟩ := hy
  dsimp only at x1 x2 x3 y1 y2 y3
  unfold ty_xo
  dsimp only
  cases h0 : ty_eq b 1 && (ty_eq w 1 && (ty_le 0 a && ty_le z 23)) with
  | true =>
    simp only [Bool.and_eq_true, ty_le_iff, ty_eq_iff] at h0
    obtain ⟨p, hp, rfl⟩ := ty_small 24 (i := i) (by omega) (by omega) (by omega)
    obtain rfl : j = 1 := Int32.toInt_inj.mp (by have h9 : (1 : Int32).toInt = 1 := by decide
                                                 omega)
    have e : ∀ p, p < 24 → 0 ≤ (Int32.ofNat p ^^^ 1).toInt ∧ (Int32.ofNat p ^^^ 1).toInt ≤ 23 := by decide
    exact ⟨_, rfl, (e p hp).1, (e p hp).2, Or.inl rfl⟩
  | false => exact ty_AI_ok _
theorem ty_sl_ok {x y : ty_V} {i j : Int32} (hx : ty_in ρ N x.2.1 x.2.2.1 x.2.2.2.1 x.2.2.2.2 i.toInt) (hy : ty_in ρ N y.2.1 y.2.2.1 y.2.2.2.1 y.2.2.2.2 j.toInt) : ty_r ρ N h (ty_sl x y) (.int (i <<< (j &&& 31))) := by
  obtain ⟨kx, n, f, a, z⟩ := x
  obtain ⟨ky, m, g, b, w⟩ := y
  obtain ⟨x1, x2, x3⟩ := hx
  obtain ⟨y1, y2, y3⟩ := hy
  dsimp only at x1 x2 x3 y1 y2 y3
  unfold ty_sl
  dsimp only
  cases h0 : ty_eq a 1 && (ty_eq z 1 && (ty_le 0 b && ty_le w 5)) with
  | true =>
    simp only [Bool.and_eq_true, ty_le_iff, ty_eq_iff] at h0
    obtain ⟨p, hp, rfl⟩ := ty_small 6 (i := j) (by omega) (by omega) (by omega)
    obtain rfl : i = 1 := Int32.toInt_inj.mp (by have h9 : (1 : Int32).toInt = 1 := by decide
                                                 omega)
    have e : ∀ p, p < 6 → 1 ≤ ((1 : Int32) <<< (Int32.ofNat p &&& 31)).toInt ∧ ((1 : Int32) <<< (Int32.ofNat p &&& 31)).toInt ≤ 32 := by decide
    exact ⟨_, rfl, (e p hp).1, (e p hp).2, Or.inl rfl⟩
  | false => exact ty_AI_ok _
theorem ty_sr_ok {x y : ty_V} {i j : Int32} (hx : ty_in ρ N x.2.1 x.2.2.1 x.2.2.2.1 x.2.2.2.2 i.toInt) (hy : ty_in ρ N y.2.1 y.2.2.1 y.2.2.2.1 y.2.2.2.2 j.toInt) : ty_r ρ N h (ty_sr x y) (.int (i >>> (j &&& 31))) := by
  obtain ⟨kx, n, f, a, z⟩ := x
  obtain ⟨ky, m, g, b, w⟩ := y
  obtain ⟨x1, x2, x3⟩ := hx
  obtain ⟨y1, y2, y3⟩ := hy
  dsimp only at x1 x2 x3 y1 y2 y3
  unfold ty_sr
  dsimp only
  cases h0 : ty_eq b 1 && (ty_eq w 1 && (ty_le 0 a && ty_le z 23)) with
  | true =>
    simp only [Bool.and_eq_true, ty_le_iff, ty_eq_iff] at h0
    obtain ⟨p, hp, rfl⟩ := ty_small 24 (i := i) (by omega) (by omega) (by omega)
    obtain rfl : j = 1 := Int32.toInt_inj.mp (by have h9 : (1 : Int32).toInt = 1 := by decide
                                                 omega)
    have e : ∀ p, p < 24 → 0 ≤ (Int32.ofNat p >>> ((1 : Int32) &&& 31)).toInt ∧ (Int32.ofNat p >>> ((1 : Int32) &&& 31)).toInt ≤ 11 := by decide
    exact ⟨_, rfl, (e p hp).1, (e p hp).2, Or.inl rfl⟩
  | false => exact ty_AI_ok _
end TYN
