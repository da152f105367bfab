/-! p44, pure: what a constraint asks of a mask -/
/-- what the first n variables give -/
def cv (c : Nat → Int) (m : Nat) : Nat → Int
  | 0 => 0
  | n + 1 => cv c m n + (if m.testBit n then c (2 * n) else c (2 * n + 1))
theorem cv_add (f g : Nat → Int) (m : Nat) : ∀ n, cv (fun k => f k + g k) m n = cv f m n + cv g m n
  | 0 => rfl
  | n + 1 => by
    show cv (fun k => f k + g k) m n + _ = cv f m n + _ + (cv g m n + _)
    rw [cv_add f g m n]
    have e1 : (fun k => f k + g k) (2 * n) = f (2 * n) + g (2 * n) := rfl
    have e2 : (fun k => f k + g k) (2 * n + 1) = f (2 * n + 1) + g (2 * n + 1) := rfl
    split <;> omega
theorem cv_cong {f g : Nat → Int} {m : Nat} : ∀ {n : Nat}, (∀ k, k < 2 * n → f k = g k) → cv f m n = cv g m n
  | 0, _ => rfl
  | n + 1, h => by
    show cv f m n + _ = cv g m n + _
    rw [cv_cong (n := n) (fun k hk => h k (by omega)), h (2 * n) (by omega), h (2 * n + 1) (by omega)]
theorem cv_nn {f : Nat → Int} {m : Nat} : ∀ {n : Nat}, (∀ k, k < 2 * n → 0 ≤ f k) → 0 ≤ cv f m n
  | 0, _ => Int.le_refl _
  | n + 1, h => by
    have a := cv_nn (m := m) (n := n) (fun k hk => h k (by omega))
    have b := h (2 * n) (by omega)
    have c := h (2 * n + 1) (by omega)
    show 0 ≤ cv f m n + _
    split <;> omega
/-- the smaller ones of the pairs -/
def cm (f : Nat → Int) : Nat → Int
  | 0 => 0
  | n + 1 => cm f n + min (f (2 * n)) (f (2 * n + 1))
theorem cm_nn {f : Nat → Int} : ∀ {n : Nat}, (∀ k, k < 2 * n → 0 ≤ f k) → 0 ≤ cm f n
  | 0, _ => Int.le_refl _
  | n + 1, h => by
    have a := cm_nn (n := n) (fun k hk => h k (by omega))
    have b := h (2 * n) (by omega)
    have c := h (2 * n + 1) (by omega)
    show 0 ≤ cm f n + _
    omega
/-- normalise: the sums go down by what the pairs have in common -/
theorem cv_nf (f : Nat → Int) (m : Nat) : ∀ n, cv (nf f) m n = cv f m n - cm f n
  | 0 => rfl
  | n + 1 => by
    show cv (nf f) m n + _ = cv f m n + _ - (cm f n + _)
    rw [cv_nf f m n]
    unfold nf
    rw [show 2 * n / 2 = n from by omega, show (2 * n + 1) / 2 = n from by omega]
    split <;> omega
theorem nf_nn {f : Nat → Int} {n : Nat} (k : Nat) (hk : k < 2 * n) : 0 ≤ nf f k := by
  unfold nf
  rcases (by omega : k = 2 * (k / 2) ∨ k = 2 * (k / 2) + 1) with e | e
  · rw [← e]; omega
  · rw [← e]; omega
theorem nd_max {f : Nat → Int} {d : Int} : ∀ {n : Nat}, (∀ k, k < 2 * n → 0 ≤ f k) → 0 < n → nd f d n = max 0 (d - cm f n)
  | 0, _, h => absurd h (Nat.lt_irrefl _)
  | 1, h, _ => by
    show max 0 (d - min (f (2 * 0)) (f (2 * 0 + 1))) = max 0 (d - (0 + min (f (2 * 0)) (f (2 * 0 + 1))))
    rw [Int.zero_add]
  | n + 2, h, _ => by
    have a := nd_max (d := d) (n := n + 1) (fun k hk => h k (by omega)) (by omega)
    have b := h (2 * (n + 1)) (by omega)
    have c := h (2 * (n + 1) + 1) (by omega)
    show max 0 (nd f d (n + 1) - _) = max 0 (d - (cm f (n + 1) + _))
    rw [a]
    omega
/-- normalise keeps what is fulfilled -/
theorem nf_iff {f : Nat → Int} {d : Int} (m : Nat) (h : ∀ k, k < 24 → 0 ≤ f k) : nd f d 12 ≤ cv (nf f) m 12 ↔ d ≤ cv f m 12 := by
  rw [nd_max (n := 12) h (by decide), cv_nf]
  have a := cv_nn (f := nf f) (m := m) (n := 12) (fun k hk => nf_nn (n := 12) k hk)
  rw [cv_nf] at a
  omega
/-- saturation -/
theorem cv_sat {f : Nat → Int} {d : Int} (m : Nat) (hd : 0 ≤ d) : ∀ {n : Nat}, (∀ k, k < 2 * n → 0 ≤ f k) → min d (cv f m n) ≤ cv (fun k => min (f k) d) m n
  | 0, _ => by show min d 0 ≤ 0; omega
  | n + 1, h => by
    have a := cv_sat m hd (n := n) (fun k hk => h k (by omega))
    have b := h (2 * n) (by omega)
    have c := h (2 * n + 1) (by omega)
    have e := cv_nn (f := fun k => min (f k) d) (m := m) (n := n) (fun k hk => by have := h k (by omega); show 0 ≤ min (f k) d; omega)
    have e1 : (fun k => min (f k) d) (2 * n) = min (f (2 * n)) d := rfl
    have e2 : (fun k => min (f k) d) (2 * n + 1) = min (f (2 * n + 1)) d := rfl
    show min d (cv f m n + _) ≤ cv (fun k => min (f k) d) m n + _
    split
    · rw [e1]; omega
    · rw [e2]; omega
/-- division, rounded up -/
theorem up_add {a b m : Int} (hm : 1 ≤ m) (ha : 0 ≤ a) (hb : 0 ≤ b) : (a + b + m - 1).tdiv m ≤ (a + m - 1).tdiv m + (b + m - 1).tdiv m := by
  rw [Int.tdiv_eq_ediv_of_nonneg (by omega), Int.tdiv_eq_ediv_of_nonneg (by omega), Int.tdiv_eq_ediv_of_nonneg (by omega)]
  have h1 := Int.lt_mul_ediv_self_add (x := a + m - 1) (k := m) (by omega)
  have h2 := Int.lt_mul_ediv_self_add (x := b + m - 1) (k := m) (by omega)
  refine Int.lt_add_one_iff.mp ((Int.ediv_lt_iff_lt_mul (by omega)).mpr ?_)
  have e : ((a + m - 1) / m + (b + m - 1) / m + 1) * m = m * ((a + m - 1) / m) + m * ((b + m - 1) / m) + m := by
    rw [Int.add_mul, Int.add_mul, Int.one_mul, Int.mul_comm m, Int.mul_comm m]
  omega
theorem up_mono {a b m : Int} (hm : 1 ≤ m) (ha : 0 ≤ a) (h : a ≤ b) : (a + m - 1).tdiv m ≤ (b + m - 1).tdiv m := by
  rw [Int.tdiv_eq_ediv_of_nonneg (by omega), Int.tdiv_eq_ediv_of_nonneg (by omega)]
  exact Int.ediv_le_ediv (by omega) (by omega)
theorem cv_div {f : Nat → Int} (m : Nat) {q : Int} (hq : 1 ≤ q) : ∀ {n : Nat}, (∀ k, k < 2 * n → 0 ≤ f k) → (cv f m n + q - 1).tdiv q ≤ cv (fun k => (f k + q - 1).tdiv q) m n
  | 0, _ => by
    show (0 + q - 1).tdiv q ≤ 0
    rw [Int.tdiv_eq_ediv_of_nonneg (by omega), Int.ediv_eq_zero_of_lt (by omega) (by omega)]
    exact Int.le_refl _
  | n + 1, h => by
    have a := cv_div m hq (n := n) (fun k hk => h k (by omega))
    have b := h (2 * n) (by omega)
    have c := h (2 * n + 1) (by omega)
    have e := cv_nn (f := f) (m := m) (n := n) (fun k hk => h k (by omega))
    show (cv f m n + _ + q - 1).tdiv q ≤ cv (fun k => (f k + q - 1).tdiv q) m n + _
    have e1 : (fun k => (f k + q - 1).tdiv q) (2 * n) = (f (2 * n) + q - 1).tdiv q := rfl
    have e2 : (fun k => (f k + q - 1).tdiv q) (2 * n + 1) = (f (2 * n + 1) + q - 1).tdiv q := rfl
    split
    · have := up_add (a := cv f m n) (b := f (2 * n)) hq e b
      rw [e1]
      omega
    · have := up_add (a := cv f m n) (b := f (2 * n + 1)) hq e c
      rw [e2]
      omega
/-- the tables of sums, put together -/
theorem tb_cv (c : Nat → Int) (o : Nat) : ∀ n k, k < 2 ^ n → tb c o n k = cv (fun j => c (j + 2 * o)) k n
  | 0, k, _ => rfl
  | n + 1, k, h => by
    rw [Nat.pow_succ] at h
    show (if k < 2 ^ n then _ else _) = cv (fun j => c (j + 2 * o)) k n + _
    have low : ∀ j, j < n → ∀ a b : Nat, a % 2 ^ n = b % 2 ^ n → a.testBit j = b.testBit j := fun j hj a b e => by
      have h1 := Nat.testBit_mod_two_pow a n j
      have h2 := Nat.testBit_mod_two_pow b n j
      rw [e] at h1
      rw [h1] at h2
      simpa [hj] using h2
    have same : ∀ (j : Nat) (a b : Nat), (∀ i, i < j → a.testBit i = b.testBit i) → cv (fun i => c (i + 2 * o)) a j = cv (fun i => c (i + 2 * o)) b j := by
      intro j
      induction j with
      | zero => intro a b _; rfl
      | succ j ih =>
        intro a b e
        show cv _ a j + _ = cv _ b j + _
        rw [ih a b (fun i hi => e i (by omega)), e j (by omega)]
    by_cases e : k < 2 ^ n
    · rw [if_pos e, tb_cv c o n k e, Nat.testBit_lt_two_pow e]
      simp only [Bool.false_eq_true, if_false]
      rw [show 2 * (o + n) + 1 = 2 * n + 1 + 2 * o from by omega]
    · have e2 : k - 2 ^ n < 2 ^ n := by omega
      have tn : k.testBit n = true := by
        rw [show k = 2 ^ n + (k - 2 ^ n) from by omega, Nat.testBit_two_pow_add_eq, Nat.testBit_lt_two_pow e2]
        rfl
      rw [if_neg e, tb_cv c o n _ e2, tn]
      simp only [if_true]
      rw [same n (k - 2 ^ n) k (fun i hi => low i hi _ _ (by rw [show k = (k - 2 ^ n) + 2 ^ n from by omega, Nat.add_mod_right, Nat.add_sub_cancel])), show 2 * (o + n) = 2 * n + 2 * o from by omega]
