/-! p44, pure 2: what a posted text asks of a mask; the steps; words that are all alike -/
theorem x1_0 : ∀ n, n < 12 → (2 * n) ^^^ 1 = 2 * n + 1 ∧ (2 * n + 1) ^^^ 1 = 2 * n := by decide +kernel
theorem ft_nn (e : Nat → Int) (k : Nat) : 0 ≤ ft e 24 k := by
  unfold ft
  split <;> split <;> omega
theorem cv_ft {e : Nat → Int} {b : Int} (m : Nat) : ∀ n, n ≤ 12 → cv (ft e 24) m n + b = sd e b (2 * n) + cv e m n
  | 0, _ => by show (0 : Int) + b = b + 0; omega
  | n + 1, h => by
    have ih := cv_ft (e := e) (b := b) m n (by omega)
    obtain ⟨x1, x2⟩ := x1_0 n (by omega)
    have f1 : ft e 24 (2 * n) = max 0 (e (2 * n)) + max 0 (-(e (2 * n + 1))) := by
      unfold ft
      rw [x1, if_pos (by omega), if_pos (by omega)]
    have f2 : ft e 24 (2 * n + 1) = max 0 (e (2 * n + 1)) + max 0 (-(e (2 * n))) := by
      unfold ft
      rw [x2, if_pos (by omega), if_pos (by omega)]
    show cv (ft e 24) m n + (if m.testBit n then ft e 24 (2 * n) else ft e 24 (2 * n + 1)) + b = sd e b (2 * n) + max 0 (-(e (2 * n))) + max 0 (-(e (2 * n + 1))) + (cv e m n + (if m.testBit n then e (2 * n) else e (2 * n + 1)))
    split
    · rw [f1]; omega
    · rw [f2]; omega
/-- what is posted asks what the text says -/
theorem post_iff (e : Nat → Int) (b : Int) (m : Nat) : nd (ft e 24) (sd e b 24) 12 ≤ cv (nf (ft e 24)) m 12 ↔ b ≤ cv e m 12 := by
  rw [nf_iff m (fun k _ => ft_nn e k)]
  have h := cv_ft (e := e) (b := b) m 12 (by omega)
  rw [show 2 * 12 = 24 from rfl] at h
  omega
theorem cv_tbs {c : Nat → Int} {a b : Nat} : ∀ n, (∀ i, i < n → a.testBit i = b.testBit i) → cv c a n = cv c b n
  | 0, _ => rfl
  | n + 1, h => by
    show cv c a n + _ = cv c b n + _
    rw [cv_tbs n (fun i hi => h i (by omega)), h n (by omega)]
theorem cv_app (c : Nat → Int) (M n : Nat) : ∀ m, cv c M (n + m) = cv c M n + cv (fun j => c (j + 2 * n)) (M >>> n) m
  | 0 => by show cv c M n = cv c M n + 0; omega
  | m + 1 => by
    show cv c M (n + m) + (if M.testBit (n + m) then c (2 * (n + m)) else c (2 * (n + m) + 1)) = cv c M n + (cv (fun j => c (j + 2 * n)) (M >>> n) m + (if (M >>> n).testBit m then c (2 * m + 2 * n) else c (2 * m + 1 + 2 * n)))
    rw [cv_app c M n m, Nat.testBit_shiftRight, show 2 * (n + m) = 2 * m + 2 * n by omega, show 2 * m + 2 * n + 1 = 2 * m + 1 + 2 * n by omega]
    omega
theorem mk_tb {w k : Nat} (hk : k < 64) (i : Nat) : (64 * w + k).testBit i = if i < 6 then k.testBit i else w.testBit (i - 6) := Nat.testBit_two_pow_mul_add w (i := 6) hk i
/-- the tables of sums at a mask: its lower six variables k, its upper six w -/
theorem sm_cv (c : Nat → Int) {w k : Nat} (hk : k < 64) (hw : w < 64) : sm c w k = cv c (64 * w + k) 12 := by
  unfold sm
  rw [tb_cv c 0 6 k hk, tb_cv c 6 6 w hw, show (12 : Nat) = 6 + 6 from rfl, cv_app]
  have e1 : cv (fun j => c (j + 2 * 0)) k 6 = cv c (64 * w + k) 6 := by
    rw [cv_tbs (c := c) (a := 64 * w + k) (b := k) 6 (fun i hi => by rw [mk_tb hk, if_pos hi])]
    rfl
  have e2 : cv (fun j => c (j + 2 * 6)) w 6 = cv (fun j => c (j + 2 * 6)) ((64 * w + k) >>> 6) 6 := by
    refine cv_tbs 6 (fun i hi => ?_)
    rw [Nat.testBit_shiftRight, mk_tb hk, if_neg (by omega), Nat.add_sub_cancel_left]
  rw [e1, e2]
/-- a row of numbers that speaks of the first six variables alone -/
theorem cv_six {e : Nat → Int} (h : ∀ k, 12 ≤ k → e k = 0) {w k : Nat} (hk : k < 64) : cv e (64 * w + k) 12 = cv e k 6 := by
  rw [show (12 : Nat) = 6 + 6 from rfl, cv_app]
  have z : ∀ (M n : Nat), cv (fun j => e (j + 2 * 6)) M n = 0 := by
    intro M n
    induction n with
    | zero => rfl
    | succ n ih =>
      show cv (fun j => e (j + 2 * 6)) M n + (if M.testBit n then e (2 * n + 2 * 6) else e (2 * n + 1 + 2 * 6)) = 0
      rw [ih, h _ (by omega), h _ (by omega)]
      split <;> rfl
  rw [z, cv_tbs (c := e) (a := 64 * w + k) (b := k) 6 (fun i hi => by rw [mk_tb hk, if_pos hi])]
  omega
theorem cv_c24 {f g : Nat → Int} (h : ∀ k, k < 24 → f k = g k) (m : Nat) : cv f m 12 = cv g m 12 := cv_cong (n := 12) (fun k hk => h k (by omega))
/-- normalise keeps numbers in their bounds -/
theorem nf_le {f : Nat → Int} {b : Int} (h : ∀ k, k < 24 → 0 ≤ f k ∧ f k ≤ b) (k : Nat) (hk : k < 24) : 0 ≤ nf f k ∧ nf f k ≤ b := by
  have h1 := h (2 * (k / 2)) (by omega)
  have h2 := h (2 * (k / 2) + 1) (by omega)
  have h3 := h k hk
  have h4 := nf_nn (f := f) (n := 12) k (by omega)
  refine ⟨h4, ?_⟩
  unfold nf
  omega
theorem nd_le {f : Nat → Int} {b d : Int} (h : ∀ k, k < 24 → 0 ≤ f k) (hd : d ≤ b) (hb : 0 ≤ b) : 0 ≤ nd f d 12 ∧ nd f d 12 ≤ b := by
  rw [nd_max (n := 12) h (by decide)]
  have := cm_nn (f := f) (n := 12) h
  omega
theorem nf_pair (f : Nat → Int) (m : Nat) : nf f (2 * m) ≤ 0 ∨ nf f (2 * m + 1) ≤ 0 := by
  unfold nf
  rw [show 2 * m / 2 = m by omega, show (2 * m + 1) / 2 = m by omega]
  omega
/-- the literals of a constraint that a mask makes true -/
def tl (c : Nat → Int) (m k : Nat) : Bool := decide (0 < c k) && (m.testBit (k / 2) == decide (k % 2 = 0))
theorem tl_ev (c : Nat → Int) (m n : Nat) : tl c m (2 * n) = (decide (0 < c (2 * n)) && m.testBit n) ∧ tl c m (2 * n + 1) = (decide (0 < c (2 * n + 1)) && !(m.testBit n)) := by
  unfold tl
  rw [show 2 * n / 2 = n by omega, show (2 * n + 1) / 2 = n by omega, decide_eq_true (show 2 * n % 2 = 0 by omega), decide_eq_false (show ¬ (2 * n + 1) % 2 = 0 by omega)]
  cases m.testBit n <;> simp
theorem tl_su {c : Nat → Int} {m : Nat} : ∀ n, (∀ k, k < 2 * n → 0 ≤ c k) → su (tl c m) c (2 * n) = cv c m n ∧ cn (tl c m) (2 * n) = cv (f1s c) m n
  | 0, _ => ⟨rfl, rfl⟩
  | n + 1, h => by
    obtain ⟨i1, i2⟩ := tl_su (c := c) (m := m) n (fun k hk => h k (by omega))
    obtain ⟨t1, t2⟩ := tl_ev c m n
    have a := h (2 * n) (by omega)
    have b := h (2 * n + 1) (by omega)
    constructor
    · show su (tl c m) c (2 * n) + (if tl c m (2 * n) then c (2 * n) else 0) + (if tl c m (2 * n + 1) then c (2 * n + 1) else 0) = cv c m n + (if m.testBit n then c (2 * n) else c (2 * n + 1))
      rw [i1, t1, t2]
      cases m.testBit n <;> by_cases p : 0 < c (2 * n) <;> by_cases q : 0 < c (2 * n + 1) <;> simp [p, q] <;> omega
    · show cn (tl c m) (2 * n) + (if tl c m (2 * n) then 1 else 0) + (if tl c m (2 * n + 1) then 1 else 0) = cv (f1s c) m n + (if m.testBit n then f1s c (2 * n) else f1s c (2 * n + 1))
      rw [i2, t1, t2]
      unfold f1s
      cases m.testBit n <;> by_cases p : 0 < c (2 * n) <;> by_cases q : 0 < c (2 * n + 1) <;> simp [p, q]
/-- the greatest outside -/
def mx (U : Nat → Bool) (c : Nat → Int) : Nat → Int
  | 0 => 0
  | n + 1 => max (mx U c n) (if U n then 0 else c n)
theorem mx_ge {U : Nat → Bool} {c : Nat → Int} : ∀ n k, k < n → U k = false → c k ≤ mx U c n
  | n + 1, k, h, e => by
    show c k ≤ max (mx U c n) (if U n then 0 else c n)
    rcases (by omega : k < n ∨ k = n) with q | q
    · have := mx_ge (U := U) (c := c) n k q e
      omega
    · subst q
      rw [e]
      simp only [Bool.false_eq_true, if_false]
      omega
theorem mx_le {U : Nat → Bool} {c : Nat → Int} {b : Int} (hb : 0 ≤ b) : ∀ n, (∀ k, k < n → U k = false → c k ≤ b) → mx U c n ≤ b
  | 0, _ => hb
  | n + 1, h => by
    show max (mx U c n) (if U n then 0 else c n) ≤ b
    have a := mx_le hb n (fun k hk e => h k (by omega) e)
    cases e : U n with
    | true => simp only [if_true]; omega
    | false =>
      have := h n (by omega) e
      simp only [Bool.false_eq_true, if_false]
      omega
theorem su_cn {T U : Nat → Bool} {c : Nat → Int} {v : Int} : ∀ n, (∀ k, k < n → (U k = true → v ≤ c k) ∧ (U k = false → c k ≤ v)) → su T c n + v * cn U n ≤ su U c n + v * cn T n
  | 0, _ => by show (0 : Int) + v * 0 ≤ 0 + v * 0; omega
  | n + 1, h => by
    have ih := su_cn (T := T) (U := U) (c := c) (v := v) n (fun k hk => h k (by omega))
    have a := h n (by omega)
    show su T c n + (if T n then c n else 0) + v * (cn U n + if U n then 1 else 0) ≤ su U c n + (if U n then c n else 0) + v * (cn T n + if T n then 1 else 0)
    cases eT : T n <;> cases eU : U n <;> simp only [if_true, Bool.false_eq_true, if_false, Int.mul_add, Int.mul_one, Int.mul_zero]
    · omega
    · have := a.1 eU; omega
    · have := a.2 eU; omega
    · omega
/-- the cardinality constraint is implied -/
theorem card_ok {c : Nat → Int} {D z : Int} {m : Nat} (hc : ∀ k, k < 24 → 0 ≤ c k) (hz : 0 ≤ z) (g : pG c D z) (hf : D ≤ cv c m 12) : z ≤ cv (f1s c) m 12 := by
  obtain ⟨e1, e2⟩ := tl_su (c := c) (m := m) 12 hc
  rcases g with g | ⟨U, ⟨g1, g2⟩, g3, g4⟩
  · have := cv_nn (f := f1s c) (m := m) (n := 12) (fun k hk => by unfold f1s; split <;> omega)
    omega
  · refine Classical.byContradiction (fun hn => ?_)
    have m0 : 0 ≤ mx U c 24 := by
      have : ∀ n, 0 ≤ mx U c n := fun n => by
        induction n with
        | zero => exact Int.le_refl _
        | succ n ih => show 0 ≤ max (mx U c n) _; omega
      exact this 24
    have key := su_cn (T := tl c m) (U := U) (c := c) (v := mx U c 24) 24 (fun k hk => ⟨fun e => mx_le (hc k hk) 24 (fun j hj ej => g2 k hk e j hj ej), fun e => mx_ge 24 k hk e⟩)
    have h1 : cn (tl c m) 24 ≤ cn U 24 := by
      have : cn (tl c m) 24 = cv (f1s c) m 12 := e2
      omega
    have h2 : mx U c 24 * cn (tl c m) 24 ≤ mx U c 24 * cn U 24 := Int.mul_le_mul_of_nonneg_left h1 m0
    have h3 : su (tl c m) c 24 = cv c m 12 := e1
    omega
/-- the steps keep what is fulfilled -/
theorem step_ok {f : Nat → Int} {d : Int} {m : Nat} (h : ∀ k, k < 24 → 0 ≤ f k) (hd : d ≤ cv f m 12) : nd f d 12 ≤ cv (nf f) m 12 := (nf_iff m h).mpr hd
theorem sum_ok {f g : Nat → Int} {d e : Int} {m : Nat} (a : d ≤ cv f m 12) (b : e ≤ cv g m 12) : d + e ≤ cv (fun k => f k + g k) m 12 := by rw [cv_add]; omega
theorem sat_ok {f : Nat → Int} {d : Int} {m : Nat} (h : ∀ k, k < 24 → 0 ≤ f k) (hd : 0 ≤ d) (a : d ≤ cv f m 12) : d ≤ cv (fun k => min (f k) d) m 12 := by
  have := cv_sat (f := f) (d := d) m hd (n := 12) h
  omega
theorem quo_ok {f : Nat → Int} {d q : Int} {m : Nat} (h : ∀ k, k < 24 → 0 ≤ f k) (hq : 1 ≤ q) (hd : 0 ≤ d) (a : d ≤ cv f m 12) : (d + q - 1).tdiv q ≤ cv (fun k => (f k + q - 1).tdiv q) m 12 := by
  have h1 := cv_div (f := f) m hq (n := 12) h
  have h2 := up_mono (m := q) hq hd a
  omega
/-- how many of the first n masks -/
def nm (F : Nat → Bool) : Nat → Nat
  | 0 => 0
  | n + 1 => nm F n + if F n then 1 else 0
theorem nm_app (F : Nat → Bool) (n : Nat) : ∀ m, nm F (n + m) = nm F n + nm (fun k => F (n + k)) m
  | 0 => rfl
  | m + 1 => by
    show nm F (n + m) + _ = nm F n + (nm (fun k => F (n + k)) m + _)
    rw [nm_app F n m, Nat.add_assoc]
    rfl
theorem nm_cong {F G : Nat → Bool} : ∀ n, (∀ k, k < n → F k = G k) → nm F n = nm G n
  | 0, _ => rfl
  | n + 1, h => by
    show nm F n + _ = nm G n + _
    rw [nm_cong n (fun k hk => h k (by omega)), h n (by omega)]
theorem nm_le (F : Nat → Bool) : ∀ n, nm F n ≤ n
  | 0 => Nat.le_refl _
  | n + 1 => by
    have := nm_le F n
    show nm F n + _ ≤ n + 1
    split <;> omega
theorem pop_nm : ∀ a, a < 256 → pop a = nm (fun k => a.testBit k) 8 := by decide +kernel
theorem bits8 (N i k : Nat) (hk : k < 8) : (N / 2 ^ i % 256).testBit k = N.testBit (i + k) := by
  rw [show (256 : Nat) = 2 ^ 8 from rfl, Nat.testBit_mod_two_pow, decide_eq_true hk, Bool.true_and, ← Nat.shiftRight_eq_div_pow, Nat.testBit_shiftRight]
theorem bc_nm {x : Int64} {F : Nat → Bool} (h : ∀ k, k < 64 → pb x k = F k) : (bcn x).toInt = nm F 64 := by
  have hN := un_lt x
  have hF : ∀ k, k < 64 → F k = (un x).testBit k := fun k hk => (h k hk).symm.trans (BitVec.testBit_toNat x.toBitVec).symm
  have b0 : ∀ i, (un x / 2 ^ i % 256) < 256 := fun i => Nat.mod_lt _ (by decide)
  have e8 : un x = b8 (un x / 2 ^ 0 % 256) (un x / 2 ^ 8 % 256) (un x / 2 ^ 16 % 256) (un x / 2 ^ 24 % 256) (un x / 2 ^ 32 % 256) (un x / 2 ^ 40 % 256) (un x / 2 ^ 48 % 256) (un x / 2 ^ 56 % 256) := by
    unfold b8
    omega
  rw [bc_val x (b0 0) (b0 8) (b0 16) (b0 24) (b0 32) (b0 40) (b0 48) (b0 56) e8]
  have p8 : ∀ i, i + 8 ≤ 64 → pop (un x / 2 ^ i % 256) = nm (fun k => F (i + k)) 8 := fun i hi => by
    rw [pop_nm _ (b0 i)]
    refine nm_cong 8 (fun k hk => ?_)
    rw [bits8 _ _ _ hk, hF (i + k) (by omega)]
  rw [p8 0 (by omega), p8 8 (by omega), p8 16 (by omega), p8 24 (by omega), p8 32 (by omega), p8 40 (by omega), p8 48 (by omega), p8 56 (by omega)]
  have s1 := nm_app F 8 8
  have s2 := nm_app F 16 8
  have s3 := nm_app F 24 8
  have s4 := nm_app F 32 8
  have s5 := nm_app F 40 8
  have s6 := nm_app F 48 8
  have s7 := nm_app F 56 8
  have s0 : nm (fun k => F (0 + k)) 8 = nm F 8 := nm_cong 8 (fun k _ => by rw [Nat.zero_add])
  congr 1
  rw [s0]
  simp only [Nat.reduceAdd] at s1 s2 s3 s4 s5 s6 s7
  omega
/-- all words alike -/
theorem cw_nm {h : ax_H} {F : Nat → Bool} : ∀ n, n ≤ 64 → (∀ w, w < 64 → ∀ k, k < 64 → pb (hw h 148 w) k = F k) → cw h n = (n : Int) * nm F 64
  | 0, _, _ => by show (0 : Int) = ((0 : Nat) : Int) * _; simp
  | n + 1, hn, hF => by
    show cw h n + (bcn (hw h 148 n)).toInt = _
    rw [cw_nm n (by omega) hF, bc_nm (hF n (by omega)), show ((n + 1 : Nat) : Int) = (n : Int) + 1 from rfl, Int.add_mul, Int.one_mul]
