/-! THE TYPED MACHINE, 1: values with intervals and names, the heap by a table of types. A value (kind, name, offset, least, greatest): 0 an int, 1 a long, 2 this cell, 3 one of a group, 4 an array made on the way, 5 a thrown thing, 6 null, others anything. Each is a set of exact values of the abstract machine. -/
abbrev ty_V : Type := Nat × Nat × Int × Int × Int
abbrev ty_O : Type := List (Nat × Nat × ty_V)
def ty_le (a b : Int) : Bool := match a, b with
  | .ofNat m, .ofNat n => Nat.ble m n
  | .negSucc m, .negSucc n => Nat.ble n m
  | .negSucc _, .ofNat _ => true
  | .ofNat _, .negSucc _ => false
theorem ty_le_iff {a b : Int} : ty_le a b = true ↔ a ≤ b := by
  cases a <;> cases b <;> simp only [ty_le, Nat.ble_eq, Int.negSucc_eq, Int.ofNat_eq_natCast] <;> first | omega | (constructor <;> intro h <;> first | (cases h; done) | omega | trivial)
theorem ty_le_no {a b : Int} (h : ty_le a b = false) : b < a := by
  rcases (by omega : b < a ∨ a ≤ b) with q | q
  · exact q
  · rw [ty_le_iff.mpr q] at h; cases h
def ty_eq (a b : Int) : Bool := ty_le a b && ty_le b a
theorem ty_eq_iff {a b : Int} : ty_eq a b = true ↔ a = b := by
  simp only [ty_eq, Bool.and_eq_true, ty_le_iff]
  omega
def ty_mi (a b : Int) : Int := bif ty_le a b then a else b
def ty_ma (a b : Int) : Int := bif ty_le a b then b else a
theorem ty_mi_ok {a b : Int} : ty_mi a b ≤ a ∧ ty_mi a b ≤ b ∧ (ty_mi a b = a ∨ ty_mi a b = b) := by
  unfold ty_mi
  cases h : ty_le a b with
  | true => have := ty_le_iff.mp h; exact ⟨Int.le_refl _, this, Or.inl rfl⟩
  | false => have := ty_le_no h; exact ⟨Int.le_of_lt this, Int.le_refl _, Or.inr rfl⟩
theorem ty_ma_ok {a b : Int} : a ≤ ty_ma a b ∧ b ≤ ty_ma a b ∧ (ty_ma a b = a ∨ ty_ma a b = b) := by
  unfold ty_ma
  cases h : ty_le a b with
  | true => have := ty_le_iff.mp h; exact ⟨this, Int.le_refl _, Or.inr rfl⟩
  | false => have := ty_le_no h; exact ⟨Int.le_refl _, Int.le_of_lt this, Or.inl rfl⟩
/-- an Int, counted out before it is used -/
noncomputable def ty_fz {α : Type} (x : Int) (f : Int → α) : α := match x with
  | .ofNat n => ax_fn n (fun n => f (.ofNat n))
  | .negSucc n => ax_fn n (fun n => f (.negSucc n))
theorem ty_fz_eq {α : Type} (x : Int) (f : Int → α) : ty_fz x f = f x := by
  cases x <;> simp [ty_fz, ax_fn_eq]
noncomputable def ty_fo {α : Type} (t : ty_V) (f : ty_V → α) : α := match t with
  | (k, n, o, a, z) => ax_fn k fun k => ax_fn n fun n => ty_fz o fun o => ty_fz a fun a => ty_fz z fun z => f (k, n, o, a, z)
theorem ty_fo_eq {α : Type} (t : ty_V) (f : ty_V → α) : ty_fo t f = f t := by
  obtain ⟨k, n, o, a, z⟩ := t
  simp [ty_fo, ax_fn_eq, ty_fz_eq]
/-- arrays made on the way: type, length, what they hold -/
def ty_lt (t : Nat) : Nat × Nat × Int × Int := match t with
  | 0 => (100, 5, -2147483648, 2147483647)
  | 1 => (102, 24, 0, 1)
  | _ => (100, 12, -1, 1)
def ty_lc (t : Nat) (c : Nat × List Value) : Prop := c.1 = (ty_lt t).1 ∧ c.2.length = (ty_lt t).2.1 ∧ ∀ x ∈ c.2, ∃ i : Int32, x = .int i ∧ (ty_lt t).2.2.1 ≤ i.toInt ∧ i.toInt ≤ (ty_lt t).2.2.2
def ty_in (ρ : Nat → Int) (N n : Nat) (f a z i : Int) : Prop := a ≤ i ∧ i ≤ z ∧ (n = 0 ∨ (n < N ∧ i = ρ n + f))
def ty_r (ρ : Nat → Int) (N : Nat) (h : ax_H) (t : ty_V) (x : Value) : Prop := match t with
  | (0, n, f, a, z) => ∃ i : Int32, x = .int i ∧ ty_in ρ N n f a z i.toInt
  | (1, n, f, a, z) => ∃ i : Int64, x = .long i ∧ ty_in ρ N n f a z i.toInt
  | (2, q, _) => x = .ref q
  | (3, g, _) => ∃ k : Nat, x = .ref k ∧ ax_gm g k = true
  | (4, t, _) => ∃ (k : Nat) (c : Nat × List Value), x = .ref k ∧ 198 ≤ k ∧ k < 1000000000 ∧ h[k]? = some c ∧ ty_lc t c
  | (5, _) => x = .retAddr 0
  | (6, _) => x = .null
  | _ => True
