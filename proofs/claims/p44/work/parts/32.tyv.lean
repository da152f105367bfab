/-! THE TYPED MACHINE, 1: values with intervals and names, the heap by a table of types. A value (kind, name, offset, least, greatest): 0 an int, 1 a long, 2 this cell, 3 one of a group, 4 an array made on the way, 5 a thrown thing, 6 null, others anything. Each is a set of exact values of the abstract machine. -/
abbrev ty_V : Type := Nat × Nat × Int × Int × Int
abbrev ty_O : Type := List (Nat × Nat × ty_V)
def ty_le (a b : Int) : Bool := match a, b with
  | .ofNat m, .ofNat n => Nat.ble m n
  | .negSucc m, .negSucc n => Nat.ble n m
  | .negSucc _, .ofNat _ => true
  | .ofNat _, .negSucc _ => false
theorem ty_le_iff {a b : Int} : ty_le a b = true ↔ a ≤ b := by
  cases a <;> cases b <;> simp only [ty_le, Nat.ble_eq, Int.negSucc_eq, Int.ofNat_eq_natCast] <;> first | omega | (constructor <;> intro h <;> first | (cases h; done) | omega | trivial)
theorem ty_le_no {a b : Int} (h : ty_le a b = false) : b < a := by
  rcases (by omega : b < a ∨ a ≤ b) with q | q
  · exact q
  · rw [ty_le_iff.mpr q] at h; cases h
def ty_eq (a b : Int) : Bool := ty_le a b && ty_le b a
theorem ty_eq_iff {a b : Int} : ty_eq a b = true ↔ a = b := by
  simp only [ty_eq, Bool.and_eq_true, ty_le_iff]
  omega
def ty_mi (a b : Int) : Int := bif ty_le a b then a else b
def ty_ma (a b : Int) : Int := bif ty_le a b then b else a
theorem ty_mi_ok {a b : Int} : ty_mi a b ≤ a ∧ ty_mi a b ≤ b ∧ (ty_mi a b = a ∨ ty_mi a b = b) := by
  unfold ty_mi
  cases h : ty_le a b with
  | true => have := ty_le_iff.mp h; exact ⟨Int.le_refl _, this, Or.inl rfl⟩
  | false => have := ty_le_no h; exact ⟨Int.le_of_lt this, Int.le_refl _, Or.inr rfl⟩
theorem ty_ma_ok {a b : Int} : a ≤ ty_ma a b ∧ b ≤ ty_ma a b ∧ (ty_ma a b = a ∨ ty_ma a b = b) := by
  unfold ty_ma
  cases h : ty_le a b with
  | true => have := ty_le_iff.mp h; exact ⟨this, Int.le_refl _, Or.inr rfl⟩
  | false => have := ty_le_no h; exact ⟨Int.le_refl _, Int.le_of_lt this, Or.inl rfl⟩
/-- an Int, counted out before it is used -/
noncomputable def ty_fz {α : Type} (x : Int) (f : Int → α) : α := match x with
  | .ofNat n => ax_fn n (fun n => f (.ofNat n))
  | .negSucc n => ax_fn n (fun n => f (.negSucc n))
theorem ty_fz_eq {α : Type} (x : Int) (f : Int → α) : ty_fz x f = f x := by
  cases x <;> simp [ty_fz, ax_fn_eq]
noncomputable def ty_fo {α : Type} (t : ty_V) (f : ty_V → α) : α := match t with
  | (k, n, o, a, z) => ax_fn k fun k => ax_fn n fun n => ty_fz o fun o => ty_fz a fun a => ty_fz z fun z => f (k, n, o, a, z)
theorem ty_fo_eq {α : Type} (t : ty_V) (f : ty_V → α) : ty_fo t f = f t := by
  obtain ⟨k, n, o, a, z⟩ := t
  simp [ty_fo, ax_fn_eq, ty_fz_eq]
/-- arrays made on the way: type, length, what they hold -/
def ty_lt (t : Nat) : Nat × Nat × Int × Int := match t with
  | 0 => (100, 5, -2147483648, 2147483647)
  | 1 => (102, 24, 0, 1)
  | _ => (100, 12, -1, 1)
def ty_lc (t : Nat) (c : Nat × List Value) : Prop := c.1 = (ty_lt t).1 ∧ c.2.length = (ty_lt t).2.1 ∧ ∀ x ∈ c.2, ∃ i : Int32, x = .int i ∧ (ty_lt t).2.2.1 ≤ i.toInt ∧ i.toInt ≤ (ty_lt t).2.2.2
def ty_in (ρ : Nat → Int) (N n : Nat) (f a z i : Int) : Prop := a ≤ i ∧ i ≤ z ∧ (n = 0 ∨ (n < N ∧ i = ρ n + f))
def ty_r (ρ : Nat → Int) (N : Nat) (h : ax_H) (t : ty_V) (x : Value) : Prop := match t with
  | (0, n, f, a, z) => ∃ i : Int32, x = .int i ∧ ty_in ρ N n f a z i.toInt
  | (1, n, f, a, z) => ∃ i : Int64, x = .long i ∧ ty_in ρ N n f a z i.toInt
  | (2, q, _) => x = .ref q
  | (3, g, _) => ∃ k : Nat, x = .ref k ∧ ax_gm g k = true
  | (4, t, _) => ∃ (k : Nat) (c : Nat × List Value), x = .ref k ∧ 198 ≤ k ∧ k < 1000000000 ∧ h[k]? = some c ∧ ty_lc t c
  | (5, _) => x = .retAddr 0
  | (6, _) => x = .null
  | _ => True
def ty_tab (q : Nat) : Nat × Nat × Nat × List ty_V := bif Nat.blt q 27 then (bif Nat.blt q 13 then (bif Nat.blt q 6 then (bif Nat.blt q 3 then (bif Nat.blt q 1 then (8, 18, 1, [(2, 1, 0, 0, 0), (2, 3, 0, 0, 0), (0, 0, 0, (-2147483648), 2147483647), (2, 5, 0, 0, 0), (2, 7, 0, 0, 0), (0, 0, 0, 0, 60), (2, 8, 0, 0, 0), (2, 10, 0, 0, 0), (2, 12, 0, 0, 0), (2, 15, 0, 0, 0), (2, 17, 0, 0, 0), (2, 19, 0, 0, 0), (2, 21, 0, 0, 0), (2, 23, 0, 0, 0), (2, 24, 0, 0, 0), (2, 25, 0, 0, 0), (2, 26, 0, 0, 0), (0, 0, 0, 0, 8)]) else (bif Nat.blt q 2 then (7, 2, 19, [(2, 2, 0, 0, 0), (0, 0, 0, 0, 200)]) else (100, 200, 21, [(0, 0, 0, 0, 255)]))) else (bif Nat.blt q 4 then (6, 9, 22, [(2, 1, 0, 0, 0), (0, 0, 0, 0, 201), (0, 0, 0, 0, 9), (0, 0, 0, 0, 201), (0, 0, 0, (-2147483648), 2147483647), (0, 0, 0, 0, 11), (2, 4, 0, 0, 0), (0, 0, 0, (-2147483648), 2147483647), (0, 0, 0, (-2147483648), 2147483647)]) else (bif Nat.blt q 5 then (100, 24, 31, [(0, 0, 0, (-2147483648), 2147483647)]) else (10, 4, 32, [(7, 0, 0, 0, 0), (7, 0, 0, 0, 0), (7, 0, 0, 0, 0), (7, 0, 0, 0, 0)])))) else (bif Nat.blt q 9 then (bif Nat.blt q 7 then (103, 16, 0, [(7, 0, 0, 0, 0)]) else (bif Nat.blt q 8 then (104, 60, 36, [(3, 0, 0, 0, 0)]) else (2, 2, 37, [(2, 9, 0, 0, 0), (1, 0, 0, (-9223372036854775808), 9223372036854775807)]))) else (bif Nat.blt q 11 then (bif Nat.blt q 10 then (101, 24, 39, [(1, 0, 0, (-9223372036854775808), 9223372036854775807)]) else (1, 3, 40, [(2, 11, 0, 0, 0), (0, 0, 0, (-2147483648), 2147483647), (1, 0, 0, (-9223372036854775808), 9223372036854775807)])) else (bif Nat.blt q 12 then (100, 24, 43, [(0, 0, 0, (-2147483648), 2147483647)]) else (4, 2, 44, [(2, 13, 0, 0, 0), (2, 14, 0, 0, 0)]))))) else (bif Nat.blt q 20 then (bif Nat.blt q 16 then (bif Nat.blt q 14 then (101, 64, 46, [(1, 0, 0, (-9223372036854775808), 9223372036854775807)]) else (bif Nat.blt q 15 then (101, 64, 47, [(1, 0, 0, (-9223372036854775808), 9223372036854775807)]) else (3, 2, 48, [(2, 16, 0, 0, 0), (0, 0, 0, 0, 24)]))) else (bif Nat.blt q 18 then (bif Nat.blt q 17 then (100, 24, 50, [(0, 0, 0, 0, 23)]) else (0, 2, 51, [(2, 18, 0, 0, 0), (0, 0, 0, 0, 1)])) else (bif Nat.blt q 19 then (100, 12, 53, [(0, 0, 0, (-1), 1)]) else (3, 2, 54, [(2, 20, 0, 0, 0), (0, 0, 0, 0, 24)])))) else (bif Nat.blt q 23 then (bif Nat.blt q 21 then (100, 24, 56, [(0, 0, 0, 0, 23)]) else (bif Nat.blt q 22 then (3, 2, 57, [(2, 22, 0, 0, 0), (0, 0, 0, 0, 24)]) else (100, 24, 59, [(0, 0, 0, 0, 23)]))) else (bif Nat.blt q 25 then (bif Nat.blt q 24 then (100, 12, 60, [(0, 0, 0, (-1000), 1000)]) else (105, 9, 61, [(3, 2, 0, 0, 0)])) else (bif Nat.blt q 26 then (100, 8, 62, [(0, 0, 0, 0, 60)]) else (106, 8, 63, [(3, 4, 0, 0, 0)])))))) else bif Nat.blt q 181 then (bif Nat.blt q 147 then (bif Nat.beq (q % 2) 1 then (1, 3, 0, [(2, q + 1, 0, 0, 0), (0, 0, 0, (-2147483648), 2147483647), (1, 0, 0, (-9223372036854775808), 9223372036854775807)]) else (100, 24, 0, [(0, 0, 0, (-2147483648), 2147483647)])) else bif Nat.blt q 165 then (bif Nat.beq (q % 2) 1 then (5, 1, 0, [(2, q + 1, 0, 0, 0)]) else (101, 64, 0, [(1, 0, 0, (-9223372036854775808), 9223372036854775807)])) else (bif Nat.beq (q % 2) 1 then (3, 2, 0, [(2, q + 1, 0, 0, 0), (0, 0, 0, 0, 24)]) else (100, 24, 0, [(0, 0, 0, 0, 23)]))) else bif Nat.blt q 198 then (bif Nat.blt q 189 then (bif Nat.blt q 185 then (bif Nat.blt q 183 then (bif Nat.blt q 182 then (9, 32, 64, [(0, 0, 0, (-2147483648), 2147483647), (0, 0, 0, 0, 60), (2, 182, 0, 0, 0), (2, 183, 0, 0, 0), (2, 184, 0, 0, 0), (1, 0, 0, (-9223372036854775808), 9223372036854775807), (2, 185, 0, 0, 0), (0, 0, 0, 0, 200), (0, 0, 0, 0, 200), (0, 0, 0, 0, 200), (0, 0, 0, (-2147483648), 2147483647), (0, 0, 0, (-1), 200), (2, 186, 0, 0, 0), (2, 187, 0, 0, 0), (0, 0, 0, 0, 200), (0, 0, 0, (-2147483648), 2147483647), (1, 0, 0, (-30000000), 30000000), (2, 188, 0, 0, 0), (0, 0, 0, 0, 400), (0, 0, 0, 0, 1), (2, 189, 0, 0, 0), (0, 0, 0, 0, 12), (2, 190, 0, 0, 0), (2, 191, 0, 0, 0), (0, 0, 0, 0, 1), (2, 192, 0, 0, 0), (0, 0, 0, 0, 1), (2, 193, 0, 0, 0), (0, 0, 0, 0, 8), (2, 194, 0, 0, 0), (2, 195, 0, 0, 0), (2, 196, 0, 0, 0)]) else (101, 1440, 96, [(1, 0, 0, (-9223372036854775808), 9999999999)])) else (bif Nat.blt q 184 then (101, 60, 97, [(1, 0, 0, 0, 9999999999)]) else (101, 24, 98, [(1, 0, 0, (-9223372036854775808), 9223372036854775807)]))) else (bif Nat.blt q 187 then (bif Nat.blt q 186 then (100, 200, 99, [(0, 0, 0, 0, 255)]) else (101, 200, 100, [(1, 0, 0, (-30000000), 30000000)])) else (bif Nat.blt q 188 then (100, 200, 101, [(0, 0, 0, 0, 23)]) else (100, 400, 102, [(0, 0, 0, (-2147483648), 2147483647)])))) else (bif Nat.blt q 193 then (bif Nat.blt q 191 then (bif Nat.blt q 190 then (102, 24, 103, [(0, 0, 0, 0, 1)]) else (100, 12, 104, [(0, 0, 0, 0, 23)])) else (bif Nat.blt q 192 then (100, 12, 105, [(0, 0, 0, (-1), 1)]) else (100, 12, 106, [(0, 0, 0, (-1000), 1000)]))) else (bif Nat.blt q 195 then (bif Nat.blt q 194 then (102, 24, 107, [(0, 0, 0, 0, 1)]) else (100, 8, 108, [(0, 0, 0, 0, 60)])) else (bif Nat.blt q 196 then (100, 8, 109, [(0, 0, 0, 0, 12)]) else (bif Nat.blt q 197 then (100, 96, 110, [(0, 0, 0, 0, 23)]) else (101, 1, 111, [(1, 0, 0, (-9223372036854775808), 9223372036854775807)])))))) else bif Nat.beq q 300 then (98, 3, 112, [(7, 0, 0, 0, 0), (7, 0, 0, 0, 0), (7, 0, 0, 0, 0)]) else (101, 6, 0, [(1, 0, 0, (-9223372036854775808), 9223372036854775807)])
def ty_tt (q j : Nat) : ty_V := match (ty_tab q).2.2.2 with
  | [] => (7, 0, 0, 0, 0)
  | t :: ts => (t :: ts).getD j t
def ty_fi : ty_O → Nat → Nat → Option ty_V
  | [], _, _ => none
  | e :: r, q, j => bif Nat.beq e.1 q && Nat.beq e.2.1 j then some e.2.2 else ty_fi r q j
def ty_ar (q : Nat) : Bool := Nat.ble 100 (ty_tab q).1
/-- what is said of an array as a whole -/
def ty_un (ov : ty_O) (q : Nat) : ty_V := match ty_fi ov q 0 with
  | some t => t
  | none => ty_tt q 0
def ty_lk (ov : ty_O) (q j : Nat) : ty_V := match ty_fi ov q (j + 1) with
  | some t => t
  | none => bif ty_ar q then ty_un ov q else ty_tt q j
/-- cells that stand in a group -/
def ty_mb (q : Nat) : Bool := ax_gm 0 q || (ax_gm 1 q || (ax_gm 2 q || (ax_gm 3 q || (ax_gm 4 q || ax_gm 5 q))))
def ty_fd (h : ax_H) (q j : Nat) : Option Value := (h[q]?).bind (fun c => c.2[j]?)
def ty_iv (x : Option Value) : Option Int := match x with
  | some (.int i) => some i.toInt
  | _ => none
/-- K, brought into 0 .. 200 -/
def ty_kc (K : Int) : Int := ty_ma 0 (ty_mi K 200)
theorem ty_kc_bd (K : Int) : 0 ≤ ty_kc K ∧ ty_kc K ≤ 200 := by
  have h1 := @ty_ma_ok 0 (ty_mi K 200)
  have h2 := @ty_mi_ok K 200
  unfold ty_kc
  omega
theorem ty_kc_id {K : Int} (h1 : 0 ≤ K) (h2 : K ≤ 200) : ty_kc K = K := by
  have h3 := @ty_ma_ok 0 (ty_mi K 200)
  have h4 := @ty_mi_ok K 200
  unfold ty_kc
  omega
/-- three numbers more: the reference's byte where its token begins; its place less the terms it has; its place less K -/
def ty_pv (K : Int) (h : ax_H) (j : Nat) : Option Int := match j with
  | 0 => (ty_iv (ty_fd h 181 9)).bind (fun f => ty_iv (ty_fd h 185 f.toNat))
  | 1 => (ty_iv (ty_fd h 181 8)).bind (fun a => (ty_iv (ty_fd h 181 14)).map (fun b => a - b))
  | 2 => (ty_iv (ty_fd h 181 8)).map (fun a => a - ty_kc K)
  | _ => none
def ty_ps (K : Int) (ρ : Nat → Int) (N : Nat) (h : ax_H) (j : Nat) (t : ty_V) : Prop := match t with
  | (0, n, f, a, z) => ∀ v, ty_pv K h j = some v → ty_in ρ N n f a z v
  | _ => True
def ty_H (K : Int) (ρ : Nat → Int) (N : Nat) (ov : ty_O) (h : ax_H) : Prop := 198 ≤ h.length ∧
  (∀ q, q < 198 → ∃ vs, h[q]? = some ((ty_tab q).1, vs) ∧ vs.length = (ty_tab q).2.1 ∧ ∀ j x, vs[j]? = some x → ty_r ρ N h (ty_lk ov q j) x ∧ (ty_mb q = true → ty_r ρ N h (ty_tt q j) x)) ∧
  ∀ j, ty_ps K ρ N h j (ty_lk ov 300 j)
def ty_ls (ρ : Nat → Int) (N : Nat) (h : ax_H) : List (Nat × ty_V) → List (Nat × Value) → Prop
  | [], xs => xs = []
  | q :: t, xs => ∃ x r, xs = (q.1, x) :: r ∧ ty_r ρ N h q.2 x ∧ ty_ls ρ N h t r
def ty_rs (ρ : Nat → Int) (N : Nat) (h : ax_H) : List ty_V → List Value → Prop
  | [], xs => xs = []
  | t :: ts, xs => ∃ x r, xs = x :: r ∧ ty_r ρ N h t x ∧ ty_rs ρ N h ts r
/-- the number of a field, or of an array -/
def ty_ky (q j : Nat) : Nat := (ty_tab q).2.2.1 - 1 + (bif ty_ar q then 0 else j)
/-- what may have changed: the fields W alone; and what is never lost -/
def ty_F (W : Nat) (h h' : ax_H) : Prop := h.length ≤ h'.length ∧
  (∀ q j, q < 198 → (ty_tab q).2.2.1 ≠ 0 → W.testBit (ty_ky q j) = false → ty_fd h' q j = ty_fd h q j) ∧
  (∀ k c t, 198 ≤ k → h[k]? = some c → ty_lc t c → ∃ c', h'[k]? = some c' ∧ ty_lc t c') ∧
  (W.testBit 31 = false → ∀ (k : Nat) (bs : List Value), h[k]? = some (103, bs) → h'[k]? = some (103, bs))
-- names
theorem ty_in.mono {ρ : Nat → Int} {N M n : Nat} {f a z i : Int} (hN : N ≤ M) (h : ty_in ρ N n f a z i) : ty_in ρ M n f a z i :=
  ⟨h.1, h.2.1, h.2.2.imp id (fun q => ⟨Nat.lt_of_lt_of_le q.1 hN, q.2⟩)⟩
theorem ty_r.mono {ρ : Nat → Int} {N M : Nat} {h : ax_H} {t : ty_V} {x : Value} (hN : N ≤ M) (hr : ty_r ρ N h t x) : ty_r ρ M h t x := by
  unfold ty_r at hr ⊢
  split at hr
  · obtain ⟨i, h1, h2⟩ := hr; exact ⟨i, h1, h2.mono hN⟩
  · obtain ⟨i, h1, h2⟩ := hr; exact ⟨i, h1, h2.mono hN⟩
  all_goals exact hr
/-- one more name, for this number -/
def ty_up (ρ : Nat → Int) (N : Nat) (v : Int) : Nat → Int := fun k => if k = N then v else ρ k
theorem ty_in.up {ρ : Nat → Int} {N n : Nat} {f a z i v : Int} (h : ty_in ρ N n f a z i) : ty_in (ty_up ρ N v) (N + 1) n f a z i :=
  ⟨h.1, h.2.1, h.2.2.imp id (fun q => ⟨Nat.lt_succ_of_lt q.1, by rw [ty_up, if_neg (Nat.ne_of_lt q.1)]; exact q.2⟩)⟩
theorem ty_in.new {ρ : Nat → Int} {N n : Nat} {f a z i : Int} (hN : N ≠ 0) (h : ty_in ρ N n f a z i) : ty_in (ty_up ρ N i) (N + 1) N 0 a z i :=
  ⟨h.1, h.2.1, Or.inr ⟨Nat.lt_succ_self N, by rw [ty_up, if_pos rfl]; omega⟩⟩
theorem ty_r.up {ρ : Nat → Int} {N : Nat} {h : ax_H} {t : ty_V} {x : Value} {v : Int} (hr : ty_r ρ N h t x) : ty_r (ty_up ρ N v) (N + 1) h t x := by
  unfold ty_r at hr ⊢
  split at hr
  · obtain ⟨i, h1, h2⟩ := hr; exact ⟨i, h1, h2.up⟩
  · obtain ⟨i, h1, h2⟩ := hr; exact ⟨i, h1, h2.up⟩
  all_goals exact hr
theorem ty_ls.up {ρ : Nat → Int} {N : Nat} {h : ax_H} {v : Int} : ∀ {lv : List (Nat × ty_V)} {xs : List (Nat × Value)}, ty_ls ρ N h lv xs → ty_ls (ty_up ρ N v) (N + 1) h lv xs
  | [], _, hr => hr
  | _ :: _, _, ⟨x, r, e, h1, h2⟩ => ⟨x, r, e, h1.up, h2.up⟩
theorem ty_rs.up {ρ : Nat → Int} {N : Nat} {h : ax_H} {v : Int} : ∀ {st : List ty_V} {xs : List Value}, ty_rs ρ N h st xs → ty_rs (ty_up ρ N v) (N + 1) h st xs
  | [], _, hr => hr
  | _ :: _, _, ⟨x, r, e, h1, h2⟩ => ⟨x, r, e, h1.up, h2.up⟩
theorem ty_ps.up {K : Int} {ρ : Nat → Int} {N j : Nat} {h : ax_H} {t : ty_V} {v : Int} (hr : ty_ps K ρ N h j t) : ty_ps K (ty_up ρ N v) (N + 1) h j t := by
  unfold ty_ps at hr ⊢
  split at hr
  · exact fun w hw => (hr w hw).up
  · trivial
theorem ty_H.up {K : Int} {ρ : Nat → Int} {N : Nat} {ov : ty_O} {h : ax_H} {v : Int} (hr : ty_H K ρ N ov h) : ty_H K (ty_up ρ N v) (N + 1) ov h := by
  obtain ⟨h1, h2, h3⟩ := hr
  refine ⟨h1, fun q hq => ?_, fun j => (h3 j).up⟩
  obtain ⟨vs, e1, e2, e3⟩ := h2 q hq
  exact ⟨vs, e1, e2, fun j x hx => ⟨(e3 j x hx).1.up, fun hm => ((e3 j x hx).2 hm).up⟩⟩
-- what is weaker
def ty_tl (t s : ty_V) : Bool := match t, s with
  | (7, _), _ => true
  | (0, 0, _, a, z), (0, _, _, b, w) => ty_le a b && ty_le w z
  | (1, 0, _, a, z), (1, _, _, b, w) => ty_le a b && ty_le w z
  | (2, p, _), (2, q, _) => Nat.beq p q
  | (3, p, _), (3, q, _) => Nat.beq p q
  | (3, g, _), (2, q, _) => ax_gm g q
  | (4, p, _), (4, q, _) => Nat.beq p q
  | (5, _), (5, _) => true
  | (6, _), (6, _) => true
  | _, _ => false
theorem ty_tl_ok {ρ ρ' : Nat → Int} {N N' : Nat} {h : ax_H} {t s : ty_V} {x : Value} (hl : ty_tl t s = true) (hr : ty_r ρ N h s x) : ty_r ρ' N' h t x := by
  unfold ty_tl at hl
  split at hl
  · simp only [ty_r]
  · simp only [Bool.and_eq_true, ty_le_iff] at hl
    obtain ⟨i, h1, h2, h3, -⟩ := hr
    exact ⟨i, h1, by omega, by omega, Or.inl rfl⟩
  · simp only [Bool.and_eq_true, ty_le_iff] at hl
    obtain ⟨i, h1, h2, h3, -⟩ := hr
    exact ⟨i, h1, by omega, by omega, Or.inl rfl⟩
  · have := Nat.eq_of_beq_eq_true hl; subst this; exact hr
  · have := Nat.eq_of_beq_eq_true hl; subst this; exact hr
  · exact ⟨_, hr, hl⟩
  · have := Nat.eq_of_beq_eq_true hl; subst this; exact hr
  · exact hr
  · exact hr
  · cases hl
theorem ty_tl_ps {K : Int} {ρ ρ' : Nat → Int} {N N' j : Nat} {h : ax_H} {t s : ty_V} (hl : ty_tl t s = true) (hr : ty_ps K ρ N h j s) : ty_ps K ρ' N' h j t := by
  unfold ty_tl at hl
  split at hl
  · simp only [ty_ps]
  · simp only [Bool.and_eq_true, ty_le_iff] at hl
    intro v hv
    obtain ⟨h2, h3, -⟩ := hr v hv
    exact ⟨by omega, by omega, Or.inl rfl⟩
  all_goals first | (simp only [ty_ps]; done) | cases hl
