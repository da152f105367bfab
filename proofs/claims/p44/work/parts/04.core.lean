/-! THE ABSTRACT MACHINE: a frame and a heap of plain data; what it is of the machine's. Addresses are counted from b (the heap's size at the law's start); those from 1000000000 on are things that were there before. In an abstract value .float stands for any int, .double for any long, .retAddr for any reference. -/
/-- where the k-th cell lies, counted from b -/
def ax_of (o : Nat → Nat) (k : Nat) : Nat := match o (1000000000 + 2 * k) with
  | 0 => if k < 181 then k else k + o 999
  | p + 1 => p
/-- what may change: all from b on, but what lay in the gap at the method's start (o 998 long) and was no cell of its own (o (10^9 + 2k + 1): its pins) -/
def ax_R0 (o : Nat → Nat) (a : Nat) : Prop := ¬ (181 ≤ a ∧ a < 181 + o 998 ∧ ∀ k, o (1000000001 + 2 * k) ≠ a + 1)
def ax_RG (b : Nat) (o : Nat → Nat) (q : Nat) : Prop := b ≤ q ∧ ax_R0 o (q - b)
theorem ax_RG_of {b : Nat} {o : Nat → Nat} {a : Nat} (h : ax_R0 o a) : ax_RG b o (b + a) := ⟨Nat.le_add_right _ _, by rw [Nat.add_sub_cancel_left]; exact h⟩
def ax_ad (b : Nat) (o : Nat → Nat) (a : Nat) : Nat := if a < 1000000000 then b + ax_of o a else o ((a - 1000000000) % 1000)
/-- the ints that a mark stands for -/
def ax_los : List Int := [-2147483648, -1000000000, -1000, -128, -1, 0, 1, 2, 3, 4, 6, 7, 8, 10, 12, 24, 60, 64, 200, 1000]
def ax_his : List Int := [-1, 0, 1, 2, 3, 4, 5, 6, 7, 8, 9, 10, 11, 12, 13, 15, 16, 19, 20, 22, 23, 24, 25, 57, 59, 60, 63, 64, 127, 180, 184, 188, 192, 196, 199, 200, 201, 255, 999, 1000, 4094, 4095, 4096, 1000000000, 2147483647]
/-- marks 0 to 18 are those of old; from 100 on: which end below, which end above -/
def ax_rgx (k : Nat) : Int × Int := if k < 100 then (-2147483648, 2147483647) else (ax_los.getD ((k - 100) / 45) (-2147483648), ax_his.getD ((k - 100) % 45) 2147483647)
def ax_rg (n : UInt32) : Int × Int := match n.toNat % 1000 with
  | 1 => (-2147483648, -1)
  | 2 => (0, 2147483647)
  | 3 => (24, 2147483647)
  | 4 => (12, 2147483647)
  | 5 => (4096, 2147483647)
  | 6 => (-2147483648, -1001)
  | 7 => (1001, 2147483647)
  | 8 => (-1000, 1000)
  | 9 => (0, 4095)
  | 10 => (1, 2147483647)
  | 11 => (0, 23)
  | 12 => (0, 11)
  | 13 => (41, 2147483647)
  | 14 => (0, 1)
  | 15 => (0, 63)
  | 16 => (1, 4095)
  | 17 => (0, 4094)
  | 18 => (0, 64)
  | k => ax_rgx k
/-- the longs that a mark stands for -/
def ax_lgl : List (Int × Int) := [(0, 9223372036854775807), (1, 9223372036854775807), (0, 1000000000), (1, 1000000000), (-1000000000, 1000000000), (0, 4095), (0, 24000000000), (-24000000000, 24000000000), (0, 1000), (-1000, 1000), (0, 12000), (-12000, 12000), (-2147483648, 2147483647), (0, 2147483647), (0, 200), (-1, 2147483647)]
def ax_lr (n : UInt64) : Int × Int := if n.toNat = 0 then (-9223372036854775808, 9223372036854775807) else ax_lgl.getD (n.toNat - 1) (-9223372036854775808, 9223372036854775807)
def ax_ld (n : UInt64) (i : Int64) : Prop := (ax_lr n).1 ≤ i.toInt ∧ i.toInt ≤ (ax_lr n).2
theorem ax_ld0 (i : Int64) : ax_ld 0 i := by
  have h1 := Int64.le_toInt i
  have h2 := Int64.toInt_lt i
  exact ⟨by show (-9223372036854775808 : Int) ≤ _; omega, by show _ ≤ (9223372036854775807 : Int); omega⟩
/-- groups of references: things of one kind, each group by its runs (first, step, how many) -/
def ax_grs : List (List (Nat × Nat × Nat)) := [[(10, 1, 1), (27, 2, 60)], [(11, 1, 1), (28, 2, 60)], [(147, 2, 9)], [(148, 2, 9)], [(15, 1, 1), (19, 1, 1), (21, 1, 1), (165, 2, 8)], [(16, 1, 1), (20, 1, 1), (22, 1, 1), (166, 2, 8)]]
def ax_gm (g a : Nat) : Bool := (ax_grs.getD g []).any (fun q => Nat.ble q.1 a && (Nat.beq ((a - q.1) % q.2.1) 0 && Nat.blt ((a - q.1) / q.2.1) q.2.2))
def ax_ga (b : Nat) (o : Nat → Nat) (g a : Nat) : Prop := g = 0 ∨ ∃ c, a = b + ax_of o c ∧ c < 1000000000 ∧ ax_gm (g - 1) c = true
theorem ax_ga0 (b : Nat) (o : Nat → Nat) (a : Nat) : ax_ga b o 0 a := Or.inl rfl
def ax_md (n : UInt32) (i : Int32) : Prop := (ax_rg n).1 ≤ i.toInt ∧ i.toInt ≤ (ax_rg n).2
theorem ax_md0 (i : Int32) : ax_md 0 i := by
  have h1 := Int32.le_toInt i
  have h2 := Int32.toInt_lt i
  exact ⟨by show (-2147483648 : Int) ≤ _; omega, by show _ ≤ (2147483647 : Int); omega⟩
/-- marks from 1000 on have names: those of one name (n / 1000) stand for one int alone -/
def ax_bs (n : UInt32) : Nat := 1000 + n.toNat / 1000
def ax_nm (o : Nat → Nat) (n : UInt32) (i : Int32) : Prop := 1000 ≤ n.toNat → i = Int32.ofNat (o (ax_bs n))
theorem ax_nm0 (o : Nat → Nat) (i : Int32) : ax_nm o 0 i := fun h => absurd h (by decide)
theorem ax_nml {n : UInt32} (h : n.toNat < 1000) (o : Nat → Nat) (i : Int32) : ax_nm o n i := fun h2 => by omega
/-- an int that the value stands for, whatever its names -/
def ax_vk (x : Value) (i : Int32) : Prop := match x with
  | .int j => i = j
  | .float n => n.toNat < 1000 ∧ ax_md n i
  | _ => False
/-- an int that the value may stand for -/
def ax_vi (x : Value) (i : Int32) : Prop := match x with
  | .int j => i = j
  | .float n => ax_md n i
  | _ => False
def ax_rn (x : Value) : Option (Int × Int) := match x with
  | .int j => some (j.toInt, j.toInt)
  | .float n => some (ax_rg n)
  | _ => none
theorem ax_rn_ok {x : Value} {i : Int32} {q : Int × Int} (h : ax_vi x i) (hq : ax_rn x = some q) : q.1 ≤ i.toInt ∧ i.toInt ≤ q.2 := by
  cases x <;> simp only [ax_rn, ax_vi] at h hq <;> cases hq
  · subst h; exact ⟨Int.le_refl _, Int.le_refl _⟩
  · exact h
/-- is the one less than the other? -/
def ax_ltu (x y : Value) : Option Bool := match ax_rn x, ax_rn y with
  | some p, some q => if p.2 < q.1 then some true else if q.2 ≤ p.1 then some false else none
  | _, _ => none
def ax_equ (x y : Value) : Option Bool := match ax_rn x, ax_rn y with
  | some p, some q => if p.2 < q.1 ∨ q.2 < p.1 then some false else if p.1 = p.2 ∧ q.1 = q.2 ∧ p.1 = q.1 then some true else none
  | _, _ => none
theorem ax_ltu_ok {x y : Value} {i j : Int32} {t : Bool} (h : ax_ltu x y = some t) (hi : ax_vi x i) (hj : ax_vi y j) : i < j ↔ t = true := by
  unfold ax_ltu at h
  split at h
  · rename_i p q hp hq
    have h1 := ax_rn_ok hi hp
    have h2 := ax_rn_ok hj hq
    rw [Int32.lt_iff_toInt_lt]
    split at h
    · cases h; exact ⟨fun _ => rfl, fun _ => by omega⟩
    · split at h
      · cases h; exact ⟨fun _ => by omega, fun e => by cases e⟩
      · cases h
  · cases h
theorem ax_leu_ok {x y : Value} {i j : Int32} {t : Bool} (h : ax_ltu y x = some t) (hi : ax_vi x i) (hj : ax_vi y j) : i ≤ j ↔ t = false := by
  have := ax_ltu_ok h hj hi
  rw [← Int32.not_lt, this]
  cases t <;> simp
theorem ax_equ_ok {x y : Value} {i j : Int32} {t : Bool} (h : ax_equ x y = some t) (hi : ax_vi x i) (hj : ax_vi y j) : i = j ↔ t = true := by
  unfold ax_equ at h
  split at h
  · rename_i p q hp hq
    have h1 := ax_rn_ok hi hp
    have h2 := ax_rn_ok hj hq
    rw [← Int32.toInt_inj]
    split at h
    · cases h; exact ⟨fun _ => by omega, fun e => by cases e⟩
    · split at h
      · cases h; exact ⟨fun _ => rfl, fun _ => by omega⟩
      · cases h
  · cases h
def ax_v (b : Nat) (o : Nat → Nat) (x v : Value) : Prop := match x with
  | .ref a => v = .ref (ax_ad b o a)
  | .float n => ∃ i, v = .int i ∧ ax_md n i ∧ ax_nm o n i
  | .double n => ∃ i, v = .long i ∧ ax_ld n i
  | .retAddr g => ∃ a, v = .ref a ∧ ax_ga b o g a
  | .int i => v = .int i
  | .long i => v = .long i
  | .null => v = .null
def ax_vs (b : Nat) (o : Nat → Nat) : List Value → List Value → Prop
  | [], vs => vs = []
  | x :: xs, vs => ∃ v t, vs = v :: t ∧ ax_v b o x v ∧ ax_vs b o xs t
def ax_ls (b : Nat) (o : Nat → Nat) : List (Nat × Value) → List (Nat × Value) → Prop
  | [], vs => vs = []
  | x :: xs, vs => ∃ v t, vs = (x.1, v) :: t ∧ ax_v b o x.2 v ∧ ax_ls b o xs t
def ax_c (D : va_G) (b : Nat) (o : Nat → Nat) (q : Nat × List Value) (cell : Cell) : Prop :=
  q.1 = 99 ∨ (cell.vm = .none ∧ cell.cls = D.1 q.1 ∧ (100 ≤ q.1 → cell.slots.size = q.2.length) ∧ ∀ k x, q.2[k]? = some x → ∃ v, cell.slots[D.2 q.1 k]? = some v ∧ ax_v b o x v)
/-- the places of n cells: no two the same, all below the top, and no pin beyond -/
def ax_W (o : Nat → Nat) (n : Nat) : Prop := (n < 181 → o 999 = 0 ∧ o 998 = 0) ∧ (∀ k, n ≤ k → o (1000000000 + 2 * k) = 0) ∧ (∀ i j, i < n → j < n → ax_of o i = ax_of o j → i = j) ∧ (∀ i, i < n → ax_of o i < n + o 999) ∧ (∀ k, k < 181 → ax_of o k = k) ∧ (∀ k, 181 ≤ k → 181 ≤ ax_of o k) ∧ (181 ≤ n → 181 + o 998 ≤ n + o 999) ∧ ∀ i, i < n → ax_R0 o (ax_of o i)
theorem ax_W.top {o : Nat → Nat} {n k : Nat} (h : ax_W o n) (hk : n ≤ k) : n + o 999 ≤ ax_of o k ∧ (k = n → ax_of o k = n + o 999) := by
  obtain ⟨h1, h2, -⟩ := h
  unfold ax_of
  rw [h2 k hk]
  show n + o 999 ≤ (if k < 181 then k else k + o 999) ∧ (k = n → (if k < 181 then k else k + o 999) = n + o 999)
  by_cases hc : k < 181
  · rw [if_pos hc]
    have := h1 (by omega)
    omega
  · rw [if_neg hc]
    omega
theorem ax_W.succ {o : Nat → Nat} {n : Nat} (h : ax_W o n) : ax_W o (n + 1) := by
  have ht := (h.top (Nat.le_refl n)).2 rfl
  obtain ⟨h1, h2, h3, h4, h5, h6, h7, h8⟩ := h
  refine ⟨fun h => h1 (by omega), fun k hk => h2 k (by omega), fun i j hi hj he => ?_, fun i hi => ?_, h5, h6, fun hq => ?_, fun i hi => ?_⟩
  · rcases (by omega : i < n ∨ i = n) with hi | hi
    · rcases (by omega : j < n ∨ j = n) with hj | hj
      · exact h3 i j hi hj he
      · subst hj
        have := h4 i hi
        omega
    · subst hi
      rcases (by omega : j < i ∨ j = i) with hj | hj
      · have := h4 j hj
        omega
      · exact hj.symm
  · rcases (by omega : i < n ∨ i = n) with hi | hi
    · have := h4 i hi
      omega
    · subst hi
      omega
  · rcases (by omega : n < 181 ∨ 181 ≤ n) with q | q
    · have := h1 q
      omega
    · have := h7 q
      omega
  · rcases (by omega : i < n ∨ i = n) with hi | hi
    · exact h8 i hi
    · subst hi
      rintro ⟨q1, q2, -⟩
      rcases (by omega : i < 181 ∨ 181 ≤ i) with q3 | q3
      · have := h5 i q3
        omega
      · have := h7 q3
        omega
theorem ax_W.ne {o : Nat → Nat} {n i a : Nat} (h : ax_W o n) (hi : i < n) (ha : a ≠ i) : ax_of o i ≠ ax_of o a := by
  intro e
  rcases Nat.lt_or_ge a n with h1 | h1
  · exact ha (h.2.2.1 i a hi h1 e).symm
  · have h2 := (h.top h1).1
    have h3 := h.2.2.2.1 i hi
    omega
def ax_R (D : va_G) (b : Nat) (o : Nat → Nat) (h : ax_H) (H : Heap) : Prop := H.size = b + (h.length + o 999) ∧ (∀ k q, h[k]? = some q → ∃ cell, H[b + ax_of o k]? = some cell ∧ ax_c D b o q cell) ∧ ax_W o h.length
theorem ax_R.rg {D : va_G} {b : Nat} {o : Nat → Nat} {h : ax_H} {H : Heap} (hR : ax_R D b o h H) {a : Nat} {q : Nat × List Value} (hg : h[a]? = some q) : ax_RG b o (b + ax_of o a) := ax_RG_of (hR.2.2.2.2.2.2.2.2.2 a (List.getElem?_eq_some_iff.mp hg).1)
theorem ax_R.top {D : va_G} {b : Nat} {o : Nat → Nat} {h : ax_H} {H : Heap} (hR : ax_R D b o h H) : H.size = b + ax_of o h.length := by
  rw [(hR.2.2.top (Nat.le_refl _)).2 rfl]
  exact hR.1
-- values
theorem ax_v_cat {b : Nat} {o : Nat → Nat} {x v : Value} (h : ax_v b o x v) : v.category = x.category := by
  cases x <;> simp only [ax_v] at h
  case int i => subst h; rfl
  case long i => subst h; rfl
  case float i => obtain ⟨i, rfl, -⟩ := h; rfl
  case double i => obtain ⟨i, rfl, -⟩ := h; rfl
  case null => subst h; rfl
  case ref a => subst h; rfl
  case retAddr a => obtain ⟨i, rfl, -⟩ := h; rfl
def ax_isI : Value → Bool
  | .int _ => true
  | .float _ => true
  | _ => false
def ax_isL : Value → Bool
  | .long _ => true
  | .double _ => true
  | _ => false
def ax_isA : Value → Bool
  | .ref _ => true
  | .retAddr _ => true
  | _ => false
theorem ax_v_I {b : Nat} {o : Nat → Nat} {x v : Value} (h : ax_v b o x v) (hx : ax_isI x = true) : ∃ i, v = .int i := by
  cases x <;> simp only [ax_v, ax_isI] at h hx
  case int i => exact ⟨i, h⟩
  case float i => exact ⟨_, h.choose_spec.1⟩
  all_goals cases hx
theorem ax_v_L {b : Nat} {o : Nat → Nat} {x v : Value} (h : ax_v b o x v) (hx : ax_isL x = true) : ∃ i, v = .long i := by
  cases x <;> simp only [ax_v, ax_isL] at h hx
  case long i => exact ⟨i, h⟩
  case double i => exact ⟨_, h.choose_spec.1⟩
  all_goals cases hx
theorem ax_v_A {b : Nat} {o : Nat → Nat} {x v : Value} (h : ax_v b o x v) (hx : ax_isA x = true) : ∃ i, v = .ref i := by
  cases x <;> simp only [ax_v, ax_isA] at h hx
  case ref a => exact ⟨_, h⟩
  case retAddr i => exact ⟨_, h.choose_spec.1⟩
  all_goals cases hx
def ax_b2 (f : Int32 → Int32 → Int32) (x y : Value) : Option Value := match x, y with
  | .int i, .int j => some (.int (f i j))
  | x, y => if ax_isI x && ax_isI y then some (.float 0) else none
theorem ax_b2_spec {f : Int32 → Int32 → Int32} {b : Nat} {o : Nat → Nat} {x y z vx vy : Value} (h : ax_b2 f x y = some z) (hx : ax_v b o x vx) (hy : ax_v b o y vy) : ∃ i j, vx = .int i ∧ vy = .int j ∧ ax_v b o z (.int (f i j)) := by
  unfold ax_b2 at h
  split at h
  · cases h; exact ⟨_, _, hx, hy, rfl⟩
  · split at h
    next hc =>
      cases h
      simp only [Bool.and_eq_true] at hc
      obtain ⟨i, rfl⟩ := ax_v_I hx hc.1
      obtain ⟨j, rfl⟩ := ax_v_I hy hc.2
      exact ⟨i, j, rfl, rfl, ⟨_, rfl, ax_md0 _, ax_nm0 _ _⟩⟩
    next => cases h
def ax_d2 (f : Int32 → Int32 → Int32) (x y : Value) : Option Value := match y with
  | .int j => if j = 0 then none else ax_b2 f x (.int j)
  | _ => none
theorem ax_d2_spec {f : Int32 → Int32 → Int32} {b : Nat} {o : Nat → Nat} {x y z vx vy : Value} (h : ax_d2 f x y = some z) (hx : ax_v b o x vx) (hy : ax_v b o y vy) : ∃ i j, vx = .int i ∧ vy = .int j ∧ ¬ j = 0 ∧ ax_v b o z (.int (f i j)) := by
  unfold ax_d2 at h
  split at h
  · split at h
    next => cases h
    next hj =>
      obtain ⟨i, j, e1, e2, e3⟩ := ax_b2_spec h hx hy
      cases hy
      cases e2
      exact ⟨i, _, e1, rfl, hj, e3⟩
  · cases h
def ax_l2 (f : Int64 → Int64 → Int64) (x y : Value) : Option Value := match x, y with
  | .long i, .long j => some (.long (f i j))
  | x, y => if ax_isL x && ax_isL y then some (.double 0) else none
theorem ax_l2_spec {f : Int64 → Int64 → Int64} {b : Nat} {o : Nat → Nat} {x y z vx vy : Value} (h : ax_l2 f x y = some z) (hx : ax_v b o x vx) (hy : ax_v b o y vy) : ∃ i j, vx = .long i ∧ vy = .long j ∧ ax_v b o z (.long (f i j)) := by
  unfold ax_l2 at h
  split at h
  · cases h; exact ⟨_, _, hx, hy, rfl⟩
  · split at h
    next hc =>
      cases h
      simp only [Bool.and_eq_true] at hc
      obtain ⟨i, rfl⟩ := ax_v_L hx hc.1
      obtain ⟨j, rfl⟩ := ax_v_L hy hc.2
      exact ⟨i, j, rfl, rfl, ⟨_, rfl, ax_ld0 _⟩⟩
    next => cases h
def ax_m2 (f : Int64 → Int64 → Int64) (x y : Value) : Option Value := match y with
  | .long j => if j = 0 then none else ax_l2 f x (.long j)
  | _ => none
theorem ax_m2_spec {f : Int64 → Int64 → Int64} {b : Nat} {o : Nat → Nat} {x y z vx vy : Value} (h : ax_m2 f x y = some z) (hx : ax_v b o x vx) (hy : ax_v b o y vy) : ∃ i j, vx = .long i ∧ vy = .long j ∧ ¬ j = 0 ∧ ax_v b o z (.long (f i j)) := by
  unfold ax_m2 at h
  split at h
  · split at h
    next => cases h
    next hj =>
      obtain ⟨i, j, e1, e2, e3⟩ := ax_l2_spec h hx hy
      cases hy
      cases e2
      exact ⟨i, _, e1, rfl, hj, e3⟩
  · cases h
/-- a long by an int: shifts -/
def ax_li (f : Int64 → Int32 → Int64) (x y : Value) : Option Value := match x, y with
  | .long i, .int j => some (.long (f i j))
  | x, y => if ax_isL x && ax_isI y then some (.double 0) else none
theorem ax_li_spec {f : Int64 → Int32 → Int64} {b : Nat} {o : Nat → Nat} {x y z vx vy : Value} (h : ax_li f x y = some z) (hx : ax_v b o x vx) (hy : ax_v b o y vy) : ∃ i j, vx = .long i ∧ vy = .int j ∧ ax_v b o z (.long (f i j)) := by
  unfold ax_li at h
  split at h
  · cases h; exact ⟨_, _, hx, hy, rfl⟩
  · split at h
    next hc =>
      cases h
      simp only [Bool.and_eq_true] at hc
      obtain ⟨i, rfl⟩ := ax_v_L hx hc.1
      obtain ⟨j, rfl⟩ := ax_v_I hy hc.2
      exact ⟨i, j, rfl, rfl, ⟨_, rfl, ax_ld0 _⟩⟩
    next => cases h
def ax_u1 (f : Int32 → Int32) (x : Value) : Option Value := match x with
  | .int i => some (.int (f i))
  | .float _ => some (.float 0)
  | _ => none
theorem ax_u1_spec {f : Int32 → Int32} {b : Nat} {o : Nat → Nat} {x z vx : Value} (h : ax_u1 f x = some z) (hx : ax_v b o x vx) : ∃ i, vx = .int i ∧ ax_v b o z (.int (f i)) := by
  cases x <;> simp only [ax_u1] at h <;> cases h
  · exact ⟨_, hx, rfl⟩
  · obtain ⟨i, rfl, -⟩ := hx; exact ⟨i, rfl, _, rfl, ax_md0 _, ax_nm0 _ _⟩
def ax_ul (f : Int64 → Int64) (x : Value) : Option Value := match x with
  | .long i => some (.long (f i))
  | .double _ => some (.double 0)
  | _ => none
theorem ax_ul_spec {f : Int64 → Int64} {b : Nat} {o : Nat → Nat} {x z vx : Value} (h : ax_ul f x = some z) (hx : ax_v b o x vx) : ∃ i, vx = .long i ∧ ax_v b o z (.long (f i)) := by
  cases x <;> simp only [ax_ul] at h <;> cases h
  · exact ⟨_, hx, rfl⟩
  · obtain ⟨i, rfl, -⟩ := hx; exact ⟨i, rfl, _, rfl, ax_ld0 _⟩
def ax_i2l (x : Value) : Option Value := match x with
  | .int i => some (.long i.toInt64)
  | .float n => some (if 0 ≤ (ax_rg n).1 then .double 14 else .double 13)
  | _ => none
theorem ax_i2l_spec {b : Nat} {o : Nat → Nat} {x z vx : Value} (h : ax_i2l x = some z) (hx : ax_v b o x vx) : ∃ i, vx = .int i ∧ ax_v b o z (.long i.toInt64) := by
  cases x <;> simp only [ax_i2l] at h <;> cases h
  · exact ⟨_, hx, rfl⟩
  · rename_i n
    obtain ⟨i, rfl, ⟨h1, h2⟩, -⟩ := hx
    refine ⟨i, rfl, ?_⟩
    have h3 := Int32.le_toInt i
    have h4 := Int32.toInt_lt i
    have h5 : i.toInt64.toInt = i.toInt := Int32.toInt_toInt64 i
    split
    · exact ⟨_, rfl, by show (0 : Int) ≤ _; omega, by show _ ≤ (2147483647 : Int); omega⟩
    · exact ⟨_, rfl, by show (-2147483648 : Int) ≤ _; omega, by show _ ≤ (2147483647 : Int); omega⟩
def ax_l2i (x : Value) : Option Value := match x with
  | .long i => some (.int i.toInt32)
  | .double _ => some (.float 0)
  | _ => none
theorem ax_l2i_spec {b : Nat} {o : Nat → Nat} {x z vx : Value} (h : ax_l2i x = some z) (hx : ax_v b o x vx) : ∃ i, vx = .long i ∧ ax_v b o z (.int i.toInt32) := by
  cases x <;> simp only [ax_l2i] at h <;> cases h
  · exact ⟨_, hx, rfl⟩
  · obtain ⟨i, rfl, -⟩ := hx; exact ⟨i, rfl, _, rfl, ax_md0 _, ax_nm0 _ _⟩
def ax_lc (x y : Value) : Option Value := match x, y with
  | .long i, .long j => some (.int (lg_cmp i j))
  | x, y => if ax_isL x && ax_isL y then some (.float 0) else none
theorem ax_lc_spec {b : Nat} {o : Nat → Nat} {x y z vx vy : Value} (h : ax_lc x y = some z) (hx : ax_v b o x vx) (hy : ax_v b o y vy) : ∃ i j, vx = .long i ∧ vy = .long j ∧ ax_v b o z (.int (lg_cmp i j)) := by
  unfold ax_lc at h
  split at h
  · cases h; exact ⟨_, _, hx, hy, rfl⟩
  · split at h
    next hc =>
      cases h
      simp only [Bool.and_eq_true] at hc
      obtain ⟨i, rfl⟩ := ax_v_L hx hc.1
      obtain ⟨j, rfl⟩ := ax_v_L hy hc.2
      exact ⟨i, j, rfl, rfl, ⟨_, rfl, ax_md0 _, ax_nm0 _ _⟩⟩
    next => cases h
/-- what may be stored under a type -/
def ax_fit (ty : FieldType) (x : Value) : Bool := match ty, x with
  | .int, .int _ => true
  | .int, .float _ => true
  | .long, .long _ => true
  | .long, .double _ => true
  | .boolean, .int i => i == 0 || i == 1
  | .boolean, .float n => decide (0 ≤ (ax_rg n).1) && decide ((ax_rg n).2 ≤ 1)
  | .byte, .int i => decide (-128 ≤ i) && decide (i ≤ 127) && (i.toInt8.toInt32 == i)
  | .object _, .ref _ => true
  | .object _, .null => true
  | .array _, .ref _ => true
  | .array _, .null => true
  | _, _ => false
theorem ax_fit_spec {b : Nat} {o : Nat → Nat} {ty : FieldType} {x v : Value} (h : ax_fit ty x = true) (hx : ax_v b o x v) : narrow ty v = v ∧ fits ty v = true := by
  unfold ax_fit at h
  split at h
  · cases hx; exact ⟨rfl, rfl⟩
  · obtain ⟨i, rfl, -⟩ := hx; exact ⟨rfl, rfl⟩
  · cases hx; exact ⟨rfl, rfl⟩
  · obtain ⟨i, rfl, -⟩ := hx; exact ⟨rfl, rfl⟩
  · cases hx
    simp only [Bool.or_eq_true, beq_iff_eq] at h
    rcases h with rfl | rfl <;> exact ⟨rfl, rfl⟩
  · obtain ⟨i, rfl, ⟨h1, h2⟩, -⟩ := hx
    simp only [Bool.and_eq_true, decide_eq_true_eq] at h
    have h0 : i = 0 ∨ i = 1 := by
      rcases (by omega : i.toInt = 0 ∨ i.toInt = 1) with h3 | h3
      · exact Or.inl (Int32.toInt_inj.mp h3)
      · exact Or.inr (Int32.toInt_inj.mp h3)
    rcases h0 with rfl | rfl <;> exact ⟨rfl, rfl⟩
  · cases hx
    simp only [Bool.and_eq_true, beq_iff_eq, decide_eq_true_eq] at h
    refine ⟨?_, ?_⟩
    · show Value.int _ = _
      rw [h.2]
    · simp only [fits, Bool.and_eq_true, decide_eq_true_eq]
      exact h.1
  · cases hx; exact ⟨rfl, rfl⟩
  · cases hx; exact ⟨rfl, rfl⟩
  · cases hx; exact ⟨rfl, rfl⟩
  · cases hx; exact ⟨rfl, rfl⟩
  · cases h
theorem ax_v_default {b : Nat} {o : Nat → Nat} {ty : FieldType} (hf : ty ≠ .float) (hd : ty ≠ .double) : ax_v b o (defaultValue ty) (defaultValue ty) := by
  cases ty <;> first | rfl | exact absurd rfl hf | exact absurd rfl hd
-- stacks and locals
theorem ax_vs_app {b : Nat} {o : Nat → Nat} : ∀ {xs ys vs ws : List Value}, ax_vs b o xs vs → ax_vs b o ys ws → ax_vs b o (xs ++ ys) (vs ++ ws)
  | [], _, vs, _, h, h2 => by cases h; exact h2
  | x :: xs, ys, vs, ws, h, h2 => by
    obtain ⟨v, t, rfl, h3, h4⟩ := h
    exact ⟨v, t ++ ws, rfl, h3, ax_vs_app h4 h2⟩
theorem ax_vs_len {b : Nat} {o : Nat → Nat} : ∀ {xs vs : List Value}, ax_vs b o xs vs → vs.length = xs.length
  | [], vs, h => by cases h; rfl
  | x :: xs, vs, h => by
    obtain ⟨v, t, rfl, h3, h4⟩ := h
    simp [ax_vs_len h4]
theorem ax_vs_rev {b : Nat} {o : Nat → Nat} : ∀ {xs vs : List Value}, ax_vs b o xs vs → ax_vs b o xs.reverse vs.reverse
  | [], vs, h => by cases h; rfl
  | x :: xs, vs, h => by
    obtain ⟨v, t, rfl, h3, h4⟩ := h
    rw [List.reverse_cons, List.reverse_cons]
    exact ax_vs_app (ax_vs_rev h4) ⟨v, [], rfl, h3, rfl⟩
theorem ax_vs_cat {b : Nat} {o : Nat → Nat} : ∀ {xs vs : List Value}, ax_vs b o xs vs → (vs.map fun v => v.category).sum = (xs.map fun v => v.category).sum
  | [], vs, h => by cases h; rfl
  | x :: xs, vs, h => by
    obtain ⟨v, t, rfl, h3, h4⟩ := h
    simp [ax_vs_cat h4, ax_v_cat h3]
/-- the first n of a stack, and the rest -/
theorem ax_vs_split {b : Nat} {o : Nat → Nat} : ∀ {xs ys vs : List Value}, ax_vs b o (xs ++ ys) vs → ∃ v1 v2, vs = v1 ++ v2 ∧ ax_vs b o xs v1 ∧ ax_vs b o ys v2
  | [], ys, vs, h => ⟨[], vs, rfl, rfl, h⟩
  | x :: xs, ys, vs, h => by
    obtain ⟨v, t, rfl, h3, h4⟩ := h
    obtain ⟨v1, v2, rfl, h5, h6⟩ := ax_vs_split h4
    exact ⟨v :: v1, v2, rfl, ⟨v, v1, rfl, h3, h5⟩, h6⟩
def ax_at : List (Nat × Value) → Nat → Option Value
  | [], _ => none
  | q :: t, i => bif Nat.beq q.1 i then some q.2 else ax_at t i
theorem ax_at_spec {b : Nat} {o : Nat → Nat} : ∀ {lv lvc : List (Nat × Value)} {i : Nat} {x : Value}, ax_ls b o lv lvc → ax_at lv i = some x → ∃ v, (i, v) ∈ lvc ∧ ax_v b o x v
  | [], _, _, _, _, h => by cases h
  | q :: t, lvc, i, x, hl, h => by
    obtain ⟨v, t', rfl, h3, h4⟩ := hl
    simp only [ax_at] at h
    cases hq : Nat.beq q.1 i with
    | true =>
      rw [hq] at h
      cases h
      have := Nat.eq_of_beq_eq_true hq
      subst this
      exact ⟨v, List.mem_cons_self, h3⟩
    | false =>
      rw [hq] at h
      obtain ⟨v', h5, h6⟩ := ax_at_spec h4 h
      exact ⟨v', List.mem_cons_of_mem _ h5, h6⟩
def ax_k1 (i : Nat) (q : Nat × Value) : Bool := !(q.1 == i) && !(q.1 + 1 == i && q.2.category == 2)
def ax_k2 (i : Nat) (q : Nat × Value) : Bool := !(q.1 == i) && (!(q.1 == i + 1) && !(q.1 + 1 == i && q.2.category == 2))
def ax_s1 (i : Nat) (x : Value) (lv : List (Nat × Value)) : List (Nat × Value) := (i, x) :: lv.filter (ax_k1 i)
def ax_s2 (i : Nat) (x : Value) (lv : List (Nat × Value)) : List (Nat × Value) := (i, x) :: lv.filter (ax_k2 i)
theorem ax_ls_filter {b : Nat} {o : Nat → Nat} {f : Nat × Value → Bool} (hf : ∀ i x v, ax_v b o x v → f (i, v) = f (i, x)) : ∀ {lv lvc : List (Nat × Value)}, ax_ls b o lv lvc → ax_ls b o (lv.filter f) (lvc.filter f)
  | [], lvc, h => by cases h; rfl
  | q :: t, lvc, h => by
    obtain ⟨v, t', rfl, h3, h4⟩ := h
    have e : f (q.1, v) = f q := hf q.1 q.2 v h3
    cases hq : f q with
    | true =>
      rw [List.filter_cons_of_pos hq, List.filter_cons_of_pos (by rw [e]; exact hq)]
      exact ⟨v, _, rfl, h3, ax_ls_filter hf h4⟩
    | false =>
      rw [List.filter_cons_of_neg (by simp [hq]), List.filter_cons_of_neg (by rw [e]; simp [hq])]
      exact ax_ls_filter hf h4
theorem ax_s1_spec {b : Nat} {o : Nat → Nat} {lv lvc : List (Nat × Value)} {i : Nat} {x v : Value} (h : ax_ls b o lv lvc) (hx : ax_v b o x v) : ax_ls b o (ax_s1 i x lv) (ax_s1 i v lvc) :=
  ⟨v, _, rfl, hx, ax_ls_filter (fun j y w hy => by simp only [ax_k1, ax_v_cat hy]) h⟩
theorem ax_s2_spec {b : Nat} {o : Nat → Nat} {lv lvc : List (Nat × Value)} {i : Nat} {x v : Value} (h : ax_ls b o lv lvc) (hx : ax_v b o x v) : ax_ls b o (ax_s2 i x lv) (ax_s2 i v lvc) :=
  ⟨v, _, rfl, hx, ax_ls_filter (fun j y w hy => by simp only [ax_k2, ax_v_cat hy]) h⟩
theorem ax_args {b : Nat} {o : Nat → Nat} : ∀ {xs vs : List Value} (n : Nat), ax_vs b o xs vs → ax_ls b o (lv_args n xs) (lv_args n vs)
  | [], vs, n, h => by cases h; rfl
  | x :: xs, vs, n, h => by
    obtain ⟨v, t, rfl, h3, h4⟩ := h
    simp only [lv_args, ax_v_cat h3]
    exact ⟨v, _, rfl, h3, ax_args _ h4⟩
theorem ax_sl_len {b : Nat} {o : Nat → Nat} : ∀ {xs vs : List Value}, ax_vs b o xs vs → (lg_sl vs).length = (lg_sl xs).length
  | [], vs, h => by cases h; rfl
  | x :: xs, vs, h => by
    obtain ⟨v, t, rfl, h3, h4⟩ := h
    have := ax_sl_len h4
    simp only [lg_sl, List.flatMap_cons, List.length_append, ax_v_cat h3] at this ⊢
    rw [this]
    split <;> rfl
-- heaps
theorem ax_ad_lt {b a : Nat} {o : Nat → Nat} (h : a < 1000000000) : ax_ad b o a = b + ax_of o a := by simp [ax_ad, h]
theorem ax_R.lt {D : va_G} {b : Nat} {o : Nat → Nat} {h : ax_H} {H : Heap} (hR : ax_R D b o h H) {k : Nat} {q : Nat × List Value} (hk : h[k]? = some q) : b + ax_of o k < H.size := by
  obtain ⟨cell, h1, -⟩ := hR.2.1 k q hk
  exact (Array.getElem?_eq_some_iff.mp h1).1
theorem ax_R.set {D : va_G} {b : Nat} {o : Nat → Nat} {h : ax_H} {H H1 : Heap} (hR : ax_R D b o h H) {a : Nat} {q : Nat × List Value} {cell : Cell} (h1 : H1[b + ax_of o a]? = some cell) (hz : H1.size = H.size) (ho : ∀ x, x ≠ b + ax_of o a → H1[x]? = H[x]?) (hc : ax_c D b o q cell) : ax_R D b o (h.set a q) H1 := by
  refine ⟨by rw [hz, hR.1, List.length_set], fun k q' hk => ?_, by rw [List.length_set]; exact hR.2.2⟩
  by_cases hka : k = a
  · subst hka
    have hl : k < h.length := by
      have := (List.getElem?_eq_some_iff.mp hk).1
      rwa [List.length_set] at this
    rw [List.getElem?_set_self hl] at hk
    cases hk
    exact ⟨cell, h1, hc⟩
  · rw [List.getElem?_set_ne (Ne.symm hka)] at hk
    obtain ⟨c', e1, e2⟩ := hR.2.1 k q' hk
    have hl : k < h.length := (List.getElem?_eq_some_iff.mp hk).1
    have hne := hR.2.2.ne hl (Ne.symm hka)
    exact ⟨c', by rw [ho _ (by omega)]; exact e1, e2⟩
theorem ax_R.push {D : va_G} {b : Nat} {o : Nat → Nat} {h : ax_H} {H H1 : Heap} (hR : ax_R D b o h H) {q : Nat × List Value} {cell : Cell} (h1 : H1[H.size]? = some cell) (hz : H1.size = H.size + 1) (ho : ∀ x, x < H.size → H1[x]? = H[x]?) (hc : ax_c D b o q cell) : ax_R D b o (h ++ [q]) H1 := by
  refine ⟨by rw [hz, hR.1, List.length_append]; show _ = b + (h.length + 1 + o 999); omega, fun k q' hk => ?_, by rw [List.length_append]; exact hR.2.2.succ⟩
  by_cases hl : k < h.length
  · rw [List.getElem?_append_left hl] at hk
    obtain ⟨c', e1, e2⟩ := hR.2.1 k q' hk
    exact ⟨c', by rw [ho _ (by have := hR.2.2.2.2.2.1 k hl; rw [hR.1]; omega)]; exact e1, e2⟩
  · rw [List.getElem?_append_right (by omega)] at hk
    have hz2 : k - h.length < 1 := (List.getElem?_eq_some_iff.mp hk).1
    have hk0 : k = h.length := by omega
    subst hk0
    rw [Nat.sub_self] at hk
    cases hk
    exact ⟨cell, by rw [← hR.top]; exact h1, hc⟩
theorem ax_c.set {D : va_G} {b : Nat} {o : Nat → Nat} {t : Nat} {vs : List Value} {cell : Cell} (hc : ax_c D b o (t, vs) cell) (ht : t ≠ 99) (hap : ∀ i j, i < vs.length → j < vs.length → i ≠ j → D.2 t i ≠ D.2 t j) {k : Nat} (hk : k < vs.length) {x v : Value} (hx : ax_v b o x v) : ax_c D b o (t, vs.set k x) (cell.setSlot (D.2 t k) v) := by
  rcases hc with hc | ⟨h1, h2, h3, h4⟩
  · exact absurd hc ht
  refine Or.inr ⟨h1, h2, fun h => by simp only [List.length_set]; rw [k2_slotsz]; exact h3 h, fun j y hj => ?_⟩
  obtain ⟨w, e1, e2⟩ := h4 k _ (List.getElem?_eq_getElem hk)
  have hlt := k2_hasslot e1
  by_cases hjk : j = k
  · subst hjk
    rw [List.getElem?_set_self hk] at hj
    cases hj
    refine ⟨v, ?_, hx⟩
    simp [Cell.setSlot, hlt]
  · rw [List.getElem?_set_ne (Ne.symm hjk)] at hj
    obtain ⟨w2, e3, e4⟩ := h4 j y hj
    have hjl := (List.getElem?_eq_some_iff.mp hj).1
    refine ⟨w2, ?_, e4⟩
    rw [slot_ne _ _ (hap k j hk hjl (Ne.symm hjk))]
    exact e3
