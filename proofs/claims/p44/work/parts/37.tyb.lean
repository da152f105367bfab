/-! THE TYPED MACHINE, 6: locals, names, branches -/
def ty_g (K : Int) (ρ : Nat → Int) (N : Nat) (lv : List (Nat × ty_V)) (st : List ty_V) (ov : ty_O) (lvx : List (Nat × Value)) (stx : List Value) (h : ax_H) : Prop := ty_lr ρ N h lv lvx ∧ ty_rs ρ N h st stx ∧ ty_H K ρ N ov h
theorem ty_g.up {K : Int} {ρ : Nat → Int} {N : Nat} {lv : List (Nat × ty_V)} {st : List ty_V} {ov : ty_O} {lvx : List (Nat × Value)} {stx : List Value} {h : ax_H} {v : Int} (hg : ty_g K ρ N lv st ov lvx stx h) : ty_g K (ty_up ρ N v) (N + 1) lv st ov lvx stx h := ⟨hg.1.up, hg.2.1.up, hg.2.2.up⟩
theorem ty_g.nw {K : Int} {ρ : Nat → Int} {N n : Nat} {L U : Int} {lv : List (Nat × ty_V)} {st : List ty_V} {ov : ty_O} {lvx : List (Nat × Value)} {stx : List Value} {h : ax_H} (hn : n ≠ 0) (hL : L ≤ ρ n) (hU : ρ n ≤ U) (hg : ty_g K ρ N lv st ov lvx stx h) : ty_g K ρ N (ty_nwl n L U lv) (ty_nws n L U st) (ty_nwo n L U ov) lvx stx h := ⟨hg.1.nw hn hL hU, hg.2.1.nw hn hL hU, hg.2.2.nw hn hL hU⟩
/-- a number without a name gets one, unless it is known -/
noncomputable def ty_nm {γ : Type} (N : Nat) (t : ty_V) (f : ty_V → Nat → γ) : γ := match t with
  | (k, n, o, a, z) => ax_if (Nat.blt k 2 && (Nat.beq n 0 && (!(ty_eq a z) && Nat.ble 1 N))) (ax_fn (N + 1) fun M => ty_fz a fun a => ty_fz z fun z => f (k, N, 0, a, z) M) (ty_fo (k, n, o, a, z) fun t => f t N)
theorem ty_r.nam {ρ : Nat → Int} {N k n : Nat} {o a z : Int} {h : ax_H} {x : Value} (hk : k < 2) (hN : 1 ≤ N) (hr : ty_r ρ N h (k, n, o, a, z) x) : ∃ v : Int, ty_r (ty_up ρ N v) (N + 1) h (k, N, 0, a, z) x := by
  rcases (by omega : k = 0 ∨ k = 1) with rfl | rfl
  · obtain ⟨i, h1, h2⟩ := hr
    exact ⟨i.toInt, i, h1, h2.new (by omega)⟩
  · obtain ⟨i, h1, h2⟩ := hr
    exact ⟨i.toInt, i, h1, h2.new (by omega)⟩
/-- the names so far stay -/
def ty_ex (ρ : Nat → Int) (N : Nat) (ρ' : Nat → Int) (N' : Nat) : Prop := N ≤ N' ∧ ∀ n, n < N → ρ' n = ρ n
theorem ty_ex_refl (ρ : Nat → Int) (N : Nat) : ty_ex ρ N ρ N := ⟨Nat.le_refl _, fun _ _ => rfl⟩
theorem ty_ex_up (ρ : Nat → Int) (N : Nat) (v : Int) : ty_ex ρ N (ty_up ρ N v) (N + 1) := ⟨Nat.le_succ _, fun n hn => by rw [ty_up, if_neg (Nat.ne_of_lt hn)]⟩
theorem ty_ex.trans {ρ ρ' ρ'' : Nat → Int} {N N' N'' : Nat} (a : ty_ex ρ N ρ' N') (b : ty_ex ρ' N' ρ'' N'') : ty_ex ρ N ρ'' N'' := ⟨Nat.le_trans a.1 b.1, fun n hn => (b.2 n (Nat.lt_of_lt_of_le hn a.1)).trans (a.2 n hn)⟩
theorem ty_in.ex {ρ ρ' : Nat → Int} {N N' n : Nat} {f a z i : Int} (e : ty_ex ρ N ρ' N') (h : ty_in ρ N n f a z i) : ty_in ρ' N' n f a z i :=
  ⟨h.1, h.2.1, h.2.2.imp id (fun q => ⟨Nat.lt_of_lt_of_le q.1 e.1, by rw [e.2 n q.1]; exact q.2⟩)⟩
/-- by a name, or as it was: what is true of the rest stays so -/
theorem ty_nm_ok {γ : Type} {ρ : Nat → Int} {N : Nat} {t : ty_V} {f : ty_V → Nat → γ} {h : ax_H} {x : Value} (hr : ty_r ρ N h t x) : ∃ (ρ' : Nat → Int) (N' : Nat) (t' : ty_V), ty_nm N t f = f t' N' ∧ ty_r ρ' N' h t' x ∧ (∀ K lv st ov lvx stx, ty_g K ρ N lv st ov lvx stx h → ty_g K ρ' N' lv st ov lvx stx h) ∧ (∀ s y, ty_r ρ N h s y → ty_r ρ' N' h s y) ∧ ty_ex ρ N ρ' N' := by
  obtain ⟨k, n, o, a, z⟩ := t
  unfold ty_nm
  cases hc : Nat.blt k 2 && (Nat.beq n 0 && (!(ty_eq a z) && Nat.ble 1 N)) with
  | true =>
    simp only [Bool.and_eq_true] at hc
    obtain ⟨v, hv⟩ := ty_r.nam (Nat.le_of_ble_eq_true hc.1) (Nat.le_of_ble_eq_true hc.2.2.2) hr
    exact ⟨_, _, _, by simp only [hc, ax_if, ax_fn_eq, ty_fz_eq, Bool.and_self], hv, fun _ _ _ _ _ _ hg => hg.up, fun _ _ q => q.up, ty_ex_up _ _ _⟩
  | false => exact ⟨ρ, N, _, by simp only [ax_if, hc, ty_fo_eq], hr, fun _ _ _ _ _ _ hg => hg, fun _ _ q => q, ty_ex_refl ρ N⟩
-- locals
def ty_k1 (i : Nat) (q : Nat × ty_V) : Bool := !(Nat.beq q.1 i) && (!(Nat.beq (q.1 + 1) i && Nat.beq q.2.1 1) && Nat.ble q.2.1 6)
def ty_k2 (i : Nat) (q : Nat × ty_V) : Bool := !(Nat.beq q.1 i) && (!(Nat.beq q.1 (i + 1)) && (!(Nat.beq (q.1 + 1) i && Nat.beq q.2.1 1) && Nat.ble q.2.1 6))
theorem ax_at_filter {p : Nat × Value → Bool} {i : Nat} {x : Value} : ∀ {lv : List (Nat × Value)}, ax_at lv i = some x → p (i, x) = true → ax_at (lv.filter p) i = some x
  | [], h, _ => by cases h
  | q :: t, h, hp => by
    simp only [ax_at] at h
    cases hq : Nat.beq q.1 i with
    | true =>
      rw [hq] at h
      cases h
      have := Nat.eq_of_beq_eq_true hq
      subst this
      rw [List.filter_cons_of_pos hp]
      simp only [ax_at, hq, cond_true]
    | false =>
      rw [hq] at h
      cases hpq : p q with
      | true =>
        rw [List.filter_cons_of_pos hpq]
        simp only [ax_at, hq, cond_false]
        exact ax_at_filter h hp
      | false =>
        rw [List.filter_cons_of_neg (by simp [hpq])]
        exact ax_at_filter h hp
theorem ty_lr.s1 {ρ : Nat → Int} {N i : Nat} {h : ax_H} {lv : List (Nat × ty_V)} {lvx : List (Nat × Value)} {t : ty_V} {x : Value} (hl : ty_lr ρ N h lv lvx) (hx : ty_r ρ N h t x) : ty_lr ρ N h ((i, t) :: lv.filter (ty_k1 i)) (ax_s1 i x lvx) := by
  intro j s hj
  rcases List.mem_cons.mp hj with e | e
  · cases e
    exact ⟨x, by simp [ax_s1, ax_at], hx⟩
  · obtain ⟨e1, e2⟩ := List.mem_filter.mp e
    obtain ⟨y, h1, h2⟩ := hl j s e1
    simp only [ty_k1, Bool.and_eq_true, Bool.not_eq_true'] at e2
    obtain ⟨k1, k2, k3⟩ := e2
    have hne : j ≠ i := Nat.ne_of_beq_eq_false k1
    refine ⟨y, ?_, h2⟩
    unfold ax_s1
    simp only [ax_at]
    rw [ty_beq_no (Ne.symm hne), cond_false]
    refine ax_at_filter h1 ?_
    simp only [ax_k1, Bool.and_eq_true, Bool.not_eq_true', beq_eq_false_iff_ne, ne_eq]
    refine ⟨hne, ?_⟩
    rw [ty_ct_ok k3 h2]
    unfold ty_ct
    cases q : Nat.beq s.1 1 with
    | false => simp
    | true =>
      rw [q, Bool.and_true] at k2
      have := Nat.ne_of_beq_eq_false k2
      simp [this]
theorem ty_lr.s2 {ρ : Nat → Int} {N i : Nat} {h : ax_H} {lv : List (Nat × ty_V)} {lvx : List (Nat × Value)} {t : ty_V} {x : Value} (hl : ty_lr ρ N h lv lvx) (hx : ty_r ρ N h t x) : ty_lr ρ N h ((i, t) :: lv.filter (ty_k2 i)) (ax_s2 i x lvx) := by
  intro j s hj
  rcases List.mem_cons.mp hj with e | e
  · cases e
    exact ⟨x, by simp [ax_s2, ax_at], hx⟩
  · obtain ⟨e1, e2⟩ := List.mem_filter.mp e
    obtain ⟨y, h1, h2⟩ := hl j s e1
    simp only [ty_k2, Bool.and_eq_true, Bool.not_eq_true'] at e2
    obtain ⟨k1, k4, k2, k3⟩ := e2
    have hne : j ≠ i := Nat.ne_of_beq_eq_false k1
    have hne2 : j ≠ i + 1 := Nat.ne_of_beq_eq_false k4
    refine ⟨y, ?_, h2⟩
    unfold ax_s2
    simp only [ax_at]
    rw [ty_beq_no (Ne.symm hne), cond_false]
    refine ax_at_filter h1 ?_
    simp only [ax_k2, Bool.and_eq_true, Bool.not_eq_true', beq_eq_false_iff_ne, ne_eq]
    refine ⟨hne, hne2, ?_⟩
    rw [ty_ct_ok k3 h2]
    unfold ty_ct
    cases q : Nat.beq s.1 1 with
    | false => simp
    | true =>
      rw [q, Bool.and_true] at k2
      have := Nat.ne_of_beq_eq_false k2
      simp [this]
abbrev ty_C : Type := Nat → List (Nat × ty_V) → List ty_V → ty_O → Nat → Nat → Nat → Bool
/-- a store into a local: kd 0 an int, 1 a long, 2 a reference -/
noncomputable def ty_sto (kd nL j pc' : Nat) (lv : List (Nat × ty_V)) (st : List ty_V) (ov : ty_O) (N : Nat) (k : ty_C) : Bool := match st with
  | x :: st => (bif Nat.beq kd 2 then ty_isA x else Nat.beq x.1 kd) && (Nat.blt (bif Nat.beq kd 1 then j + 1 else j) nL && ty_nm N x fun x N => ax_flt (bif Nat.beq kd 1 then ty_k2 j else ty_k1 j) lv fun lv => ax_fn pc' fun pc' => k pc' ((j, x) :: lv) st ov N 0 0)
  | _ => false
noncomputable def ty_inc (nL j pc' : Nat) (n : Int) (lv : List (Nat × ty_V)) (st : List ty_V) (ov : ty_O) (N : Nat) (k : ty_C) : Bool := match ty_at lv j with
  | some t => Nat.beq t.1 0 && (Nat.blt j nL && ty_nm N (ty_ad 0 t (ty_rg (Int32.ofInt n))) fun x N => ax_flt (ty_k1 j) lv fun lv => ax_fn pc' fun pc' => k pc' ((j, x) :: lv) st ov N 0 0)
  | none => false
/-- what a step must come to -/
def ty_ok (I : ax_H → Prop) (W : Nat) (K : Int) (ρ : Nat → Int) (N : Nat) (k : ty_C) (h : ax_H) (o : Option ax_S) : Prop := ∃ pc' lv' st' ov' N' dc ds ρ' lvx' stx' h', k pc' lv' st' ov' N' dc ds = true ∧ o = some (pc', lvx', stx', h', dc, ds) ∧ ty_g K ρ' N' lv' st' ov' lvx' stx' h' ∧ ty_F W h h' ∧ I h' ∧ ty_ex ρ N ρ' N'
section TYB
variable {I : ax_H → Prop} {W : Nat} {K : Int} {ρ : Nat → Int} {N : Nat} {ov : ty_O} {h : ax_H} {lv : List (Nat × ty_V)} {lvx : List (Nat × Value)} {st : List ty_V} {stx : List Value} {nL pc a b c : Nat} {v : Value} {k : ty_C}
theorem ty_sto_ok {kd j pc' : Nat} {ins : Instr} (hg : ty_g K ρ N lv st ov lvx stx h) (hi : I h) (hs : ty_sto kd nL j pc' lv st ov N k = true) (hkd : kd < 3)
    (ho : ∀ x r, stx = x :: r → (kd = 0 → j < nL ∧ ax_isI x = true) → (kd = 1 → j + 1 < nL ∧ ax_isL x = true) → (kd = 2 → j < nL ∧ ax_isA x = true) → ax_one ty_R nL pc ins a b c v lvx stx h = some (pc', (if kd = 1 then ax_s2 j x lvx else ax_s1 j x lvx), r, h, 0, 0)) : ty_ok I W K ρ N k h (ax_one ty_R nL pc ins a b c v lvx stx h) := by
  obtain ⟨g1, g2, g3⟩ := hg
  unfold ty_sto at hs
  split at hs
  · rename_i t s
    obtain ⟨x, r, rfl, h1, h2⟩ := g2
    simp only [Bool.and_eq_true] at hs
    obtain ⟨s1, s2, s3⟩ := hs
    have s2 := Nat.le_of_ble_eq_true s2
    obtain ⟨ρ', N', t', e, e1, e2, e3, e9⟩ := ty_nm_ok (f := fun x N => ax_flt (bif Nat.beq kd 1 then ty_k2 j else ty_k1 j) lv fun lv => ax_fn pc' fun pc' => k pc' ((j, x) :: lv) s ov N 0 0) h1
    rw [e] at s3
    simp only [ax_flt_eq, ax_fn_eq] at s3
    obtain ⟨q1, q2, q3⟩ := e2 K lv s ov lvx r ⟨g1, h2, g3⟩
    refine ⟨pc', _, s, ov, N', 0, 0, ρ', _, r, h, s3, ho x r rfl ?_ ?_ ?_, ⟨?_, q2, q3⟩, ty_F_refl W h, hi, e9⟩
    · rintro rfl
      obtain ⟨i, rfl, -⟩ := ty_r0 s1 h1
      exact ⟨s2, rfl⟩
    · rintro rfl
      obtain ⟨i, rfl, -⟩ := ty_r1 s1 h1
      exact ⟨s2, rfl⟩
    · rintro rfl
      exact ⟨s2, ty_isA_ok s1 h1⟩
    · by_cases hk : kd = 1
      · subst hk
        rw [if_pos rfl]
        exact q1.s2 e1
      · rw [if_neg hk, ty_beq_no hk]
        exact q1.s1 e1
  · cases hs
theorem ty_inc_ok {j : Nat} {n : Int} (hg : ty_g K ρ N lv st ov lvx stx h) (hi : I h) (hs : ty_inc nL j (pc + 3) n lv st ov N k = true) : ty_ok I W K ρ N k h (ax_one ty_R nL pc (.iinc j n) a b c v lvx stx h) := by
  obtain ⟨g1, g2, g3⟩ := hg
  unfold ty_inc at hs
  split at hs
  · rename_i t e0
    simp only [Bool.and_eq_true] at hs
    obtain ⟨s1, s2, s3⟩ := hs
    have s2 : j < nL := Nat.le_of_ble_eq_true s2
    obtain ⟨x, h1, h2⟩ := g1 j t (ty_at_mem e0)
    obtain ⟨i, rfl, h3⟩ := ty_r0 s1 h2
    have h4 : ty_r ρ N h (ty_ad 0 t (ty_rg (Int32.ofInt n))) (.int (i + Int32.ofInt n)) := ty_ad0 h3 ⟨Int.le_refl _, Int.le_refl _, Or.inl rfl⟩
    obtain ⟨ρ', N', t', e, e1, e2, e3, e9⟩ := ty_nm_ok (f := fun x N => ax_flt (ty_k1 j) lv fun lv => ax_fn (pc + 3) fun pc' => k pc' ((j, x) :: lv) st ov N 0 0) h4
    rw [e] at s3
    simp only [ax_flt_eq, ax_fn_eq] at s3
    obtain ⟨q1, q2, q3⟩ := e2 K lv st ov lvx stx ⟨g1, g2, g3⟩
    refine ⟨pc + 3, _, st, ov, N', 0, 0, ρ', _, stx, h, s3, ?_, ⟨q1.s1 e1, q2, q3⟩, ty_F_refl W h, hi, e9⟩
    simp only [ax_one, h1, ax_b2, if_pos s2, ax_fv_eq, ax_fl1_eq, ax_go]
  · cases hs
end TYB
/-- 0 =, 1 not =, 2 <, 3 not <, 4 >, 5 not > -/
def ty_fc (c : Nat) (i j : Int) : Prop := match c with
  | 0 => i = j
  | 1 => ¬ i = j
  | 2 => i < j
  | 3 => j ≤ i
  | 4 => j < i
  | _ => i ≤ j
def ty_dc (c : Nat) (i j : Int) : Bool := match c with
  | 0 => ty_eq i j
  | 1 => !(ty_eq i j)
  | 2 => !(ty_le j i)
  | 3 => ty_le j i
  | 4 => !(ty_le i j)
  | _ => ty_le i j
theorem ty_dc_ok {c : Nat} {i j : Int} (h : ty_fc c i j) : ty_dc c i j = true := by
  unfold ty_fc at h
  unfold ty_dc
  split at h
  · exact ty_eq_iff.mpr h
  · cases e : ty_eq i j with
    | true => exact absurd (ty_eq_iff.mp e) h
    | false => rfl
  · cases e : ty_le j i with
    | true => have := ty_le_iff.mp e; omega
    | false => rfl
  · exact ty_le_iff.mpr h
  · cases e : ty_le i j with
    | true => have := ty_le_iff.mp e; omega
    | false => rfl
  · exact ty_le_iff.mpr h
/-- what is left of two intervals -/
def ty_cu (c : Nat) (a z b w : Int) : Int × Int × Int × Int := match c with
  | 0 => (ty_ma a b, ty_mi z w, ty_ma a b, ty_mi z w)
  | 1 => (bif ty_eq b w && ty_eq a b then a + 1 else a, bif ty_eq b w && (!(ty_eq a b) && ty_eq z b) then z - 1 else z, bif ty_eq a z && ty_eq b a then b + 1 else b, bif ty_eq a z && (!(ty_eq b a) && ty_eq w a) then w - 1 else w)
  | 2 => (a, ty_mi z (w - 1), ty_ma b (a + 1), w)
  | 3 => (ty_ma a b, z, b, ty_mi w z)
  | 4 => (ty_ma a (b + 1), z, b, ty_mi w (z - 1))
  | _ => (a, ty_mi z w, ty_ma b a, w)
theorem ty_cu_ok {c : Nat} {a z b w i j : Int} (h : ty_fc c i j) (h1 : a ≤ i) (h2 : i ≤ z) (h3 : b ≤ j) (h4 : j ≤ w) : ((ty_cu c a z b w).1 ≤ i ∧ i ≤ (ty_cu c a z b w).2.1) ∧ ((ty_cu c a z b w).2.2.1 ≤ j ∧ j ≤ (ty_cu c a z b w).2.2.2) := by
  have l := fun x y => @ty_mi_ok x y
  have u := fun x y => @ty_ma_ok x y
  unfold ty_fc at h
  unfold ty_cu
  split at h
  · have := l z w
    have := u a b
    refine ⟨⟨?_, ?_⟩, ?_, ?_⟩ <;> dsimp only <;> omega
  · refine ⟨⟨?_, ?_⟩, ?_, ?_⟩ <;> dsimp only
    · cases e : ty_eq b w && ty_eq a b with
      | true => simp only [Bool.and_eq_true, ty_eq_iff] at e; show a + 1 ≤ i; omega
      | false => exact h1
    · cases e : ty_eq b w && (!(ty_eq a b) && ty_eq z b) with
      | true => simp only [Bool.and_eq_true, ty_eq_iff] at e; show i ≤ z - 1; omega
      | false => exact h2
    · cases e : ty_eq a z && ty_eq b a with
      | true => simp only [Bool.and_eq_true, ty_eq_iff] at e; show b + 1 ≤ j; omega
      | false => exact h3
    · cases e : ty_eq a z && (!(ty_eq b a) && ty_eq w a) with
      | true => simp only [Bool.and_eq_true, ty_eq_iff] at e; show j ≤ w - 1; omega
      | false => exact h4
  · have := l z (w - 1)
    have := u b (a + 1)
    refine ⟨⟨?_, ?_⟩, ?_, ?_⟩ <;> dsimp only <;> omega
  · have := l w z
    have := u a b
    refine ⟨⟨?_, ?_⟩, ?_, ?_⟩ <;> dsimp only <;> omega
  · have := l w (z - 1)
    have := u a (b + 1)
    refine ⟨⟨?_, ?_⟩, ?_, ?_⟩ <;> dsimp only <;> omega
  · have := l z w
    have := u b a
    refine ⟨⟨?_, ?_⟩, ?_, ?_⟩ <;> dsimp only <;> omega
/-- narrowed by this name, if it is one -/
noncomputable def ty_nwx {γ : Type} (n : Nat) (f a z : Int) (lv : List (Nat × ty_V)) (st : List ty_V) (ov : ty_O) (g : List (Nat × ty_V) → List ty_V → ty_O → γ) : γ := ax_if (Nat.beq n 0) (g lv st ov) (ty_fz (a - f) fun L => ty_fz (z - f) fun U => ty_nwC n L U lv st ov g)
theorem ty_nwx_ok {γ : Type} {K : Int} {ρ : Nat → Int} {N n : Nat} {f a z i : Int} {lv : List (Nat × ty_V)} {st : List ty_V} {ov : ty_O} {lvx : List (Nat × Value)} {stx : List Value} {h : ax_H} {g : List (Nat × ty_V) → List ty_V → ty_O → γ} (hg : ty_g K ρ N lv st ov lvx stx h) (hi : n = 0 ∨ (n < N ∧ i = ρ n + f)) (h1 : a ≤ i) (h2 : i ≤ z) : ∃ lv' st' ov', ty_nwx n f a z lv st ov g = g lv' st' ov' ∧ ty_g K ρ N lv' st' ov' lvx stx h := by
  unfold ty_nwx
  cases e : Nat.beq n 0 with
  | true => exact ⟨lv, st, ov, rfl, hg⟩
  | false =>
    have hn := Nat.ne_of_beq_eq_false e
    have hi2 : i = ρ n + f := by
      rcases hi with q | q
      · exact absurd q hn
      · exact q.2
    exact ⟨_, _, _, by simp only [ax_if, ty_fz_eq, ty_nwC_eq], hg.nw (L := a - f) (U := z - f) hn (by omega) (by omega)⟩
noncomputable def ty_brC (c : Nat) (x y : ty_V) (lv : List (Nat × ty_V)) (st : List ty_V) (ov : ty_O) (g : List (Nat × ty_V) → List ty_V → ty_O → ty_V → ty_V → Bool) : Bool := match x, y with
  | (kx, n, f, a, z), (ky, m, o, b, w) => ax_if (!(Nat.beq n 0) && Nat.beq n m) (ax_if (ty_dc c f o) (g lv st ov (kx, n, f, a, z) (ky, m, o, b, w)) true) (match ty_cu c a z b w with
    | (a1, z1, b1, w1) => ty_fz a1 fun a1 => ty_fz z1 fun z1 => ty_fz b1 fun b1 => ty_fz w1 fun w1 => ax_if (ty_le a1 z1 && ty_le b1 w1)
      (ax_if (Nat.beq c 1 && (ty_eq b 0 && (ty_eq w 0 && (!(Nat.beq n 0) && (ty_le a1 (-1) && ty_le 1 z1)))))
        (ty_nwx n f a1 (-1) lv st ov (fun lv st ov => g lv st ov (kx, n, f, a1, -1) (ky, m, o, b1, w1)) && ty_nwx n f 1 z1 lv st ov (fun lv st ov => g lv st ov (kx, n, f, 1, z1) (ky, m, o, b1, w1)))
        (ty_nwx n f a1 z1 lv st ov fun lv st ov => ty_nwx m o b1 w1 lv st ov fun lv st ov => g lv st ov (kx, n, f, a1, z1) (ky, m, o, b1, w1))) true)
theorem ty_brC_ok {c : Nat} {x y : ty_V} {K : Int} {ρ : Nat → Int} {N : Nat} {i j : Int} {lv : List (Nat × ty_V)} {st : List ty_V} {ov : ty_O} {lvx : List (Nat × Value)} {stx : List Value} {h : ax_H} {g : List (Nat × ty_V) → List ty_V → ty_O → ty_V → ty_V → Bool} (hg : ty_g K ρ N lv st ov lvx stx h)
    (hx : ty_in ρ N x.2.1 x.2.2.1 x.2.2.2.1 x.2.2.2.2 i) (hy : ty_in ρ N y.2.1 y.2.2.1 y.2.2.2.1 y.2.2.2.2 j) (hc : ty_fc c i j) (hb : ty_brC c x y lv st ov g = true) :
    ∃ lv' st' ov' x' y', g lv' st' ov' x' y' = true ∧ ty_g K ρ N lv' st' ov' lvx stx h ∧ x'.1 = x.1 ∧ y'.1 = y.1 ∧ ty_in ρ N x'.2.1 x'.2.2.1 x'.2.2.2.1 x'.2.2.2.2 i ∧ ty_in ρ N y'.2.1 y'.2.2.1 y'.2.2.2.1 y'.2.2.2.2 j := by
  obtain ⟨kx, n, f, a, z⟩ := x
  obtain ⟨ky, m, o, b, w⟩ := y
  unfold ty_brC at hb
  dsimp only at hb
  cases h0 : !(Nat.beq n 0) && Nat.beq n m with
  | true =>
    rw [h0] at hb
    simp only [Bool.and_eq_true, Bool.not_eq_true'] at h0
    have hn : n ≠ 0 := Nat.ne_of_beq_eq_false h0.1
    have hm := Nat.eq_of_beq_eq_true h0.2
    subst hm
    have hd : ty_dc c f o = true := by
      obtain ⟨-, -, x3⟩ := hx
      obtain ⟨-, -, y3⟩ := hy
      dsimp only at x3 y3
      refine ty_dc_ok ?_
      rcases x3 with q | q
      · exact absurd q hn
      · rcases y3 with p | p
        · exact absurd p hn
        · have e1 : f = i - ρ n := by omega
          have e2 : o = j - ρ n := by omega
          unfold ty_fc at hc ⊢
          rw [e1, e2]
          split at hc <;> omega
    simp only [ax_if, hd] at hb
    exact ⟨lv, st, ov, _, _, hb, hg, rfl, rfl, hx, hy⟩
  | false =>
    rw [h0] at hb
    obtain ⟨x1, x2, x3⟩ := hx
    obtain ⟨y1, y2, y3⟩ := hy
    dsimp only at x1 x2 x3 y1 y2 y3
    have hcu := ty_cu_ok hc x1 x2 y1 y2
    obtain ⟨⟨a1, z1, b1, w1⟩, e⟩ : ∃ q, ty_cu c a z b w = q := ⟨_, rfl⟩
    rw [e] at hcu hb
    obtain ⟨⟨c1, c2⟩, c3, c4⟩ := hcu
    dsimp only at c1 c2 c3 c4
    simp only [ax_if, ty_fz_eq] at hb
    have hne : (ty_le a1 z1 && ty_le b1 w1) = true := by
      simp only [Bool.and_eq_true, ty_le_iff]
      omega
    simp only [hne] at hb
    cases h1 : Nat.beq c 1 && (ty_eq b 0 && (ty_eq w 0 && (!(Nat.beq n 0) && (ty_le a1 (-1) && ty_le 1 z1)))) with
    | true =>
      simp only [h1, Bool.and_eq_true] at hb
      simp only [Bool.and_eq_true, ty_eq_iff] at h1
      have hc1 := Nat.eq_of_beq_eq_true h1.1
      subst hc1
      have hi0 : i ≠ 0 := by
        have : ¬ i = j := hc
        omega
      rcases (by omega : i ≤ -1 ∨ 1 ≤ i) with q | q
      · obtain ⟨lv', st', ov', e1, e2⟩ := ty_nwx_ok (g := fun lv st ov => g lv st ov (kx, n, f, a1, -1) (ky, m, o, b1, w1)) hg x3 c1 q
        rw [e1] at hb
        exact ⟨lv', st', ov', _, _, hb.1, e2, rfl, rfl, ⟨c1, q, x3⟩, ⟨c3, c4, y3⟩⟩
      · obtain ⟨lv', st', ov', e1, e2⟩ := ty_nwx_ok (g := fun lv st ov => g lv st ov (kx, n, f, 1, z1) (ky, m, o, b1, w1)) hg x3 q c2
        rw [e1] at hb
        exact ⟨lv', st', ov', _, _, hb.2, e2, rfl, rfl, ⟨q, c2, x3⟩, ⟨c3, c4, y3⟩⟩
    | false =>
      simp only [h1] at hb
      obtain ⟨lv', st', ov', e1, e2⟩ := ty_nwx_ok (g := fun lv st ov => ty_nwx m o b1 w1 lv st ov fun lv st ov => g lv st ov (kx, n, f, a1, z1) (ky, m, o, b1, w1)) hg x3 c1 c2
      rw [e1] at hb
      obtain ⟨lv2, st2, ov2, e3, e4⟩ := ty_nwx_ok (g := fun lv st ov => g lv st ov (kx, n, f, a1, z1) (ky, m, o, b1, w1)) e2 y3 c3 c4
      rw [e3] at hb
      exact ⟨lv2, st2, ov2, _, _, hb, e4, rfl, rfl, ⟨c1, c2, x3⟩, ⟨c3, c4, y3⟩⟩
