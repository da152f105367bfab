/-! THE TYPED MACHINE, 5: a step that takes from the stack and puts one thing on it -/
def ty_at : List (Nat × ty_V) → Nat → Option ty_V
  | [], _ => none
  | q :: t, i => bif Nat.beq q.1 i then some q.2 else ty_at t i
theorem ty_at_mem {j : Nat} {t : ty_V} : ∀ {lv : List (Nat × ty_V)}, ty_at lv j = some t → (j, t) ∈ lv
  | [], h => by cases h
  | q :: r, h => by
    simp only [ty_at] at h
    cases e : Nat.beq q.1 j with
    | true =>
      rw [e] at h
      cases h
      have := Nat.eq_of_beq_eq_true e
      subst this
      exact List.mem_cons_self
    | false =>
      rw [e] at h
      exact List.mem_cons_of_mem _ (ty_at_mem h)
def ty_lr (ρ : Nat → Int) (N : Nat) (h : ax_H) (lv : List (Nat × ty_V)) (lvx : List (Nat × Value)) : Prop := ∀ j t, (j, t) ∈ lv → ∃ x, ax_at lvx j = some x ∧ ty_r ρ N h t x
theorem ty_lr.mv {ρ : Nat → Int} {N : Nat} {h h' : ax_H} {lv : List (Nat × ty_V)} {lvx : List (Nat × Value)} (hL : ty_Lo h h') (hr : ty_lr ρ N h lv lvx) : ty_lr ρ N h' lv lvx := fun j t e => by
  obtain ⟨x, h1, h2⟩ := hr j t e
  exact ⟨x, h1, h2.mv hL⟩
theorem ty_lr.up {ρ : Nat → Int} {N : Nat} {h : ax_H} {v : Int} {lv : List (Nat × ty_V)} {lvx : List (Nat × Value)} (hr : ty_lr ρ N h lv lvx) : ty_lr (ty_up ρ N v) (N + 1) h lv lvx := fun j t e => by
  obtain ⟨x, h1, h2⟩ := hr j t e
  exact ⟨x, h1, h2.up⟩
theorem ty_lr.nw {ρ : Nat → Int} {N n : Nat} {L U : Int} {h : ax_H} {lv : List (Nat × ty_V)} {lvx : List (Nat × Value)} (hn : n ≠ 0) (hL : L ≤ ρ n) (hU : ρ n ≤ U) (hr : ty_lr ρ N h lv lvx) : ty_lr ρ N h (ty_nwl n L U lv) lvx := fun j t e => by
  obtain ⟨q, h3, h4⟩ := List.mem_map.mp e
  cases h4
  obtain ⟨x, h1, h2⟩ := hr q.1 q.2 h3
  exact ⟨x, h1, ty_nw_ok hn hL hU h2⟩
/-- what takes one place, and how many -/
def ty_c1 (t : ty_V) : Bool := Nat.ble t.1 6 && !(Nat.beq t.1 1)
def ty_ct (t : ty_V) : Nat := bif Nat.beq t.1 1 then 2 else 1
theorem ty_ct_ok {ρ : Nat → Int} {N : Nat} {h : ax_H} {t : ty_V} {x : Value} (hk : Nat.ble t.1 6 = true) (hr : ty_r ρ N h t x) : x.category = ty_ct t := by
  obtain ⟨k, m, f, a, z⟩ := t
  have hk := Nat.le_of_ble_eq_true hk
  dsimp only at hk
  rcases (by omega : k = 0 ∨ k = 1 ∨ k = 2 ∨ k = 3 ∨ k = 4 ∨ k = 5 ∨ k = 6) with rfl | rfl | rfl | rfl | rfl | rfl | rfl
  · obtain ⟨i, rfl, -⟩ := hr; rfl
  · obtain ⟨i, rfl, -⟩ := hr; rfl
  · cases (show x = .ref m from hr); rfl
  · obtain ⟨i, rfl, -⟩ := hr; rfl
  · obtain ⟨i, c, rfl, -⟩ := hr; rfl
  · cases (show x = .retAddr 0 from hr); rfl
  · cases (show x = .null from hr); rfl
theorem ty_c1_ok {ρ : Nat → Int} {N : Nat} {h : ax_H} {t : ty_V} {x : Value} (hk : ty_c1 t = true) (hr : ty_r ρ N h t x) : x.category = 1 := by
  simp only [ty_c1, Bool.and_eq_true, Bool.not_eq_true'] at hk
  rw [ty_ct_ok hk.1 hr]
  unfold ty_ct
  rw [hk.2]
  rfl
/-- may be loaded as a reference -/
def ty_isA (t : ty_V) : Bool := Nat.ble 2 t.1 && Nat.ble t.1 5
theorem ty_isA_ok {ρ : Nat → Int} {N : Nat} {h : ax_H} {t : ty_V} {x : Value} (hk : ty_isA t = true) (hr : ty_r ρ N h t x) : ax_isA x = true := by
  obtain ⟨k, m, f, a, z⟩ := t
  simp only [ty_isA, Bool.and_eq_true] at hk
  have h1 := Nat.le_of_ble_eq_true hk.1
  have h2 := Nat.le_of_ble_eq_true hk.2
  rcases (by omega : k = 2 ∨ k = 3 ∨ k = 4 ∨ k = 5) with rfl | rfl | rfl | rfl
  · cases (show x = .ref m from hr); rfl
  · obtain ⟨i, rfl, -⟩ := hr; rfl
  · obtain ⟨i, c, rfl, -⟩ := hr; rfl
  · cases (show x = .retAddr 0 from hr); rfl
theorem ty_r0 {ρ : Nat → Int} {N : Nat} {h : ax_H} {t : ty_V} {x : Value} (hk : Nat.beq t.1 0 = true) (hr : ty_r ρ N h t x) : ∃ i : Int32, x = .int i ∧ ty_in ρ N t.2.1 t.2.2.1 t.2.2.2.1 t.2.2.2.2 i.toInt := by
  obtain ⟨k, m, f, a, z⟩ := t
  have := Nat.eq_of_beq_eq_true hk
  dsimp only at this
  subst this
  exact hr
theorem ty_r1 {ρ : Nat → Int} {N : Nat} {h : ax_H} {t : ty_V} {x : Value} (hk : Nat.beq t.1 1 = true) (hr : ty_r ρ N h t x) : ∃ i : Int64, x = .long i ∧ ty_in ρ N t.2.1 t.2.2.1 t.2.2.2.1 t.2.2.2.2 i.toInt := by
  obtain ⟨k, m, f, a, z⟩ := t
  have := Nat.eq_of_beq_eq_true hk
  dsimp only at this
  subst this
  exact hr
/-- groups: a cell of each, and the types of their fields -/
def ty_gt (g j : Nat) : ty_V := match g, j with
  | 0, 0 => (3, 1, 0, 0, 0)
  | 0, 2 => ty_AL
  | 2, 0 => (3, 3, 0, 0, 0)
  | 3, _ => ty_AL
  | 4, 0 => (3, 5, 0, 0, 0)
  | 4, _ => (0, 0, 0, 0, 24)
  | 5, _ => (0, 0, 0, 0, 23)
  | _, _ => ty_AI
/-- type and length -/
def ty_gl (g : Nat) : Nat × Nat := match g with
  | 0 => (1, 3)
  | 1 => (100, 24)
  | 2 => (5, 1)
  | 3 => (101, 64)
  | 4 => (3, 2)
  | _ => (100, 24)
theorem ty_g_lo : ((List.range 6).all fun g => (List.range 198).all fun q => !(ax_gm g q) || (Nat.beq (ty_tab q).1 (ty_gl g).1 && (Nat.beq (ty_tab q).2.1 (ty_gl g).2 && (ty_mb q && (List.range (bif Nat.ble 100 (ty_gl g).1 then 1 else (ty_gl g).2)).all fun j => ty_tl (ty_gt g j) (ty_tt q j))))) = true := by decide +kernel
theorem ty_g_ok {g q : Nat} (hg : g < 6) (hm : ax_gm g q = true) : (ty_tab q).1 = (ty_gl g).1 ∧ (ty_tab q).2.1 = (ty_gl g).2 ∧ ty_mb q = true ∧ (∀ j, j < (bif Nat.ble 100 (ty_gl g).1 then 1 else (ty_gl g).2) → ty_tl (ty_gt g j) (ty_tt q j) = true) := by
  have h1 := List.all_eq_true.mp (List.all_eq_true.mp ty_g_lo g (List.mem_range.mpr hg)) q (List.mem_range.mpr (ty_gm_lt hm))
  simp only [hm, Bool.not_true, Bool.false_or, Bool.and_eq_true] at h1
  exact ⟨Nat.eq_of_beq_eq_true h1.1, Nat.eq_of_beq_eq_true h1.2.1, h1.2.2.1, fun j hj => List.all_eq_true.mp h1.2.2.2 j (List.mem_range.mpr hj)⟩
theorem ty_gm6 {g q : Nat} (h : ax_gm g q = true) : g < 6 := by
  rcases Nat.lt_or_ge g 6 with h6 | h6
  · exact h6
  · have : ax_grs.getD g [] = [] := by
      rw [List.getD_eq_getElem?_getD, List.getElem?_eq_none (by show 6 ≤ g; exact h6)]
      rfl
    unfold ax_gm at h
    rw [this] at h
    cases h
/-- the length of an array -/
def ty_len (t : ty_V) : Option (Nat × Nat) := match t with
  | (2, q, _) => bif Nat.blt q 198 then some ((ty_tab q).1, (ty_tab q).2.1) else none
  | (3, g, _) => some (ty_gl g)
  | (4, k, _) => some ((ty_lt k).1, (ty_lt k).2.1)
  | _ => none
theorem ty_len_ok {K : Int} {ρ : Nat → Int} {N : Nat} {ov : ty_O} {h : ax_H} {t : ty_V} {x : Value} {tag n : Nat} (hH : ty_H K ρ N ov h) (hr : ty_r ρ N h t x) (hs : ty_len t = some (tag, n)) : ∃ q vs, x = .ref q ∧ q < 1000000000 ∧ h[q]? = some (tag, vs) ∧ vs.length = n := by
  unfold ty_len at hs
  split at hs
  · rename_i q r
    cases e : Nat.blt q 198 with
    | false => rw [e] at hs; cases hs
    | true =>
      rw [e] at hs
      have hq : q < 198 := Nat.le_of_ble_eq_true e
      cases hs
      obtain ⟨vs, e1, e2, -⟩ := hH.2.1 q hq
      exact ⟨q, vs, hr, Nat.lt_of_lt_of_le hq (by decide), e1, e2⟩
  · rename_i g r
    obtain ⟨k, rfl, hm⟩ := hr
    have hk := ty_gm_lt hm
    obtain ⟨vs, e1, e2, -⟩ := hH.2.1 k hk
    obtain ⟨g1, g2, -⟩ := ty_g_ok (ty_gm6 hm) hm
    have hs := Option.some.inj hs
    rw [hs] at g1 g2
    exact ⟨k, vs, rfl, Nat.lt_of_lt_of_le hk (by decide), by rw [e1, g1], by rw [e2, g2]⟩
  · rename_i k r
    obtain ⟨p, c, rfl, h1, h9, h2, h3, h4, -⟩ := hr
    cases hs
    obtain ⟨c1, c2⟩ := c
    exact ⟨p, c2, rfl, h9, by rw [h2, ← h3], h4⟩
  · cases hs
/-- two ints -/
def ty_i2 (ins : Instr) (x y : ty_V) : Option ty_V := match ins with
  | .iadd => some (ty_ad 0 x y)
  | .isub => some (ty_su 0 x y)
  | .imul => some (ty_mu 0 x y)
  | .idiv => ty_dv 0 x y
  | .irem => ty_re 0 x y
  | .iand => some (ty_an x y)
  | .ior => some (ty_or x y)
  | .ixor => some (ty_xo x y)
  | .ishl => some (ty_sl x y)
  | .ishr => some (ty_sr x y)
  | _ => none
def ty_l2 (ins : Instr) (x y : ty_V) : Option ty_V := match ins with
  | .ladd => some (ty_ad 1 x y)
  | .lsub => some (ty_su 1 x y)
  | .lmul => some (ty_mu 1 x y)
  | .ldiv => ty_dv 1 x y
  | .lrem => ty_re 1 x y
  | .land => some ty_AL
  | .lor => some ty_AL
  | .lxor => some ty_AL
  | _ => none
def ty_li (ins : Instr) : Bool := match ins with
  | .lshl => true
  | .lshr => true
  | .lushr => true
  | _ => false
def ty_rg (i : Int32) : ty_V := (0, 0, 0, i.toInt, i.toInt)
def ty_rl (i : Int64) : ty_V := (1, 0, 0, i.toInt, i.toInt)
def ty_l2i (x : ty_V) : ty_V := match x with
  | (_, n, f, a, z) => bif ty_le (-2147483648) a && ty_le z 2147483647 then (0, n, f, a, z) else ty_AI
def ty_i2c (x : ty_V) : ty_V := match x with
  | (_, n, f, a, z) => bif ty_le 0 a && ty_le z 65535 then (0, n, f, a, z) else (0, 0, 0, 0, 65535)
def ty_ld (k : Nat) (lv : List (Nat × ty_V)) (j n : Nat) (st : List ty_V) : Option (Nat × ty_V × List ty_V) := match ty_at lv j with
  | some t => bif (bif Nat.beq k 2 then ty_isA t else Nat.beq t.1 k) then some (n, t, st) else none
  | none => none
def ty_s3 (ins : Instr) (pc : Nat) (st : List ty_V) : Option (Nat × ty_V × List ty_V) := match st with
  | y :: x :: st => bif Nat.beq y.1 0 && Nat.beq x.1 0 then (match ty_i2 ins x y with | some t => some (pc + 1, t, st) | none => none)
    else bif Nat.beq y.1 1 && Nat.beq x.1 1 then (match ty_l2 ins x y with | some t => some (pc + 1, t, st) | none => none)
    else bif Nat.beq y.1 0 && (Nat.beq x.1 1 && ty_li ins) then some (pc + 1, ty_AL, st) else none
  | _ => none
def ty_sm (ins : Instr) (a : Nat) (v : Value) (pc : Nat) (lv : List (Nat × ty_V)) (st : List ty_V) : Option (Nat × ty_V × List ty_V) := match ins with
  | .iconst n => some (pc + 1, ty_rg (Int32.ofInt n), st)
  | .bipush n => some (pc + 2, ty_rg (Int8.ofInt n).toInt32, st)
  | .sipush n => some (pc + 3, ty_rg (Int16.ofInt n).toInt32, st)
  | .lconst n => some (pc + 1, ty_rl (Int64.ofNat (n : Nat)), st)
  | .iload_n j => ty_ld 0 lv (j : Nat) (pc + 1) st
  | .iload j => ty_ld 0 lv j (pc + 2) st
  | .lload_n j => ty_ld 1 lv (j : Nat) (pc + 1) st
  | .lload j => ty_ld 1 lv j (pc + 2) st
  | .aload_n j => ty_ld 2 lv (j : Nat) (pc + 1) st
  | .aload j => ty_ld 2 lv j (pc + 2) st
  | .ldc2_w _ => match v with
    | .long x => bif Nat.beq a 900 then none else some (pc + 3, ty_rl x, st)
    | _ => none
  | .ldc _ => match v with
    | .int x => bif Nat.beq a 900 then none else some (pc + 2, ty_rg x, st)
    | _ => none
  | .getstatic _ => match a with
    | 0 => some (pc + 3, (2, 1000000000, 0, 0, 0), st)
    | 1 => some (pc + 3, (0, 0, 0, 1, 1), st)
    | _ => none
  | .ineg => match st with
    | x :: st => bif Nat.beq x.1 0 then some (pc + 1, ty_ne 0 x, st) else none
    | _ => none
  | .lneg => match st with
    | x :: st => bif Nat.beq x.1 1 then some (pc + 1, ty_ne 1 x, st) else none
    | _ => none
  | .i2l => match st with
    | x :: st => bif Nat.beq x.1 0 then some (pc + 1, (1, x.2), st) else none
    | _ => none
  | .l2i => match st with
    | x :: st => bif Nat.beq x.1 1 then some (pc + 1, ty_l2i x, st) else none
    | _ => none
  | .i2c => match st with
    | x :: st => bif Nat.beq x.1 0 then some (pc + 1, ty_i2c x, st) else none
    | _ => none
  | .dup => match st with
    | x :: st => bif ty_c1 x then some (pc + 1, x, x :: st) else none
    | _ => none
  | .arraylength => match st with
    | x :: st => (match ty_len x with
      | some (tag, n) => bif Nat.ble 100 tag && (Nat.blt tag 107 && Nat.blt n 2147483648) then some (pc + 1, (0, 0, 0, (n : Int), (n : Int)), st) else none
      | none => none)
    | _ => none
  | ins => ty_s3 ins pc st
def ty_R : ax_H := [(101, ax_bits)]
section TYS
variable {K : Int} {ρ : Nat → Int} {N : Nat} {ov : ty_O} {h : ax_H} {lv : List (Nat × ty_V)} {lvx : List (Nat × Value)} {nL pc a b c : Nat} {v : Value}
theorem ty_i2_ok {ins : Instr} {x y t : ty_V} {i j : Int32} (hs : ty_i2 ins x y = some t) (hx : ty_in ρ N x.2.1 x.2.2.1 x.2.2.2.1 x.2.2.2.2 i.toInt) (hy : ty_in ρ N y.2.1 y.2.2.1 y.2.2.2.1 y.2.2.2.2 j.toInt) (stx : List Value) : ∃ r : Int32, ty_r ρ N h t (.int r) ∧ ax_one ty_R nL pc ins a b c v lvx (.int j :: .int i :: stx) h = some (pc + 1, lvx, .int r :: stx, h, 0, 0) := by
  unfold ty_i2 at hs
  split at hs
  · cases hs; exact ⟨_, ty_ad0 hx hy, rfl⟩
  · cases hs; exact ⟨_, ty_su0 hx hy, rfl⟩
  · cases hs; exact ⟨_, ty_mu0 hx hy, rfl⟩
  · obtain ⟨h0, h1⟩ := ty_dv0 (h := h) hx hy hs
    exact ⟨_, h1, by simp only [ax_one, ax_d2, if_neg h0, ax_b2, ax_go]⟩
  · obtain ⟨h0, h1⟩ := ty_re0 (h := h) hx hy hs
    exact ⟨_, h1, by simp only [ax_one, ax_d2, if_neg h0, ax_b2, ax_go]⟩
  · cases hs; exact ⟨_, ty_an_ok hx hy, rfl⟩
  · cases hs; exact ⟨_, ty_or_ok hx hy, rfl⟩
  · cases hs; exact ⟨_, ty_xo_ok hx hy, rfl⟩
  · cases hs; exact ⟨_, ty_sl_ok hx hy, rfl⟩
  · cases hs; exact ⟨_, ty_sr_ok hx hy, rfl⟩
  · cases hs
theorem ty_l2_ok {ins : Instr} {x y t : ty_V} {i j : Int64} (hs : ty_l2 ins x y = some t) (hx : ty_in ρ N x.2.1 x.2.2.1 x.2.2.2.1 x.2.2.2.2 i.toInt) (hy : ty_in ρ N y.2.1 y.2.2.1 y.2.2.2.1 y.2.2.2.2 j.toInt) (stx : List Value) : ∃ r : Int64, ty_r ρ N h t (.long r) ∧ ax_one ty_R nL pc ins a b c v lvx (.long j :: .long i :: stx) h = some (pc + 1, lvx, .long r :: stx, h, 0, 0) := by
  unfold ty_l2 at hs
  split at hs
  · cases hs; exact ⟨_, ty_ad1 hx hy, rfl⟩
  · cases hs; exact ⟨_, ty_su1 hx hy, rfl⟩
  · cases hs; exact ⟨_, ty_mu1 hx hy, rfl⟩
  · obtain ⟨h0, h1⟩ := ty_dv1 (h := h) hx hy hs
    exact ⟨_, h1, by simp only [ax_one, ax_m2, if_neg h0, ax_l2, ax_go]⟩
  · obtain ⟨h0, h1⟩ := ty_re1 (h := h) hx hy hs
    exact ⟨_, h1, by simp only [ax_one, ax_m2, if_neg h0, ax_l2, ax_go]⟩
  · cases hs; exact ⟨_, ty_AL_ok _, rfl⟩
  · cases hs; exact ⟨_, ty_AL_ok _, rfl⟩
  · cases hs; exact ⟨_, ty_AL_ok _, rfl⟩
  · cases hs
theorem ty_li_ok {ins : Instr} (hs : ty_li ins = true) (i : Int64) (j : Int32) (stx : List Value) : ∃ r : Int64, ax_one ty_R nL pc ins a b c v lvx (.int j :: .long i :: stx) h = some (pc + 1, lvx, .long r :: stx, h, 0, 0) := by
  unfold ty_li at hs
  split at hs
  · exact ⟨_, rfl⟩
  · exact ⟨_, rfl⟩
  · exact ⟨_, rfl⟩
  · cases hs
theorem ty_rg_ok (i : Int32) : ty_r ρ N h (ty_rg i) (.int i) := ⟨i, rfl, Int.le_refl _, Int.le_refl _, Or.inl rfl⟩
theorem ty_rl_ok (i : Int64) : ty_r ρ N h (ty_rl i) (.long i) := ⟨i, rfl, Int.le_refl _, Int.le_refl _, Or.inl rfl⟩
theorem ty_ld_ok {k j n pc' : Nat} {st rest : List ty_V} {t : ty_V} (hs : ty_ld k lv j n st = some (pc', t, rest)) (hl : ty_lr ρ N h lv lvx) : pc' = n ∧ rest = st ∧ ∃ x, ax_at lvx j = some x ∧ ty_r ρ N h t x ∧ (k = 0 → ax_isI x = true) ∧ (k = 1 → ax_isL x = true) ∧ (k = 2 → ax_isA x = true) := by
  unfold ty_ld at hs
  split at hs
  · rename_i s e
    obtain ⟨x, h1, h2⟩ := hl j s (ty_at_mem e)
    cases hc : (bif Nat.beq k 2 then ty_isA s else Nat.beq s.1 k) with
    | false => rw [hc] at hs; cases hs
    | true =>
      rw [hc] at hs
      cases hs
      refine ⟨rfl, rfl, x, h1, h2, ?_, ?_, ?_⟩
      · rintro rfl
        obtain ⟨i, rfl, -⟩ := ty_r0 hc h2
        rfl
      · rintro rfl
        obtain ⟨i, rfl, -⟩ := ty_r1 hc h2
        rfl
      · rintro rfl
        exact ty_isA_ok hc h2
  · cases hs
theorem ty_s3_ok {ins : Instr} {st rest : List ty_V} {stx : List Value} {pc' : Nat} {t : ty_V} (hs : ty_s3 ins pc st = some (pc', t, rest)) (hst : ty_rs ρ N h st stx) :
    ∃ x rx, ax_one ty_R nL pc ins a b c v lvx stx h = some (pc', lvx, x :: rx, h, 0, 0) ∧ ty_r ρ N h t x ∧ ty_rs ρ N h rest rx := by
  unfold ty_s3 at hs
  split at hs
  · rename_i y x s
    obtain ⟨yv, _, rfl, h1, xv, r, rfl, h2, h3⟩ := hst
    cases c1 : Nat.beq y.1 0 && Nat.beq x.1 0 with
    | true =>
      rw [c1] at hs
      simp only [cond_true] at hs
      simp only [Bool.and_eq_true] at c1
      obtain ⟨j, rfl, hj⟩ := ty_r0 c1.1 h1
      obtain ⟨i, rfl, hi⟩ := ty_r0 c1.2 h2
      split at hs
      · rename_i t e
        cases hs
        obtain ⟨q, q1, q2⟩ := ty_i2_ok (nL := nL) (pc := pc) (a := a) (b := b) (c := c) (v := v) (lvx := lvx) (h := h) e hi hj r
        exact ⟨_, _, q2, q1, h3⟩
      · cases hs
    | false =>
      rw [c1] at hs
      simp only [cond_false] at hs
      cases c2 : Nat.beq y.1 1 && Nat.beq x.1 1 with
      | true =>
        rw [c2] at hs
        simp only [cond_true] at hs
        simp only [Bool.and_eq_true] at c2
        obtain ⟨j, rfl, hj⟩ := ty_r1 c2.1 h1
        obtain ⟨i, rfl, hi⟩ := ty_r1 c2.2 h2
        split at hs
        · rename_i t e
          cases hs
          obtain ⟨q, q1, q2⟩ := ty_l2_ok (nL := nL) (pc := pc) (a := a) (b := b) (c := c) (v := v) (lvx := lvx) (h := h) e hi hj r
          exact ⟨_, _, q2, q1, h3⟩
        · cases hs
      | false =>
        rw [c2] at hs
        simp only [cond_false] at hs
        cases c3 : Nat.beq y.1 0 && (Nat.beq x.1 1 && ty_li ins) with
        | true =>
          rw [c3] at hs
          cases hs
          simp only [Bool.and_eq_true] at c3
          obtain ⟨j, rfl, hj⟩ := ty_r0 c3.1 h1
          obtain ⟨i, rfl, hi⟩ := ty_r1 c3.2.1 h2
          obtain ⟨q, q2⟩ := ty_li_ok (nL := nL) (pc := pc) (a := a) (b := b) (c := c) (v := v) (lvx := lvx) (h := h) c3.2.2 i j r
          exact ⟨_, _, q2, ty_AL_ok _, h3⟩
        | false => rw [c3] at hs; cases hs
  · cases hs
theorem ty_sm_ok {ins : Instr} {st rest : List ty_V} {stx : List Value} {pc' : Nat} {t : ty_V} (hs : ty_sm ins a v pc lv st = some (pc', t, rest)) (hl : ty_lr ρ N h lv lvx) (hst : ty_rs ρ N h st stx) (hH : ty_H K ρ N ov h) :
    ∃ x rx, ax_one ty_R nL pc ins a b c v lvx stx h = some (pc', lvx, x :: rx, h, 0, 0) ∧ ty_r ρ N h t x ∧ ty_rs ρ N h rest rx := by
  unfold ty_sm at hs
  split at hs
  · cases hs; exact ⟨_, _, rfl, ty_rg_ok _, hst⟩
  · cases hs; exact ⟨_, _, rfl, ty_rg_ok _, hst⟩
  · cases hs; exact ⟨_, _, rfl, ty_rg_ok _, hst⟩
  · cases hs; exact ⟨_, _, rfl, ty_rl_ok _, hst⟩
  · obtain ⟨rfl, rfl, x, e, h1, h2, -, -⟩ := ty_ld_ok hs hl
    exact ⟨x, _, by simp only [ax_one, e, h2 rfl, if_true, ax_go], h1, hst⟩
  · obtain ⟨rfl, rfl, x, e, h1, h2, -, -⟩ := ty_ld_ok hs hl
    exact ⟨x, _, by simp only [ax_one, e, h2 rfl, if_true, ax_go], h1, hst⟩
  · obtain ⟨rfl, rfl, x, e, h1, -, h2, -⟩ := ty_ld_ok hs hl
    exact ⟨x, _, by simp only [ax_one, e, h2 rfl, if_true, ax_go], h1, hst⟩
  · obtain ⟨rfl, rfl, x, e, h1, -, h2, -⟩ := ty_ld_ok hs hl
    exact ⟨x, _, by simp only [ax_one, e, h2 rfl, if_true, ax_go], h1, hst⟩
  · obtain ⟨rfl, rfl, x, e, h1, -, -, h2⟩ := ty_ld_ok hs hl
    exact ⟨x, _, by simp only [ax_one, e, h2 rfl, if_true, ax_go], h1, hst⟩
  · obtain ⟨rfl, rfl, x, e, h1, -, -, h2⟩ := ty_ld_ok hs hl
    exact ⟨x, _, by simp only [ax_one, e, h2 rfl, if_true, ax_go], h1, hst⟩
  · split at hs
    · cases ha : Nat.beq a 900 with
      | true => rw [ha] at hs; cases hs
      | false =>
        rw [ha] at hs
        cases hs
        exact ⟨_, _, by simp only [ax_one, if_neg (Nat.ne_of_beq_eq_false ha), ax_go], ty_rl_ok _, hst⟩
    · cases hs
  · split at hs
    · cases ha : Nat.beq a 900 with
      | true => rw [ha] at hs; cases hs
      | false =>
        rw [ha] at hs
        cases hs
        exact ⟨_, _, by simp only [ax_one, if_neg (Nat.ne_of_beq_eq_false ha), ax_go], ty_rg_ok _, hst⟩
    · cases hs
  · split at hs
    · cases hs; exact ⟨_, _, rfl, rfl, hst⟩
    · cases hs; exact ⟨_, _, rfl, ⟨1, rfl, by decide, by decide, Or.inl rfl⟩, hst⟩
    · cases hs
  · split at hs
    · rename_i x s
      obtain ⟨y, r, rfl, h1, h2⟩ := hst
      cases hk : Nat.beq x.1 0 with
      | false => rw [hk] at hs; cases hs
      | true =>
        rw [hk] at hs
        cases hs
        obtain ⟨i, rfl, hi⟩ := ty_r0 hk h1
        exact ⟨_, _, rfl, ty_ne0 hi, h2⟩
    · cases hs
  · split at hs
    · rename_i x s
      obtain ⟨y, r, rfl, h1, h2⟩ := hst
      cases hk : Nat.beq x.1 1 with
      | false => rw [hk] at hs; cases hs
      | true =>
        rw [hk] at hs
        cases hs
        obtain ⟨i, rfl, hi⟩ := ty_r1 hk h1
        exact ⟨_, _, rfl, ty_ne1 hi, h2⟩
    · cases hs
  · split at hs
    · rename_i x s
      obtain ⟨y, r, rfl, h1, h2⟩ := hst
      cases hk : Nat.beq x.1 0 with
      | false => rw [hk] at hs; cases hs
      | true =>
        rw [hk] at hs
        cases hs
        obtain ⟨i, rfl, hi⟩ := ty_r0 hk h1
        exact ⟨_, _, rfl, ⟨_, rfl, by rw [Int32.toInt_toInt64]; exact hi⟩, h2⟩
    · cases hs
  · split at hs
    · rename_i x s
      obtain ⟨y, r, rfl, h1, h2⟩ := hst
      cases hk : Nat.beq x.1 1 with
      | false => rw [hk] at hs; cases hs
      | true =>
        rw [hk] at hs
        cases hs
        obtain ⟨i, rfl, hi⟩ := ty_r1 hk h1
        refine ⟨.int i.toInt32, _, rfl, ?_, h2⟩
        obtain ⟨k, n, f, a, z⟩ := x
        unfold ty_l2i
        dsimp only
        cases hc : ty_le (-2147483648) a && ty_le z 2147483647 with
        | false => exact ty_AI_ok _
        | true =>
          simp only [Bool.and_eq_true, ty_le_iff] at hc
          refine ⟨_, rfl, ?_⟩
          rw [Int64.toInt_toInt32, Int.bmod_eq_of_le (by have := hi.1; dsimp only at this; omega) (by have := hi.2.1; dsimp only at this; omega)]
          exact hi
    · cases hs
  · split at hs
    · rename_i x s
      obtain ⟨y, r, rfl, h1, h2⟩ := hst
      cases hk : Nat.beq x.1 0 with
      | false => rw [hk] at hs; cases hs
      | true =>
        rw [hk] at hs
        cases hs
        obtain ⟨i, rfl, hi⟩ := ty_r0 hk h1
        refine ⟨.int (i.toUInt32 % 65536).toInt32, _, rfl, ?_, h2⟩
        have e0 : (i.toUInt32 % 65536).toInt32.toInt = ((i.toUInt32 % 65536).toNat : Int) := by
          have hl : (i.toUInt32 % 65536).toNat < 65536 := by
            rw [UInt32.toNat_mod]
            exact Nat.mod_lt _ (by decide)
          show (i.toUInt32 % 65536).toBitVec.toInt = _
          rw [BitVec.toInt_eq_toNat_cond, if_pos (by show 2 * (i.toUInt32 % 65536).toNat < _; omega)]
          rfl
        have hl : (i.toUInt32 % 65536).toNat < 65536 := by
          rw [UInt32.toNat_mod]
          exact Nat.mod_lt _ (by decide)
        obtain ⟨k, n, f, a, z⟩ := x
        unfold ty_i2c
        dsimp only
        cases hc : ty_le 0 a && ty_le z 65535 with
        | false => exact ⟨_, rfl, by rw [e0]; omega, by rw [e0]; omega, Or.inl rfl⟩
        | true =>
          simp only [Bool.and_eq_true, ty_le_iff] at hc
          refine ⟨_, rfl, ?_⟩
          have e1 : (i.toUInt32 % 65536).toInt32.toInt = i.toInt := by
            rw [e0]
            have h3 := hi.1
            have h4 := hi.2.1
            dsimp only at h3 h4
            have e2 : i.toInt = (i.toUInt32.toNat : Int) := by
              show i.toBitVec.toInt = (i.toBitVec.toNat : Int)
              have := i.toBitVec.isLt
              rw [BitVec.toInt_eq_toNat_cond]
              have h5 : i.toInt = i.toBitVec.toInt := rfl
              rw [h5, BitVec.toInt_eq_toNat_cond] at h3
              split
              · rfl
              · rename_i hx
                rw [if_neg hx] at h3
                omega
            rw [UInt32.toNat_mod, e2]
            have e3 : (65536 : UInt32).toNat = 65536 := rfl
            rw [e3]
            omega
          rw [e1]
          exact hi
    · cases hs
  · split at hs
    · rename_i x s
      cases hk : ty_c1 x with
      | false => rw [hk] at hs; cases hs
      | true =>
        rw [hk] at hs
        cases hs
        obtain ⟨y, r, rfl, h1, h2⟩ := hst
        exact ⟨y, _, by simp only [ax_one, if_pos (ty_c1_ok hk h1), ax_go], h1, ⟨y, r, rfl, h1, h2⟩⟩
    · cases hs
  · split at hs
    · rename_i x s
      split at hs
      · rename_i tag n e
        cases hc : Nat.ble 100 tag && (Nat.blt tag 107 && Nat.blt n 2147483648) with
        | false => rw [hc] at hs; cases hs
        | true =>
          rw [hc] at hs
          cases hs
          simp only [Bool.and_eq_true] at hc
          obtain ⟨c1, c2, c3⟩ := hc
          have c1 := Nat.le_of_ble_eq_true c1
          have c2 : tag < 107 := Nat.le_of_ble_eq_true c2
          have c3 : n < 2147483648 := Nat.le_of_ble_eq_true c3
          obtain ⟨y, r, rfl, h1, h2⟩ := hst
          obtain ⟨q, vs, rfl, hq, e1, e2⟩ := ty_len_ok hH h1 e
          refine ⟨.int vs.length.toInt32, r, ?_, ?_, h2⟩
          · simp only [ax_one, ax_get_lt hq, e1, ax_go]
            rw [if_neg (by omega)]
          · rw [e2]
            have e3 : (n.toInt32).toInt = (n : Int) := Int32.toInt_ofNat_of_lt (by omega)
            exact ⟨_, rfl, by rw [e3]; exact Int.le_refl _, by rw [e3]; exact Int.le_refl _, Or.inl rfl⟩
      · cases hs
    · cases hs
  · exact ty_s3_ok hs hst
end TYS
