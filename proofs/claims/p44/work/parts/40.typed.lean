/-! THE TYPED HEAP: the class by a table of cells; steps over it (out of the parts of p40 that stand under the same heads there) -/
-- 32
abbrev ty_V : Type := Nat × Nat × Int × Int × Int
abbrev ty_O : Type := List (Nat × Nat × ty_V)
def ty_le (a b : Int) : Bool := match a, b with
  | .ofNat m, .ofNat n => Nat.ble m n
  | .negSucc m, .negSucc n => Nat.ble n m
  | .negSucc _, .ofNat _ => true
  | .ofNat _, .negSucc _ => false
theorem ty_le_iff {a b : Int} : ty_le a b = true ↔ a ≤ b := by
  cases a <;> cases b <;> simp only [ty_le, Nat.ble_eq, Int.negSucc_eq, Int.ofNat_eq_natCast] <;> first | omega | (constructor <;> intro h <;> first | (cases h; done) | omega | trivial)
def ty_mi (a b : Int) : Int := bif ty_le a b then a else b
def ty_ma (a b : Int) : Int := bif ty_le a b then b else a
/-- arrays made on the way: type, length, what they hold -/
def ty_lt (t : Nat) : Nat × Nat × Int × Int := match t with
  | 0 => (100, 5, -2147483648, 2147483647)
  | 1 => (102, 24, 0, 1)
  | _ => (100, 12, -1, 1)
def ty_lc (t : Nat) (c : Nat × List Value) : Prop := c.1 = (ty_lt t).1 ∧ c.2.length = (ty_lt t).2.1 ∧ ∀ x ∈ c.2, ∃ i : Int32, x = .int i ∧ (ty_lt t).2.2.1 ≤ i.toInt ∧ i.toInt ≤ (ty_lt t).2.2.2
def ty_in (ρ : Nat → Int) (N n : Nat) (f a z i : Int) : Prop := a ≤ i ∧ i ≤ z ∧ (n = 0 ∨ (n < N ∧ i = ρ n + f))
def ty_r (ρ : Nat → Int) (N : Nat) (h : ax_H) (t : ty_V) (x : Value) : Prop := match t with
  | (0, n, f, a, z) => ∃ i : Int32, x = .int i ∧ ty_in ρ N n f a z i.toInt
  | (1, n, f, a, z) => ∃ i : Int64, x = .long i ∧ ty_in ρ N n f a z i.toInt
  | (2, q, _) => x = .ref q
  | (3, g, _) => ∃ k : Nat, x = .ref k ∧ ax_gm g k = true
  | (4, t, _) => ∃ (k : Nat) (c : Nat × List Value), x = .ref k ∧ 181 ≤ k ∧ k < 1000000000 ∧ h[k]? = some c ∧ ty_lc t c
  | (5, _) => x = .retAddr 0
  | (6, _) => x = .null
  | _ => True
def ty_tab (q : Nat) : Nat × Nat × Nat × List ty_V := bif Nat.blt q 27 then (bif Nat.blt q 13 then (bif Nat.blt q 6 then (bif Nat.blt q 3 then (bif Nat.blt q 1 then (8, 18, 1, [(2, 1, 0, 0, 0), (2, 3, 0, 0, 0), (0, 0, 0, (-2147483648), 2147483647), (2, 5, 0, 0, 0), (2, 7, 0, 0, 0), (0, 0, 0, 0, 60), (2, 8, 0, 0, 0), (2, 10, 0, 0, 0), (2, 12, 0, 0, 0), (2, 15, 0, 0, 0), (2, 17, 0, 0, 0), (2, 19, 0, 0, 0), (2, 21, 0, 0, 0), (2, 23, 0, 0, 0), (2, 24, 0, 0, 0), (2, 25, 0, 0, 0), (2, 26, 0, 0, 0), (0, 0, 0, 0, 8)]) else (bif Nat.blt q 2 then (7, 2, 19, [(2, 2, 0, 0, 0), (0, 0, 0, 0, 200)]) else (100, 200, 21, [(0, 0, 0, 0, 255)]))) else (bif Nat.blt q 4 then (6, 9, 22, [(2, 1, 0, 0, 0), (0, 0, 0, 0, 201), (0, 0, 0, 0, 9), (0, 0, 0, 0, 201), (0, 0, 0, (-2147483648), 2147483647), (0, 0, 0, 0, 11), (2, 4, 0, 0, 0), (0, 0, 0, (-2147483648), 2147483647), (0, 0, 0, (-2147483648), 2147483647)]) else (bif Nat.blt q 5 then (100, 24, 31, [(0, 0, 0, (-2147483648), 2147483647)]) else (10, 4, 32, [(7, 0, 0, 0, 0), (7, 0, 0, 0, 0), (7, 0, 0, 0, 0), (7, 0, 0, 0, 0)])))) else (bif Nat.blt q 9 then (bif Nat.blt q 7 then (103, 16, 0, [(7, 0, 0, 0, 0)]) else (bif Nat.blt q 8 then (104, 60, 36, [(3, 0, 0, 0, 0)]) else (2, 2, 37, [(2, 9, 0, 0, 0), (1, 0, 0, (-9223372036854775808), 9223372036854775807)]))) else (bif Nat.blt q 11 then (bif Nat.blt q 10 then (101, 24, 39, [(1, 0, 0, (-9223372036854775808), 9223372036854775807)]) else (1, 3, 40, [(2, 11, 0, 0, 0), (0, 0, 0, (-2147483648), 2147483647), (1, 0, 0, (-9223372036854775808), 9223372036854775807)])) else (bif Nat.blt q 12 then (100, 24, 43, [(0, 0, 0, (-2147483648), 2147483647)]) else (4, 2, 44, [(2, 13, 0, 0, 0), (2, 14, 0, 0, 0)]))))) else (bif Nat.blt q 20 then (bif Nat.blt q 16 then (bif Nat.blt q 14 then (101, 64, 46, [(1, 0, 0, (-9223372036854775808), 9223372036854775807)]) else (bif Nat.blt q 15 then (101, 64, 47, [(1, 0, 0, (-9223372036854775808), 9223372036854775807)]) else (3, 2, 48, [(2, 16, 0, 0, 0), (0, 0, 0, 0, 24)]))) else (bif Nat.blt q 18 then (bif Nat.blt q 17 then (100, 24, 50, [(0, 0, 0, 0, 23)]) else (0, 2, 51, [(2, 18, 0, 0, 0), (0, 0, 0, 0, 1)])) else (bif Nat.blt q 19 then (100, 12, 53, [(0, 0, 0, (-1), 1)]) else (3, 2, 54, [(2, 20, 0, 0, 0), (0, 0, 0, 0, 24)])))) else (bif Nat.blt q 23 then (bif Nat.blt q 21 then (100, 24, 56, [(0, 0, 0, 0, 23)]) else (bif Nat.blt q 22 then (3, 2, 57, [(2, 22, 0, 0, 0), (0, 0, 0, 0, 24)]) else (100, 24, 59, [(0, 0, 0, 0, 23)]))) else (bif Nat.blt q 25 then (bif Nat.blt q 24 then (100, 12, 60, [(0, 0, 0, (-1000), 1000)]) else (105, 9, 61, [(3, 2, 0, 0, 0)])) else (bif Nat.blt q 26 then (100, 8, 62, [(0, 0, 0, 0, 60)]) else (106, 8, 63, [(3, 4, 0, 0, 0)])))))) else bif Nat.blt q 181 then (bif Nat.blt q 147 then (bif Nat.beq (q % 2) 1 then (1, 3, 0, [(2, q + 1, 0, 0, 0), (0, 0, 0, (-2147483648), 2147483647), (1, 0, 0, (-9223372036854775808), 9223372036854775807)]) else (100, 24, 0, [(0, 0, 0, (-2147483648), 2147483647)])) else bif Nat.blt q 165 then (bif Nat.beq (q % 2) 1 then (5, 1, 0, [(2, q + 1, 0, 0, 0)]) else (101, 64, 0, [(1, 0, 0, (-9223372036854775808), 9223372036854775807)])) else (bif Nat.beq (q % 2) 1 then (3, 2, 0, [(2, q + 1, 0, 0, 0), (0, 0, 0, 0, 24)]) else (100, 24, 0, [(0, 0, 0, 0, 23)]))) else bif Nat.beq q 300 then (98, 3, 112, [(7, 0, 0, 0, 0), (7, 0, 0, 0, 0), (7, 0, 0, 0, 0)]) else (101, 6, 0, [(1, 0, 0, (-9223372036854775808), 9223372036854775807)])
def ty_tt (q j : Nat) : ty_V := match (ty_tab q).2.2.2 with
  | [] => (7, 0, 0, 0, 0)
  | t :: ts => (t :: ts).getD j t
def ty_fi : ty_O → Nat → Nat → Option ty_V
  | [], _, _ => none
  | e :: r, q, j => bif Nat.beq e.1 q && Nat.beq e.2.1 j then some e.2.2 else ty_fi r q j
def ty_ar (q : Nat) : Bool := Nat.ble 100 (ty_tab q).1
/-- what is said of an array as a whole -/
def ty_un (ov : ty_O) (q : Nat) : ty_V := match ty_fi ov q 0 with
  | some t => t
  | none => ty_tt q 0
def ty_lk (ov : ty_O) (q j : Nat) : ty_V := match ty_fi ov q (j + 1) with
  | some t => t
  | none => bif ty_ar q then ty_un ov q else ty_tt q j
/-- cells that stand in a group -/
def ty_mb (q : Nat) : Bool := ax_gm 0 q || (ax_gm 1 q || (ax_gm 2 q || (ax_gm 3 q || (ax_gm 4 q || ax_gm 5 q))))
def ty_fd (h : ax_H) (q j : Nat) : Option Value := (h[q]?).bind (fun c => c.2[j]?)
def ty_iv (x : Option Value) : Option Int := match x with
  | some (.int i) => some i.toInt
  | _ => none
/-- K, brought into 0 .. 200 -/
def ty_kc (K : Int) : Int := ty_ma 0 (ty_mi K 200)
/-- three numbers more: the reference's byte where its token begins; its place less the terms it has; its place less K -/
def ty_pv (K : Int) (h : ax_H) (j : Nat) : Option Int := match j with
  | 0 => (ty_iv (ty_fd h 181 9)).bind (fun f => ty_iv (ty_fd h 185 f.toNat))
  | 1 => (ty_iv (ty_fd h 181 8)).bind (fun a => (ty_iv (ty_fd h 181 14)).map (fun b => a - b))
  | 2 => (ty_iv (ty_fd h 181 8)).map (fun a => a - ty_kc K)
  | _ => none
def ty_ps (K : Int) (ρ : Nat → Int) (N : Nat) (h : ax_H) (j : Nat) (t : ty_V) : Prop := match t with
  | (0, n, f, a, z) => ∀ v, ty_pv K h j = some v → ty_in ρ N n f a z v
  | _ => True
def ty_H (K : Int) (ρ : Nat → Int) (N : Nat) (ov : ty_O) (h : ax_H) : Prop := 181 ≤ h.length ∧
  (∀ q, q < 181 → ∃ vs, h[q]? = some ((ty_tab q).1, vs) ∧ vs.length = (ty_tab q).2.1 ∧ ∀ j x, vs[j]? = some x → ty_r ρ N h (ty_lk ov q j) x ∧ (ty_mb q = true → ty_r ρ N h (ty_tt q j) x)) ∧
  ∀ j, ty_ps K ρ N h j (ty_lk ov 300 j)
def ty_ls (ρ : Nat → Int) (N : Nat) (h : ax_H) : List (Nat × ty_V) → List (Nat × Value) → Prop
  | [], xs => xs = []
  | q :: t, xs => ∃ x r, xs = (q.1, x) :: r ∧ ty_r ρ N h q.2 x ∧ ty_ls ρ N h t r
def ty_rs (ρ : Nat → Int) (N : Nat) (h : ax_H) : List ty_V → List Value → Prop
  | [], xs => xs = []
  | t :: ts, xs => ∃ x r, xs = x :: r ∧ ty_r ρ N h t x ∧ ty_rs ρ N h ts r
/-- the number of a field, or of an array -/
def ty_ky (q j : Nat) : Nat := (ty_tab q).2.2.1 - 1 + (bif ty_ar q then 0 else j)
/-- cells stay, and what they are -/
def ty_X (h h' : ax_H) : Prop := h.length ≤ h'.length ∧ ∀ (q t : Nat) (vs : List Value), h[q]? = some (t, vs) → ∃ vs', h'[q]? = some (t, vs')
theorem ty_X_refl (h : ax_H) : ty_X h h := ⟨Nat.le_refl _, fun _ _ vs e => ⟨vs, e⟩⟩
theorem ty_X.trans {a b c : ax_H} (x : ty_X a b) (y : ty_X b c) : ty_X a c := ⟨Nat.le_trans x.1 y.1, fun q t vs e => by
  obtain ⟨v, e⟩ := x.2 q t vs e
  exact y.2 q t v e⟩
theorem ty_X_set {h : ax_H} {q t : Nat} {vs vs' : List Value} (e : h[q]? = some (t, vs)) : ty_X h (h.set q (t, vs')) := ⟨by rw [List.length_set]; exact Nat.le_refl _, fun p s us e2 => by
  by_cases c : p = q
  · subst c
    rw [e] at e2
    cases e2
    exact ⟨vs', List.getElem?_set_self (List.getElem?_eq_some_iff.mp e).1⟩
  · exact ⟨us, by rw [List.getElem?_set_ne (Ne.symm c)]; exact e2⟩⟩
theorem ty_X_push (h gs : ax_H) : ty_X h (h ++ gs) := ⟨by rw [List.length_append]; omega, fun q t vs e => ⟨vs, by rw [List.getElem?_append_left (List.getElem?_eq_some_iff.mp e).1]; exact e⟩⟩
def ty_F (W : Nat) (h h' : ax_H) : Prop := ty_X h h' ∧
  (∀ q j, q < 181 → (ty_tab q).2.2.1 ≠ 0 → W.testBit (ty_ky q j) = false → ty_fd h' q j = ty_fd h q j) ∧
  (∀ k c t, 181 ≤ k → h[k]? = some c → ty_lc t c → ∃ c', h'[k]? = some c' ∧ ty_lc t c') ∧
  (W.testBit 31 = false → ∀ (k : Nat) (bs : List Value), h[k]? = some (103, bs) → h'[k]? = some (103, bs))
theorem ty_in.mono {ρ : Nat → Int} {N M n : Nat} {f a z i : Int} (hN : N ≤ M) (h : ty_in ρ N n f a z i) : ty_in ρ M n f a z i :=
  ⟨h.1, h.2.1, h.2.2.imp id (fun q => ⟨Nat.lt_of_lt_of_le q.1 hN, q.2⟩)⟩
theorem ty_r.mono {ρ : Nat → Int} {N M : Nat} {h : ax_H} {t : ty_V} {x : Value} (hN : N ≤ M) (hr : ty_r ρ N h t x) : ty_r ρ M h t x := by
  unfold ty_r at hr ⊢
  split at hr
  · obtain ⟨i, h1, h2⟩ := hr; exact ⟨i, h1, h2.mono hN⟩
  · obtain ⟨i, h1, h2⟩ := hr; exact ⟨i, h1, h2.mono hN⟩
  all_goals exact hr
/-- one more name, for this number -/
def ty_up (ρ : Nat → Int) (N : Nat) (v : Int) : Nat → Int := fun k => if k = N then v else ρ k
theorem ty_in.new {ρ : Nat → Int} {N n : Nat} {f a z i : Int} (hN : N ≠ 0) (h : ty_in ρ N n f a z i) : ty_in (ty_up ρ N i) (N + 1) N 0 a z i :=
  ⟨h.1, h.2.1, Or.inr ⟨Nat.lt_succ_self N, by rw [ty_up, if_pos rfl]; omega⟩⟩
def ty_tl (t s : ty_V) : Bool := match t, s with
  | (7, _), _ => true
  | (0, 0, _, a, z), (0, _, _, b, w) => ty_le a b && ty_le w z
  | (1, 0, _, a, z), (1, _, _, b, w) => ty_le a b && ty_le w z
  | (2, p, _), (2, q, _) => Nat.beq p q
  | (3, p, _), (3, q, _) => Nat.beq p q
  | (3, g, _), (2, q, _) => ax_gm g q
  | (4, p, _), (4, q, _) => Nat.beq p q
  | (5, _), (5, _) => true
  | (6, _), (6, _) => true
  | _, _ => false
theorem ty_tl_ok {ρ ρ' : Nat → Int} {N N' : Nat} {h : ax_H} {t s : ty_V} {x : Value} (hl : ty_tl t s = true) (hr : ty_r ρ N h s x) : ty_r ρ' N' h t x := by
  unfold ty_tl at hl
  split at hl
  · simp only [ty_r]
  · simp only [Bool.and_eq_true, ty_le_iff] at hl
    obtain ⟨i, h1, h2, h3, -⟩ := hr
    exact ⟨i, h1, by omega, by omega, Or.inl rfl⟩
  · simp only [Bool.and_eq_true, ty_le_iff] at hl
    obtain ⟨i, h1, h2, h3, -⟩ := hr
    exact ⟨i, h1, by omega, by omega, Or.inl rfl⟩
  · have := Nat.eq_of_beq_eq_true hl; subst this; exact hr
  · have := Nat.eq_of_beq_eq_true hl; subst this; exact hr
  · exact ⟨_, hr, hl⟩
  · have := Nat.eq_of_beq_eq_true hl; subst this; exact hr
  · exact hr
  · exact hr
  · cases hl
-- 34
theorem ty_beq_no {a b : Nat} (h : a ≠ b) : Nat.beq a b = false := by
  cases e : Nat.beq a b with
  | false => rfl
  | true => exact absurd (Nat.eq_of_beq_eq_true e) h
theorem ty_blt_no {a b : Nat} (h : b ≤ a) : Nat.blt a b = false := by
  cases e : Nat.blt a b with
  | false => rfl
  | true =>
    have : a < b := Nat.le_of_ble_eq_true e
    omega
def ty_Lo (h h' : ax_H) : Prop := ∀ (k : Nat) (c : Nat × List Value) (t : Nat), 181 ≤ k → h[k]? = some c → ty_lc t c → ∃ c', h'[k]? = some c' ∧ ty_lc t c'
theorem ty_r.mv {ρ : Nat → Int} {N : Nat} {h h' : ax_H} {t : ty_V} {x : Value} (hL : ty_Lo h h') (hr : ty_r ρ N h t x) : ty_r ρ N h' t x := by
  unfold ty_r at hr ⊢
  split at hr
  case h_5 =>
    obtain ⟨k, c, h1, h2, h9, h3, h4⟩ := hr
    obtain ⟨c', h5, h6⟩ := hL k c _ h2 h3 h4
    exact ⟨k, c', h1, h2, h9, h5, h6⟩
  all_goals exact hr
theorem ty_ls.mv {ρ : Nat → Int} {N : Nat} {h h' : ax_H} (hL : ty_Lo h h') : ∀ {lv : List (Nat × ty_V)} {xs : List (Nat × Value)}, ty_ls ρ N h lv xs → ty_ls ρ N h' lv xs
  | [], _, hr => hr
  | _ :: _, _, ⟨x, r, e, h1, h2⟩ => ⟨x, r, e, h1.mv hL, h2.mv hL⟩
theorem ty_rs.mv {ρ : Nat → Int} {N : Nat} {h h' : ax_H} (hL : ty_Lo h h') : ∀ {st : List ty_V} {xs : List Value}, ty_rs ρ N h st xs → ty_rs ρ N h' st xs
  | [], _, hr => hr
  | _ :: _, _, ⟨x, r, e, h1, h2⟩ => ⟨x, r, e, h1.mv hL, h2.mv hL⟩
def ty_ot (ov : ty_O) (q j : Nat) (t : ty_V) : ty_O := (q, j, t) :: ov.filter (fun e => !(Nat.beq e.1 q && Nat.beq e.2.1 j))
theorem ty_fi_filter {p : Nat × Nat × ty_V → Bool} {q j : Nat} (hp : ∀ t, p (q, j, t) = true) : ∀ ov : ty_O, ty_fi (ov.filter p) q j = ty_fi ov q j
  | [] => rfl
  | e :: r => by
    cases hb : Nat.beq e.1 q && Nat.beq e.2.1 j with
    | true =>
      have h2 := hb
      simp only [Bool.and_eq_true] at h2
      have e1 := Nat.eq_of_beq_eq_true h2.1
      have e2 := Nat.eq_of_beq_eq_true h2.2
      have : p e = true := by
        obtain ⟨a, b, c⟩ := e
        dsimp only at e1 e2
        subst e1; subst e2
        exact hp c
      rw [List.filter_cons_of_pos this]
      simp only [ty_fi, hb, cond_true]
    | false =>
      cases hpe : p e with
      | true =>
        rw [List.filter_cons_of_pos hpe]
        simp only [ty_fi, hb, cond_false]
        exact ty_fi_filter hp r
      | false =>
        rw [List.filter_cons_of_neg (by simp [hpe])]
        simp only [ty_fi, hb, cond_false]
        exact ty_fi_filter hp r
theorem ty_fi_ot {ov : ty_O} {q j : Nat} {t : ty_V} (q' j' : Nat) : ty_fi (ty_ot ov q j t) q' j' = if q' = q ∧ j' = j then some t else ty_fi ov q' j' := by
  unfold ty_ot
  simp only [ty_fi]
  by_cases h : q' = q ∧ j' = j
  · obtain ⟨rfl, rfl⟩ := h
    simp
  · rw [if_neg h]
    have : (Nat.beq q q' && Nat.beq j j') = false := by
      simp only [Bool.and_eq_false_iff]
      rcases Decidable.em (q' = q) with e | e
      · exact Or.inr (ty_beq_no (fun e2 => h ⟨e, e2.symm⟩))
      · exact Or.inl (ty_beq_no (fun e2 => e e2.symm))
    rw [this, cond_false]
    refine ty_fi_filter (fun t => ?_) ov
    simp only [Bool.not_eq_true', Bool.and_eq_false_iff]
    rcases Decidable.em (q' = q) with e | e
    · exact Or.inr (ty_beq_no (fun e2 => h ⟨e, e2⟩))
    · exact Or.inl (ty_beq_no e)
-- 35
theorem ty_fd_set {h : ax_H} {q : Nat} {c : Nat × List Value} (hq : q < h.length) (q' j : Nat) : ty_fd (h.set q c) q' j = if q' = q then c.2[j]? else ty_fd h q' j := by
  unfold ty_fd
  by_cases e : q' = q
  · subst e
    rw [if_pos rfl, List.getElem?_set_self hq]
    rfl
  · rw [if_neg e, List.getElem?_set_ne (Ne.symm e)]
theorem ty_pv_eq {K : Int} {h h' : ax_H} {j : Nat} (h1 : ty_fd h' 181 8 = ty_fd h 181 8) (h2 : ty_fd h' 181 9 = ty_fd h 181 9) (h3 : ty_fd h' 181 14 = ty_fd h 181 14) (h4 : ∀ f, ty_fd h' 185 f = ty_fd h 185 f) : ty_pv K h' j = ty_pv K h j := by
  unfold ty_pv
  rw [h1, h2, h3]
  simp only [h4]
theorem ty_ps_eq {K : Int} {ρ : Nat → Int} {N : Nat} {h h' : ax_H} {j : Nat} {t : ty_V} (he : ty_pv K h' j = ty_pv K h j) (hr : ty_ps K ρ N h j t) : ty_ps K ρ N h' j t := by
  unfold ty_ps at hr ⊢
  rw [he]
  exact hr
theorem ty_gm_lt {g a : Nat} (h : ax_gm g a = true) : a < 181 := by
  unfold ax_gm at h
  simp only [List.any_eq_true, Bool.and_eq_true] at h
  obtain ⟨q, h1, h2, h3, h4⟩ := h
  have h2 := Nat.le_of_ble_eq_true h2
  have h3 := Nat.eq_of_beq_eq_true h3
  have h4 : (a - q.1) / q.2.1 < q.2.2 := Nat.le_of_ble_eq_true h4
  have key : ∀ r ∈ ax_grs.getD g [], ∀ i, i < r.2.2 → r.1 + i * r.2.1 < 181 ∧ 0 < r.2.1 := by
    rcases (by omega : g = 0 ∨ g = 1 ∨ g = 2 ∨ g = 3 ∨ g = 4 ∨ g = 5 ∨ 6 ≤ g) with rfl | rfl | rfl | rfl | rfl | rfl | hg
    · decide +kernel
    · decide +kernel
    · decide +kernel
    · decide +kernel
    · decide +kernel
    · decide +kernel
    · have : ax_grs.getD g [] = [] := by
        rw [List.getD_eq_getElem?_getD, List.getElem?_eq_none (by show 6 ≤ g; exact hg)]
        rfl
      rw [this]
      intro r hr
      cases hr
  obtain ⟨k1, k2⟩ := key q h1 _ h4
  have := Nat.div_add_mod (a - q.1) q.2.1
  rw [Nat.mul_comm] at this
  omega
theorem ty_Lo_refl (h : ax_H) : ty_Lo h h := fun _ c _ _ h1 h2 => ⟨c, h1, h2⟩
theorem ty_Lo.trans {h h' h'' : ax_H} (a : ty_Lo h h') (b : ty_Lo h' h'') : ty_Lo h h'' := fun k c t h1 h2 h3 => by
  obtain ⟨c', e1, e2⟩ := a k c t h1 h2 h3
  exact b k c' t h1 e1 e2
theorem ty_Lo_set {h : ax_H} {q : Nat} {c : Nat × List Value} (hq : q < 181) : ty_Lo h (h.set q c) := fun k c' t h1 h2 h3 => ⟨c', by rw [List.getElem?_set_ne (by omega)]; exact h2, h3⟩
theorem ty_Lo_push {h gs : ax_H} : ty_Lo h (h ++ gs) := fun k c t _ h2 h3 => ⟨c, by rw [List.getElem?_append_left (List.getElem?_eq_some_iff.mp h2).1]; exact h2, h3⟩
/-- the heap behind a store -/
theorem ty_H.set {K : Int} {ρ : Nat → Int} {N : Nat} {ov ov' : ty_O} {h : ax_H} {q i tag : Nat} {x : Value} {vs : List Value} (hH : ty_H K ρ N ov h) (hq : q < 181) (hg : h[q]? = some (tag, vs))
    (hlk : ∀ q' j', q' < 181 → (q' ≠ q ∨ j' ≠ i) → (ty_tl (ty_lk ov' q' j') (ty_lk ov q' j') = true ∨ ty_lk ov' q' j' = ty_lk ov q' j' ∨ (ty_mb q' = true ∧ ty_lk ov' q' j' = ty_tt q' j')))
    (hx : ty_r ρ N h (ty_lk ov' q i) x) (hm : ty_mb q = true → ty_r ρ N h (ty_tt q i) x) (hps : ∀ j, ty_ps K ρ N (h.set q (tag, vs.set i x)) j (ty_lk ov' 300 j)) : ty_H K ρ N ov' (h.set q (tag, vs.set i x)) := by
  obtain ⟨h1, h2, h3⟩ := hH
  have hL := ty_Lo_set (h := h) (c := (tag, vs.set i x)) hq
  have pick : ∀ q' j' y, q' < 181 → (q' ≠ q ∨ j' ≠ i) → (ty_r ρ N h (ty_lk ov q' j') y ∧ (ty_mb q' = true → ty_r ρ N h (ty_tt q' j') y)) → ty_r ρ N (h.set q (tag, vs.set i x)) (ty_lk ov' q' j') y ∧ (ty_mb q' = true → ty_r ρ N (h.set q (tag, vs.set i x)) (ty_tt q' j') y) := by
    intro q' j' y hq' hne hy
    refine ⟨?_, fun hm' => (hy.2 hm').mv hL⟩
    rcases hlk q' j' hq' hne with a | a | a
    · exact (ty_tl_ok a hy.1).mv hL
    · rw [a]; exact hy.1.mv hL
    · rw [a.2]; exact (hy.2 a.1).mv hL
  refine ⟨by rw [List.length_set]; exact h1, fun q' hq' => ?_, hps⟩
  obtain ⟨vs', e1, e2, e3⟩ := h2 q' hq'
  by_cases e : q' = q
  · subst e
    rw [hg] at e1
    cases e1
    refine ⟨vs.set i x, List.getElem?_set_self (by omega), by rw [List.length_set]; exact e2, fun j y hj => ?_⟩
    by_cases ej : j = i
    · subst ej
      have hl : j < vs.length := by
        have := (List.getElem?_eq_some_iff.mp hj).1
        rwa [List.length_set] at this
      rw [List.getElem?_set_self hl] at hj
      cases hj
      exact ⟨hx.mv hL, fun hm' => (hm hm').mv hL⟩
    · rw [List.getElem?_set_ne (Ne.symm ej)] at hj
      exact pick q' j y hq (Or.inr ej) (e3 j y hj)
  · refine ⟨vs', by rw [List.getElem?_set_ne (Ne.symm e)]; exact e1, e2, fun j y hj => pick q' j y hq' (Or.inl e) (e3 j y hj)⟩
theorem ty_F_refl (W : Nat) (h : ax_H) : ty_F W h h := ⟨ty_X_refl h, fun _ _ _ _ _ => rfl, ty_Lo_refl h, fun _ _ _ q => q⟩
theorem ty_F.trans {W : Nat} {h h' h'' : ax_H} (a : ty_F W h h') (b : ty_F W h' h'') : ty_F W h h'' :=
  ⟨a.1.trans b.1, fun q j h1 h2 h3 => (b.2.1 q j h1 h2 h3).trans (a.2.1 q j h1 h2 h3), ty_Lo.trans a.2.2.1 b.2.2.1, fun hw k bs hk => b.2.2.2 hw k bs (a.2.2.2 hw k bs hk)⟩
/-- may (q, j) be written? -/
def ty_wr (W q j : Nat) : Bool := Nat.beq (ty_tab q).2.2.1 0 || W.testBit (ty_ky q j)
theorem ty_F.set {W q i tag : Nat} {h : ax_H} {x : Value} {vs : List Value} (hq : q < 181) (hl : 181 ≤ h.length) (hg : h[q]? = some (tag, vs)) (ht : tag ≠ 103) (hw : ty_wr W q i = true) : ty_F W h (h.set q (tag, vs.set i x)) := by
  refine ⟨ty_X_set hg, fun q' j' h1 h2 h3 => ?_, ty_Lo_set hq, fun hw k bs hk => ?_⟩
  · rw [ty_fd_set (by omega)]
    by_cases e : q' = q
    · subst e
      rw [if_pos rfl]
      have hne : j' ≠ i := by
        rintro rfl
        simp only [ty_wr, Bool.or_eq_true] at hw
        rcases hw with a | a
        · exact h2 (Nat.eq_of_beq_eq_true a)
        · rw [a] at h3; cases h3
      unfold ty_fd
      rw [hg]
      exact List.getElem?_set_ne (Ne.symm hne)
    · rw [if_neg e]
  · by_cases e : k = q
    · subst e
      rw [hg] at hk
      cases hk
      exact absurd rfl ht
    · rw [List.getElem?_set_ne (Ne.symm e)]
      exact hk
theorem ty_F.setA {W q i tag : Nat} {h : ax_H} {x : Value} {vs : List Value} (hq : q < 181) (hl : 181 ≤ h.length) (hg : h[q]? = some (tag, vs)) (ht : tag ≠ 103) (ha : ty_ar q = true) (hw : ty_wr W q 0 = true) : ty_F W h (h.set q (tag, vs.set i x)) := by
  refine ty_F.set hq hl hg ht ?_
  unfold ty_wr ty_ky at hw ⊢
  rw [ha] at hw ⊢
  exact hw
theorem ty_F.push {W : Nat} {h gs : ax_H} (hl : 181 ≤ h.length) : ty_F W h (h ++ gs) := by
  refine ⟨ty_X_push h gs, fun q' j' a1 a2 a3 => ?_, ty_Lo_push, fun hw k bs hk => ?_⟩
  · unfold ty_fd
    rw [List.getElem?_append_left (by omega)]
  · rw [List.getElem?_append_left (List.getElem?_eq_some_iff.mp hk).1]
    exact hk
-- 36
def ty_lr (ρ : Nat → Int) (N : Nat) (h : ax_H) (lv : List (Nat × ty_V)) (lvx : List (Nat × Value)) : Prop := ∀ j t, (j, t) ∈ lv → ∃ x, ax_at lvx j = some x ∧ ty_r ρ N h t x
theorem ty_lr.mv {ρ : Nat → Int} {N : Nat} {h h' : ax_H} {lv : List (Nat × ty_V)} {lvx : List (Nat × Value)} (hL : ty_Lo h h') (hr : ty_lr ρ N h lv lvx) : ty_lr ρ N h' lv lvx := fun j t e => by
  obtain ⟨x, h1, h2⟩ := hr j t e
  exact ⟨x, h1, h2.mv hL⟩
def ty_R : ax_H := [(101, ax_bits)]
section TYS
variable {K : Int} {ρ : Nat → Int} {N : Nat} {ov : ty_O} {h : ax_H} {lv : List (Nat × ty_V)} {lvx : List (Nat × Value)} {nL pc a b c : Nat} {v : Value}
end TYS
-- 37
abbrev ty_C : Type := Nat → List (Nat × ty_V) → List ty_V → ty_O → Nat → Nat → Nat → Bool
section TYB
variable {I : ax_H → Prop} {W : Nat} {K : Int} {ρ : Nat → Int} {N : Nat} {ov : ty_O} {h : ax_H} {lv : List (Nat × ty_V)} {lvx : List (Nat × Value)} {st : List ty_V} {stx : List Value} {nL pc a b c : Nat} {v : Value} {k : ty_C}
end TYB
-- 38
theorem ty_lk_ot {ov : ty_O} {q j : Nat} {t : ty_V} (q' j' : Nat) : ty_lk (ty_ot ov q (j + 1) t) q' j' = if q' = q ∧ j' = j then t else ty_lk ov q' j' := by
  have hu : ty_un (ty_ot ov q (j + 1) t) q' = ty_un ov q' := by
    unfold ty_un
    rw [ty_fi_ot, if_neg (by omega)]
  unfold ty_lk
  rw [ty_fi_ot, hu]
  by_cases e : q' = q ∧ j' = j
  · rw [if_pos e, if_pos (by omega)]
  · rw [if_neg e, if_neg (by omega)]
theorem ty_tb_1 : ((List.range 301).all fun q => !(ty_ar q) || Nat.beq (ty_tab q).2.2.2.length 1) = true := by decide +kernel
theorem ty_tt_ar {q : Nat} (ha : ty_ar q = true) (j : Nat) : ty_tt q j = ty_tt q 0 := by
  have h1 : (ty_tab q).2.2.2.length = 1 := by
    rcases Nat.lt_or_ge q 301 with h | h
    · have := List.all_eq_true.mp ty_tb_1 q (List.mem_range.mpr h)
      rw [ha, Bool.not_true, Bool.false_or] at this
      exact Nat.eq_of_beq_eq_true this
    · have e1 : Nat.blt q 27 = false := ty_blt_no (by omega)
      have e2 : Nat.blt q 181 = false := ty_blt_no (by omega)
      have e4 : Nat.beq q 300 = false := ty_beq_no (by omega)
      unfold ty_tab
      rw [e1, e2, e4]
      rfl
  unfold ty_tt
  split
  · rfl
  · rename_i t ts e
    rw [e] at h1
    have : ts = [] := List.length_eq_zero_iff.mp (by simpa using h1)
    subst this
    rcases j with _ | j <;> rfl
section TYL
variable {I : ax_H → Prop} {W : Nat} {K : Int} {ρ : Nat → Int} {N : Nat} {ov : ty_O} {h : ax_H} {lv : List (Nat × ty_V)} {lvx : List (Nat × Value)} {st : List ty_V} {stx : List Value} {nL pc a b c : Nat} {v : Value} {k : ty_C}
/-- what is known of one thing in the heap more exactly -/
theorem ty_H.put {q j : Nat} {t : ty_V} {x : Value} (hH : ty_H K ρ N ov h) (hq : q < 181) (hx : ty_fd h q j = some x) (ht : ty_r ρ N h t x) : ty_H K ρ N (ty_ot ov q (j + 1) t) h := by
  obtain ⟨h1, h2, h3⟩ := hH
  refine ⟨h1, fun q' hq' => ?_, fun j' => ?_⟩
  · obtain ⟨vs, e1, e2, e3⟩ := h2 q' hq'
    refine ⟨vs, e1, e2, fun j' y hy => ⟨?_, (e3 j' y hy).2⟩⟩
    rw [ty_lk_ot]
    by_cases e : q' = q ∧ j' = j
    · rw [if_pos e]
      obtain ⟨rfl, rfl⟩ := e
      unfold ty_fd at hx
      rw [e1] at hx
      have : vs[j']? = some x := hx
      rw [hy] at this
      cases this
      exact ht
    · rw [if_neg e]
      exact (e3 j' y hy).1
  · rw [ty_lk_ot, if_neg (by omega)]
    exact h3 j'
end TYL
section TYL
variable {I : ax_H → Prop} {W : Nat} {K : Int} {ρ : Nat → Int} {N : Nat} {ov : ty_O} {h : ax_H} {lv : List (Nat × ty_V)} {lvx : List (Nat × Value)} {st : List ty_V} {stx : List Value} {nL pc a b c : Nat} {v : Value} {k : ty_C}
end TYL
-- 39
section TYP
variable {I : ax_H → Prop} {W : Nat} {K : Int} {ρ : Nat → Int} {N : Nat} {ov : ty_O} {h : ax_H} {lv : List (Nat × ty_V)} {lvx : List (Nat × Value)} {st : List ty_V} {stx : List Value} {nL pc a b c : Nat} {v : Value} {k : ty_C}
theorem ty_fd_of {q i tag : Nat} {vs : List Value} {y : Value} (hg : h[q]? = some (tag, vs)) (hy : vs[i]? = some y) : ty_fd h q i = some y := by
  unfold ty_fd
  rw [hg]
  exact hy
end TYP
-- 41
section TYM
variable {I : ax_H → Prop} {W : Nat} {K : Int} {ρ : Nat → Int} {N : Nat} {ov : ty_O} {h : ax_H} {lv : List (Nat × ty_V)} {lvx : List (Nat × Value)} {st : List ty_V} {stx : List Value} {nL pc a b c : Nat} {v : Value} {k : ty_C}
end TYM
section TYC
variable {I : ax_H → Prop} {W : Nat} {K : Int} {ρ : Nat → Int} {N : Nat} {ov : ty_O} {h : ax_H} {lv : List (Nat × ty_V)} {lvx : List (Nat × Value)} {st : List ty_V} {stx : List Value} {nL pc a b c : Nat} {v : Value} {k : ty_C}
/-- two longs compared -/
theorem ty_cmp {i j : Int64} : (i.toInt < j.toInt → lg_cmp i j = -1) ∧ (i.toInt = j.toInt → lg_cmp i j = 0) ∧ (j.toInt < i.toInt → lg_cmp i j = 1) := by
  unfold lg_cmp
  refine ⟨fun h => ?_, fun h => ?_, fun h => ?_⟩
  · rw [if_neg (fun q => by have := Int64.lt_iff_toInt_lt.mp q; omega), if_neg (fun q => by rw [q] at h; omega)]
  · rw [if_neg (fun q => by have := Int64.lt_iff_toInt_lt.mp q; omega), if_pos (Int64.toInt_inj.mp h)]
  · rw [if_pos (Int64.lt_iff_toInt_lt.mpr h)]
end TYC
section TYX
variable {I : ax_H → Prop} {W : Nat} {K : Int} {ρ : Nat → Int} {N : Nat} {ov : ty_O} {h : ax_H} {lv : List (Nat × ty_V)} {lvx : List (Nat × Value)} {st : List ty_V} {stx : List Value} {nL pc a b c : Nat} {v : Value} {k : ty_C}
end TYX
-- 42
theorem AR.small {ns : ax_NS} {l : Launch} {k : ax_M} {d : Nat} {r : ax_H} {P : ax_P} {X : ax_PX} {pc : Nat} {lv : List (Nat × Value)} {st : List Value} {h : ax_H} {bc bs : Nat} (K : h.length < 1000000000 → AR ns l k d r P X pc lv st h bc bs) : AR ns l k d r P X pc lv st h bc bs := by
  intro D b o TC TS p e R s m args below meth c Z hX hP hXX lvc ls stc H locs cells slots hG
  have hz : s.heap.size + TC < b + 1000000000 := by
    obtain ⟨-, -, -, -, -, -, -, -, -, -, -, -, -, -, hz⟩ := hX
    exact hz
  exact ax_size hz hG.2.2.2.1 hG.2.2.2.2.2.1 (fun hh => K hh D b o TC TS p e R s m args below meth c Z hX hP hXX lvc ls stc H locs cells slots hG)
abbrev ty_z : Nat → Int := fun _ => 0
-- 47za
theorem hy_lk (q j : Nat) : ty_lk [] q j = ty_tt q j := by
  have e : ty_lk [] q j = (bif ty_ar q then ty_tt q 0 else ty_tt q j) := rfl
  rw [e]
  cases ha : ty_ar q with
  | true => exact (ty_tt_ar ha j).symm
  | false => rfl
theorem hy_300 (j : Nat) : ty_tt 300 j = (7, 0, 0, 0, 0) := by
  have e : ty_tt 300 j = ([(7, 0, 0, 0, 0), (7, 0, 0, 0, 0), (7, 0, 0, 0, 0)] : List ty_V).getD j (7, 0, 0, 0, 0) := rfl
  rw [e]
  rcases j with _ | _ | _ | j <;> rfl
theorem hy_ps {K : Int} {ρ : Nat → Int} {N : Nat} {h : ax_H} (j : Nat) : ty_ps K ρ N h j (ty_lk [] 300 j) := by
  rw [hy_lk, hy_300]
  trivial
abbrev hy_H (K : Int) (h : ax_H) : Prop := ty_H K ty_z 0 [] h
section HY
variable {K : Int} {W q j n : Nat} {h h0 : ax_H} {a z : Int}
theorem hy_cell (hH : hy_H K h) (hq : q < 181) : ∃ vs, h[q]? = some ((ty_tab q).1, vs) ∧ vs.length = (ty_tab q).2.1 ∧ ∀ j x, vs[j]? = some x → ty_r ty_z 0 h (ty_tt q j) x := by
  obtain ⟨vs, e1, e2, e3⟩ := hH.2.1 q hq
  exact ⟨vs, e1, e2, fun j x hx => by
    have := (e3 j x hx).1
    rw [hy_lk] at this
    exact this⟩
theorem hy_at (hH : hy_H K h) (hq : q < 181) (hn : (ty_tab q).2.1 = n) (hj : j < n) : ∃ x vs, h[q]? = some ((ty_tab q).1, vs) ∧ vs.length = n ∧ vs[j]? = some x ∧ ty_fd h q j = some x ∧ ty_r ty_z 0 h (ty_tt q j) x := by
  obtain ⟨vs, e1, e2, e3⟩ := hy_cell hH hq
  have hl : j < vs.length := by omega
  have hx := List.getElem?_eq_getElem hl
  exact ⟨_, vs, e1, by omega, hx, ty_fd_of e1 hx, e3 _ _ hx⟩
theorem hy_int (hH : hy_H K h) (hq : q < 181) (hn : (ty_tab q).2.1 = n) (hj : j < n) (ht : ty_tt q j = (0, 0, 0, a, z)) : ∃ i : Int32, ty_fd h q j = some (.int i) ∧ a ≤ i.toInt ∧ i.toInt ≤ z := by
  obtain ⟨x, vs, e1, e2, e3, e4, e5⟩ := hy_at hH hq hn hj
  rw [ht] at e5
  obtain ⟨i, rfl, h1, h2, -⟩ := e5
  exact ⟨i, e4, h1, h2⟩
theorem hy_long (hH : hy_H K h) (hq : q < 181) (hn : (ty_tab q).2.1 = n) (hj : j < n) (ht : ty_tt q j = (1, 0, 0, a, z)) : ∃ i : Int64, ty_fd h q j = some (.long i) ∧ a ≤ i.toInt ∧ i.toInt ≤ z := by
  obtain ⟨x, vs, e1, e2, e3, e4, e5⟩ := hy_at hH hq hn hj
  rw [ht] at e5
  obtain ⟨i, rfl, h1, h2, -⟩ := e5
  exact ⟨i, e4, h1, h2⟩
/-- the heap behind a store -/
theorem hy_put {x : Value} {vs : List Value} {tag : Nat} (hH : hy_H K h) (hF : ty_F W h0 h) (hq : q < 181) (hg : h[q]? = some (tag, vs)) (ht : tag ≠ 103) (hj : j < vs.length) (hx : ty_r ty_z 0 h (ty_tt q j) x) (hw : ty_wr W q (bif ty_ar q then 0 else j) = true) :
    hy_H K (h.set q (tag, vs.set j x)) ∧ ty_F W h0 (h.set q (tag, vs.set j x)) ∧ ty_F W h (h.set q (tag, vs.set j x)) ∧ ∀ q' j', ty_fd (h.set q (tag, vs.set j x)) q' j' = if q' = q ∧ j' = j then some x else ty_fd h q' j' := by
  have hl : 181 ≤ h.length := hH.1
  have hF2 : ty_F W h (h.set q (tag, vs.set j x)) := by
    cases ha : ty_ar q with
    | true => rw [ha] at hw; exact ty_F.setA hq hl hg ht ha hw
    | false => rw [ha] at hw; exact ty_F.set hq hl hg ht hw
  refine ⟨ty_H.set hH hq hg (fun _ _ _ _ => Or.inr (Or.inl rfl)) (by rw [hy_lk]; exact hx) (fun _ => hx) (fun j' => hy_ps j'), ty_F.trans hF hF2, hF2, fun q' j' => ?_⟩
  rw [ty_fd_set (by omega)]
  by_cases e : q' = q
  · subst e
    rw [if_pos rfl]
    by_cases e2 : j' = j
    · subst e2
      rw [if_pos ⟨rfl, rfl⟩]
      exact List.getElem?_set_self hj
    · rw [if_neg (fun c => e2 c.2), List.getElem?_set_ne (Ne.symm e2)]
      unfold ty_fd
      rw [hg]
      rfl
  · rw [if_neg e, if_neg (fun c => e c.1)]
end HY
section HYR
variable {l : Launch} {d i pc : Nat} {P : ax_P} {X : ax_PX} {lv : List (Nat × Value)} {st : List Value} {h h0 : ax_H} {bc bs : Nat} {K : Int} {W q n : Nat} {a z : Int} {ix t0 f c : Nat} {v : Value} {ws : List Nat}
theorem AR.gx {vs : List Value} {x : Value} (hl : ax_look i pc = some (.getfield ix, (t0, f, c), v, ws)) (h9 : t0 ≠ 900) (hq : q < 1000000000) (hg : h[q]? = some (t0, vs)) (hv : vs[f]? = some x) (k : AR ax_ns l (ax_mm i) d ty_R P X (pc + 3) lv (x :: st) h bc bs) : AR ax_ns l (ax_mm i) d ty_R P X pc lv (.ref q :: st) h bc bs := by
  refine AR.s _ rfl hl ?_ k
  have hn : ¬ (t0 = 900 ∨ ¬ True) := fun e => e.elim h9 (fun e2 => e2 trivial)
  simp only [ax_one, ax_get_lt hq, hg, hv]
  rw [if_neg hn]
  rfl
theorem AR.px {vs : List Value} {x : Value} {cl : ax_Cl} (hl : ax_look i pc = some (.putfield ix, (t0, f, c), v, ws)) (h9 : t0 ≠ 900) (hq : q < 1000000000) (hg : h[q]? = some (t0, vs)) (hc : ax_cls[t0]? = some cl) (hn : vs.length = cl.2.2.1) (hf : ax_fit (cl.2.2.2 f) x = true) (k : AR ax_ns l (ax_mm i) d ty_R P X (pc + 3) lv st (h.set q (t0, vs.set f x)) bc bs) : AR ax_ns l (ax_mm i) d ty_R P X pc lv (x :: .ref q :: st) h bc bs := by
  refine AR.s _ rfl hl ?_ k
  have hn : ¬ (t0 = 900 ∨ ¬ True ∨ ¬ q < 1000000000 ∨ ¬ vs.length = cl.2.2.1 ∨ ax_fit (cl.2.2.2 f) x = false) := by
    rintro (e | e | e | e | e)
    · exact h9 e
    · exact e trivial
    · exact e hq
    · exact e hn
    · rw [hf] at e; cases e
  simp only [ax_one, hg, hc, ax_hs_eq]
  rw [if_neg hn]
  rfl
theorem AR.iax {j : Int32} {vs : List Value} {x : Value} {w : Nat × Nat × Nat} (hl : ax_look i pc = some (.iaload, w, v, ws)) (hq : q < 1000000000) (hg : h[q]? = some (100, vs)) (h0 : ¬ j < 0) (hv : vs[j.toNatClampNeg]? = some x) (k : AR ax_ns l (ax_mm i) d ty_R P X (pc + 1) lv (x :: st) h bc bs) : AR ax_ns l (ax_mm i) d ty_R P X pc lv (.int j :: .ref q :: st) h bc bs := by
  refine AR.s _ rfl hl ?_ k
  simp only [ax_one, ax_get_lt hq, hg, if_neg h0, hv]
  rfl
theorem AR.lax {j : Int32} {vs : List Value} {x : Value} {w : Nat × Nat × Nat} (hl : ax_look i pc = some (.laload, w, v, ws)) (hq : q < 1000000000) (hg : h[q]? = some (101, vs)) (h0 : ¬ j < 0) (hv : vs[j.toNatClampNeg]? = some x) (k : AR ax_ns l (ax_mm i) d ty_R P X (pc + 1) lv (x :: st) h bc bs) : AR ax_ns l (ax_mm i) d ty_R P X pc lv (.int j :: .ref q :: st) h bc bs := by
  refine AR.s _ rfl hl ?_ k
  simp only [ax_one, ax_get_lt hq, hg, if_neg h0, hv]
  rfl
theorem AR.isx {j : Int32} {vs : List Value} {x : Value} {w : Nat × Nat × Nat} (hl : ax_look i pc = some (.iastore, w, v, ws)) (hq : q < 1000000000) (hg : h[q]? = some (100, vs)) (h0 : ¬ j < 0) (hv : j.toNatClampNeg < vs.length) (hx : ax_isI x = true) (k : AR ax_ns l (ax_mm i) d ty_R P X (pc + 1) lv st (h.set q (100, vs.set j.toNatClampNeg x)) bc bs) : AR ax_ns l (ax_mm i) d ty_R P X pc lv (x :: .int j :: .ref q :: st) h bc bs := by
  refine AR.s _ rfl hl ?_ k
  have hc : ¬ j < 0 ∧ j.toNatClampNeg < vs.length ∧ q < 1000000000 ∧ ax_isI x = true := ⟨h0, hv, hq, hx⟩
  simp only [ax_one, hg, if_pos hc, ax_hs_eq]
  rfl
theorem AR.lsx {j : Int32} {vs : List Value} {x : Value} {w : Nat × Nat × Nat} (hl : ax_look i pc = some (.lastore, w, v, ws)) (hq : q < 1000000000) (hg : h[q]? = some (101, vs)) (h0 : ¬ j < 0) (hv : j.toNatClampNeg < vs.length) (hx : ax_isL x = true) (k : AR ax_ns l (ax_mm i) d ty_R P X (pc + 1) lv st (h.set q (101, vs.set j.toNatClampNeg x)) bc bs) : AR ax_ns l (ax_mm i) d ty_R P X pc lv (x :: .int j :: .ref q :: st) h bc bs := by
  refine AR.s _ rfl hl ?_ k
  have hc : ¬ j < 0 ∧ j.toNatClampNeg < vs.length ∧ q < 1000000000 ∧ ax_isL x = true := ⟨h0, hv, hq, hx⟩
  simp only [ax_one, hg, if_pos hc, ax_hs_eq]
  rfl
theorem hy_nn {j : Int32} (hj : 0 ≤ j.toInt) : ¬ j < 0 ∧ (j.toNatClampNeg : Int) = j.toInt := by
  refine ⟨fun e => ?_, ?_⟩
  · rw [Int32.lt_iff_toInt_lt] at e
    have : (0 : Int32).toInt = 0 := rfl
    omega
  · show ((j.toInt.toNat : Nat) : Int) = j.toInt
    omega
/-- an int field -/
theorem AR.gI (hl : ax_look i pc = some (.getfield ix, (t0, f, c), v, ws)) (h9 : t0 ≠ 900) (hH : hy_H K h) (hq : q < 181) (ht : (ty_tab q).1 = t0) (hn : (ty_tab q).2.1 = n) (hf : f < n) (hy : ty_tt q f = (0, 0, 0, a, z)) (k : ∀ x : Int32, ty_fd h q f = some (.int x) → a ≤ x.toInt → x.toInt ≤ z → AR ax_ns l (ax_mm i) d ty_R P X (pc + 3) lv (.int x :: st) h bc bs) : AR ax_ns l (ax_mm i) d ty_R P X pc lv (.ref q :: st) h bc bs := by
  obtain ⟨x, vs, e1, e2, e3, e4, e5⟩ := hy_at hH hq hn hf
  rw [hy] at e5
  obtain ⟨x, rfl, h1, h2, -⟩ := e5
  rw [ht] at e1
  exact AR.gx hl h9 (by omega) e1 e3 (k x e4 h1 h2)
theorem AR.gL (hl : ax_look i pc = some (.getfield ix, (t0, f, c), v, ws)) (h9 : t0 ≠ 900) (hH : hy_H K h) (hq : q < 181) (ht : (ty_tab q).1 = t0) (hn : (ty_tab q).2.1 = n) (hf : f < n) (hy : ty_tt q f = (1, 0, 0, a, z)) (k : ∀ x : Int64, ty_fd h q f = some (.long x) → a ≤ x.toInt → x.toInt ≤ z → AR ax_ns l (ax_mm i) d ty_R P X (pc + 3) lv (.long x :: st) h bc bs) : AR ax_ns l (ax_mm i) d ty_R P X pc lv (.ref q :: st) h bc bs := by
  obtain ⟨x, vs, e1, e2, e3, e4, e5⟩ := hy_at hH hq hn hf
  rw [hy] at e5
  obtain ⟨x, rfl, h1, h2, -⟩ := e5
  rw [ht] at e1
  exact AR.gx hl h9 (by omega) e1 e3 (k x e4 h1 h2)
theorem AR.gR {p : Nat} {y : Int × Int × Int} (hl : ax_look i pc = some (.getfield ix, (t0, f, c), v, ws)) (h9 : t0 ≠ 900) (hH : hy_H K h) (hq : q < 181) (ht : (ty_tab q).1 = t0) (hn : (ty_tab q).2.1 = n) (hf : f < n) (hy : ty_tt q f = (2, p, y)) (k : AR ax_ns l (ax_mm i) d ty_R P X (pc + 3) lv (.ref p :: st) h bc bs) : AR ax_ns l (ax_mm i) d ty_R P X pc lv (.ref q :: st) h bc bs := by
  obtain ⟨x, vs, e1, e2, e3, e4, e5⟩ := hy_at hH hq hn hf
  rw [hy] at e5
  cases (show x = .ref p from e5)
  rw [ht] at e1
  exact AR.gx hl h9 (by omega) e1 e3 k
theorem AR.iaI {j : Int32} {w : Nat × Nat × Nat} (hl : ax_look i pc = some (.iaload, w, v, ws)) (hH : hy_H K h) (hq : q < 181) (ht : (ty_tab q).1 = 100) (ha : ty_ar q = true) (hn : (ty_tab q).2.1 = n) (hy : ty_tt q 0 = (0, 0, 0, a, z)) (h0 : 0 ≤ j.toInt) (h1 : j.toInt < n) (k : ∀ x : Int32, ty_fd h q j.toNatClampNeg = some (.int x) → a ≤ x.toInt → x.toInt ≤ z → AR ax_ns l (ax_mm i) d ty_R P X (pc + 1) lv (.int x :: st) h bc bs) : AR ax_ns l (ax_mm i) d ty_R P X pc lv (.int j :: .ref q :: st) h bc bs := by
  obtain ⟨n1, n2⟩ := hy_nn h0
  obtain ⟨x, vs, e1, e2, e3, e4, e5⟩ := hy_at (j := j.toNatClampNeg) hH hq hn (by omega)
  rw [ty_tt_ar ha, hy] at e5
  obtain ⟨x, rfl, h1, h2, -⟩ := e5
  rw [ht] at e1
  exact AR.iax hl (by omega) e1 n1 e3 (k x e4 h1 h2)
theorem AR.laI {j : Int32} {w : Nat × Nat × Nat} (hl : ax_look i pc = some (.laload, w, v, ws)) (hH : hy_H K h) (hq : q < 181) (ht : (ty_tab q).1 = 101) (ha : ty_ar q = true) (hn : (ty_tab q).2.1 = n) (hy : ty_tt q 0 = (1, 0, 0, a, z)) (h0 : 0 ≤ j.toInt) (h1 : j.toInt < n) (k : ∀ x : Int64, ty_fd h q j.toNatClampNeg = some (.long x) → a ≤ x.toInt → x.toInt ≤ z → AR ax_ns l (ax_mm i) d ty_R P X (pc + 1) lv (.long x :: st) h bc bs) : AR ax_ns l (ax_mm i) d ty_R P X pc lv (.int j :: .ref q :: st) h bc bs := by
  obtain ⟨n1, n2⟩ := hy_nn h0
  obtain ⟨x, vs, e1, e2, e3, e4, e5⟩ := hy_at (j := j.toNatClampNeg) hH hq hn (by omega)
  rw [ty_tt_ar ha, hy] at e5
  obtain ⟨x, rfl, h1, h2, -⟩ := e5
  rw [ht] at e1
  exact AR.lax hl (by omega) e1 n1 e3 (k x e4 h1 h2)
/-- what is known behind a store -/
def hy_S (K : Int) (W : Nat) (h0 h : ax_H) (q j : Nat) (x : Value) (h' : ax_H) : Prop := hy_H K h' ∧ ty_F W h0 h' ∧ ty_F W h h' ∧ ∀ q' j', ty_fd h' q' j' = if q' = q ∧ j' = j then some x else ty_fd h q' j'
theorem AR.pT {x : Value} {cl : ax_Cl} (hl : ax_look i pc = some (.putfield ix, (t0, f, c), v, ws)) (h9 : t0 < 100) (hH : hy_H K h) (hF : ty_F W h0 h) (hq : q < 181) (ht : (ty_tab q).1 = t0) (hc : ax_cls[t0]? = some cl) (hn : (ty_tab q).2.1 = cl.2.2.1) (hf : f < cl.2.2.1) (hfit : ax_fit (cl.2.2.2 f) x = true) (hx : ty_r ty_z 0 h (ty_tt q f) x) (ha : ty_ar q = false) (hw : ty_wr W q f = true) (k : ∀ h', hy_S K W h0 h q f x h' → AR ax_ns l (ax_mm i) d ty_R P X (pc + 3) lv st h' bc bs) : AR ax_ns l (ax_mm i) d ty_R P X pc lv (x :: .ref q :: st) h bc bs := by
  obtain ⟨vs, e1, e2, -⟩ := hy_cell hH hq
  rw [ht] at e1
  exact AR.px hl (by omega) (by omega) e1 hc (by omega) hfit (k _ (hy_put hH hF hq e1 (by omega) (by omega) hx (by rw [ha]; exact hw)))
theorem AR.isT {j x : Int32} {w : Nat × Nat × Nat} (hl : ax_look i pc = some (.iastore, w, v, ws)) (hH : hy_H K h) (hF : ty_F W h0 h) (hq : q < 181) (ht : (ty_tab q).1 = 100) (ha : ty_ar q = true) (hn : (ty_tab q).2.1 = n) (hy : ty_tt q 0 = (0, 0, 0, a, z)) (hj0 : 0 ≤ j.toInt) (hj1 : j.toInt < n) (hx0 : a ≤ x.toInt) (hx1 : x.toInt ≤ z) (hw : ty_wr W q 0 = true) (k : ∀ h', hy_S K W h0 h q j.toNatClampNeg (.int x) h' → AR ax_ns l (ax_mm i) d ty_R P X (pc + 1) lv st h' bc bs) : AR ax_ns l (ax_mm i) d ty_R P X pc lv (.int x :: .int j :: .ref q :: st) h bc bs := by
  obtain ⟨n1, n2⟩ := hy_nn hj0
  obtain ⟨vs, e1, e2, -⟩ := hy_cell hH hq
  rw [ht] at e1
  exact AR.isx hl (by omega) e1 n1 (by omega) rfl (k _ (hy_put hH hF hq e1 (by decide) (by omega) (by rw [ty_tt_ar ha, hy]; exact ⟨x, rfl, hx0, hx1, Or.inl rfl⟩) (by rw [ha]; exact hw)))
theorem AR.lsT {j : Int32} {x : Int64} {w : Nat × Nat × Nat} (hl : ax_look i pc = some (.lastore, w, v, ws)) (hH : hy_H K h) (hF : ty_F W h0 h) (hq : q < 181) (ht : (ty_tab q).1 = 101) (ha : ty_ar q = true) (hn : (ty_tab q).2.1 = n) (hy : ty_tt q 0 = (1, 0, 0, a, z)) (hj0 : 0 ≤ j.toInt) (hj1 : j.toInt < n) (hx0 : a ≤ x.toInt) (hx1 : x.toInt ≤ z) (hw : ty_wr W q 0 = true) (k : ∀ h', hy_S K W h0 h q j.toNatClampNeg (.long x) h' → AR ax_ns l (ax_mm i) d ty_R P X (pc + 1) lv st h' bc bs) : AR ax_ns l (ax_mm i) d ty_R P X pc lv (.long x :: .int j :: .ref q :: st) h bc bs := by
  obtain ⟨n1, n2⟩ := hy_nn hj0
  obtain ⟨vs, e1, e2, -⟩ := hy_cell hH hq
  rw [ht] at e1
  exact AR.lsx hl (by omega) e1 n1 (by omega) rfl (k _ (hy_put hH hF hq e1 (by decide) (by omega) (by rw [ty_tt_ar ha, hy]; exact ⟨x, rfl, hx0, hx1, Or.inl rfl⟩) (by rw [ha]; exact hw)))
end HYR
section HYA
variable {l : Launch} {d i pc : Nat} {P : ax_P} {X : ax_PX} {lv : List (Nat × Value)} {st : List Value} {h h0 : ax_H} {bc bs : Nat} {x y : Int32} {v : Value} {ws : List Nat} {w : Nat × Nat × Nat}
theorem hy_bm {a : Int} (h1 : -2147483648 ≤ a) (h2 : a ≤ 2147483647) : a.bmod (2 ^ 32) = a := Int.bmod_eq_of_le (by omega) (by omega)
theorem AR.addT (hl : ax_look i pc = some (.iadd, w, v, ws)) (h1 : -2147483648 ≤ x.toInt + y.toInt) (h2 : x.toInt + y.toInt ≤ 2147483647) (k : ∀ z : Int32, z.toInt = x.toInt + y.toInt → AR ax_ns l (ax_mm i) d ty_R P X (pc + 1) lv (.int z :: st) h bc bs) : AR ax_ns l (ax_mm i) d ty_R P X pc lv (.int y :: .int x :: st) h bc bs :=
  AR.s _ rfl hl rfl (k (x + y) (by rw [Int32.toInt_add]; exact hy_bm h1 h2))
theorem AR.subT (hl : ax_look i pc = some (.isub, w, v, ws)) (h1 : -2147483648 ≤ x.toInt - y.toInt) (h2 : x.toInt - y.toInt ≤ 2147483647) (k : ∀ z : Int32, z.toInt = x.toInt - y.toInt → AR ax_ns l (ax_mm i) d ty_R P X (pc + 1) lv (.int z :: st) h bc bs) : AR ax_ns l (ax_mm i) d ty_R P X pc lv (.int y :: .int x :: st) h bc bs :=
  AR.s _ rfl hl rfl (k (x - y) (by rw [Int32.toInt_sub]; exact hy_bm h1 h2))
theorem AR.mulT (hl : ax_look i pc = some (.imul, w, v, ws)) (h1 : -2147483648 ≤ x.toInt * y.toInt) (h2 : x.toInt * y.toInt ≤ 2147483647) (k : ∀ z : Int32, z.toInt = x.toInt * y.toInt → AR ax_ns l (ax_mm i) d ty_R P X (pc + 1) lv (.int z :: st) h bc bs) : AR ax_ns l (ax_mm i) d ty_R P X pc lv (.int y :: .int x :: st) h bc bs :=
  AR.s _ rfl hl rfl (k (x * y) (by rw [Int32.toInt_mul]; exact hy_bm h1 h2))
theorem hy_ne0 {y : Int32} (hy : y.toInt = 2) : ¬ y = 0 := fun e => by
  rw [e] at hy
  exact absurd hy (by decide)
theorem hy_hf {x y : Int32} (hy : y.toInt = 2) (hx : 0 ≤ x.toInt) : (x / y).toInt = x.toInt / 2 := by
  have h1 : (x / y).toInt = x.toInt.tdiv y.toInt := Int32.toInt_div_of_ne_right _ _ (fun e => by
    rw [e] at hy
    exact absurd hy (by decide))
  rw [h1, hy, Int.tdiv_eq_ediv_of_nonneg hx]
theorem AR.halfT (hl : ax_look i pc = some (.idiv, w, v, ws)) (hy : y.toInt = 2) (hx : 0 ≤ x.toInt) (k : ∀ z : Int32, z.toInt = x.toInt / 2 → AR ax_ns l (ax_mm i) d ty_R P X (pc + 1) lv (.int z :: st) h bc bs) : AR ax_ns l (ax_mm i) d ty_R P X pc lv (.int y :: .int x :: st) h bc bs :=
  AR.s (pc' := pc + 1) (lv' := lv) (st' := .int (x / y) :: st) (h' := h) _ rfl hl (by simp only [ax_one, ax_d2, if_neg (hy_ne0 hy), ax_b2]; rfl) (k (x / y) (hy_hf hy hx))
theorem AR.parT (hl : ax_look i pc = some (.irem, w, v, ws)) (hy : y.toInt = 2) (hx : 0 ≤ x.toInt) (k : ∀ z : Int32, z.toInt = x.toInt % 2 → AR ax_ns l (ax_mm i) d ty_R P X (pc + 1) lv (.int z :: st) h bc bs) : AR ax_ns l (ax_mm i) d ty_R P X pc lv (.int y :: .int x :: st) h bc bs := by
  refine AR.s (pc' := pc + 1) (lv' := lv) (st' := .int (x - x / y * y) :: st) (h' := h) _ rfl hl (by simp only [ax_one, ax_d2, if_neg (hy_ne0 hy), ax_b2]; rfl) (k _ ?_)
  have h1 := hy_hf hy hx
  have h2 := Int32.toInt_lt x
  rw [Int32.toInt_sub, Int32.toInt_mul, h1, hy, hy_bm (a := x.toInt / 2 * 2) (by omega) (by omega), hy_bm (by omega) (by omega)]
  omega
theorem AR.iconstT {n : Int} (hl : ax_look i pc = some (.iconst n, w, v, ws)) (hn : (Int32.ofInt n).toInt = n) (k : ∀ z : Int32, z.toInt = n → AR ax_ns l (ax_mm i) d ty_R P X (pc + 1) lv (.int z :: st) h bc bs) : AR ax_ns l (ax_mm i) d ty_R P X pc lv st h bc bs := AR.s _ rfl hl rfl (k _ hn)
theorem AR.bipushT {n : Int} (hl : ax_look i pc = some (.bipush n, w, v, ws)) (hn : (Int8.ofInt n).toInt32.toInt = n) (k : ∀ z : Int32, z.toInt = n → AR ax_ns l (ax_mm i) d ty_R P X (pc + 2) lv (.int z :: st) h bc bs) : AR ax_ns l (ax_mm i) d ty_R P X pc lv st h bc bs := AR.s _ rfl hl rfl (k _ hn)
theorem AR.iincT {j : Nat} {n : Int} (hl : ax_look i pc = some (.iinc j n, w, v, ws)) (hj : ax_at lv j = some (.int x)) (hm : j < (ax_mm i).2.2.1) (hn : (Int32.ofInt n).toInt = n) (h1 : -2147483648 ≤ x.toInt + n) (h2 : x.toInt + n ≤ 2147483647) (k : ∀ z : Int32, z.toInt = x.toInt + n → AR ax_ns l (ax_mm i) d ty_R P X (pc + 3) (ax_s1 j (.int z) lv) st h bc bs) : AR ax_ns l (ax_mm i) d ty_R P X pc lv st h bc bs := by
  refine AR.s (pc' := pc + 3) (lv' := ax_s1 j (.int (x + Int32.ofInt n)) lv) (st' := st) (h' := h) _ rfl hl ?_ (k _ ?_)
  · simp only [ax_one, hj, ax_b2, if_pos hm, ax_fv_eq, ax_fl1_eq]
    rfl
  · rw [Int32.toInt_add, hn]
    exact hy_bm h1 h2
variable {off : Int} {tgt : Nat}
theorem hy0 : (0 : Int32).toInt = 0 := rfl
theorem AR.jge (hl : ax_look i pc = some (.if_icmp .ge off, w, v, ws)) (ht : (pc : Int) + off = (tgt : Int)) (kt : y.toInt ≤ x.toInt → AR ax_ns l (ax_mm i) d ty_R P X tgt lv st h bc bs) (kf : x.toInt < y.toInt → AR ax_ns l (ax_mm i) d ty_R P X (pc + 3) lv st h bc bs) : AR ax_ns l (ax_mm i) d ty_R P X pc lv (.int y :: .int x :: st) h bc bs :=
  AR.icmp_ge (ax_look_ok hl).1 ht (fun e => kt (Int32.le_iff_toInt_le.mp e)) (fun e => kf (Int.not_le.mp (fun z => e (Int32.le_iff_toInt_le.mpr z))))
theorem AR.jgt (hl : ax_look i pc = some (.if_icmp .gt off, w, v, ws)) (ht : (pc : Int) + off = (tgt : Int)) (kt : y.toInt < x.toInt → AR ax_ns l (ax_mm i) d ty_R P X tgt lv st h bc bs) (kf : x.toInt ≤ y.toInt → AR ax_ns l (ax_mm i) d ty_R P X (pc + 3) lv st h bc bs) : AR ax_ns l (ax_mm i) d ty_R P X pc lv (.int y :: .int x :: st) h bc bs :=
  AR.icmp_gt (ax_look_ok hl).1 ht (fun e => kt (Int32.lt_iff_toInt_lt.mp e)) (fun e => kf (Int.not_lt.mp (fun z => e (Int32.lt_iff_toInt_lt.mpr z))))
theorem AR.jle (hl : ax_look i pc = some (.if_icmp .le off, w, v, ws)) (ht : (pc : Int) + off = (tgt : Int)) (kt : x.toInt ≤ y.toInt → AR ax_ns l (ax_mm i) d ty_R P X tgt lv st h bc bs) (kf : y.toInt < x.toInt → AR ax_ns l (ax_mm i) d ty_R P X (pc + 3) lv st h bc bs) : AR ax_ns l (ax_mm i) d ty_R P X pc lv (.int y :: .int x :: st) h bc bs :=
  AR.icmp_le (ax_look_ok hl).1 ht (fun e => kt (Int32.le_iff_toInt_le.mp e)) (fun e => kf (Int.not_le.mp (fun z => e (Int32.le_iff_toInt_le.mpr z))))
theorem AR.jne (hl : ax_look i pc = some (.if_icmp .ne off, w, v, ws)) (ht : (pc : Int) + off = (tgt : Int)) (kt : x.toInt ≠ y.toInt → AR ax_ns l (ax_mm i) d ty_R P X tgt lv st h bc bs) (kf : x.toInt = y.toInt → AR ax_ns l (ax_mm i) d ty_R P X (pc + 3) lv st h bc bs) : AR ax_ns l (ax_mm i) d ty_R P X pc lv (.int y :: .int x :: st) h bc bs :=
  AR.icmp_ne (ax_look_ok hl).1 ht (fun e => kt (fun z => e (Int32.toInt_inj.mp z))) (fun e => kf (by rw [e]))
theorem AR.zeq (hl : ax_look i pc = some (.ifCond .eq off, w, v, ws)) (ht : (pc : Int) + off = (tgt : Int)) (kt : x.toInt = 0 → AR ax_ns l (ax_mm i) d ty_R P X tgt lv st h bc bs) (kf : x.toInt ≠ 0 → AR ax_ns l (ax_mm i) d ty_R P X (pc + 3) lv st h bc bs) : AR ax_ns l (ax_mm i) d ty_R P X pc lv (.int x :: st) h bc bs :=
  AR.if_eq (ax_look_ok hl).1 ht (fun e => kt (by rw [e]; rfl)) (fun e => kf (fun z => e (Int32.toInt_inj.mp (by rw [z]; rfl))))
theorem AR.zne (hl : ax_look i pc = some (.ifCond .ne off, w, v, ws)) (ht : (pc : Int) + off = (tgt : Int)) (kt : x.toInt ≠ 0 → AR ax_ns l (ax_mm i) d ty_R P X tgt lv st h bc bs) (kf : x.toInt = 0 → AR ax_ns l (ax_mm i) d ty_R P X (pc + 3) lv st h bc bs) : AR ax_ns l (ax_mm i) d ty_R P X pc lv (.int x :: st) h bc bs :=
  AR.if_ne (ax_look_ok hl).1 ht (fun e => kt (fun z => e (Int32.toInt_inj.mp (by rw [z]; rfl)))) (fun e => kf (by rw [e]; rfl))
theorem AR.zge (hl : ax_look i pc = some (.ifCond .ge off, w, v, ws)) (ht : (pc : Int) + off = (tgt : Int)) (kt : 0 ≤ x.toInt → AR ax_ns l (ax_mm i) d ty_R P X tgt lv st h bc bs) (kf : x.toInt < 0 → AR ax_ns l (ax_mm i) d ty_R P X (pc + 3) lv st h bc bs) : AR ax_ns l (ax_mm i) d ty_R P X pc lv (.int x :: st) h bc bs :=
  AR.if_ge (ax_look_ok hl).1 ht (fun e => kt (by have := Int32.le_iff_toInt_le.mp e; rwa [hy0] at this)) (fun e => kf (Int.not_le.mp (fun z => e (Int32.le_iff_toInt_le.mpr (by rw [hy0]; exact z)))))
theorem AR.zlt (hl : ax_look i pc = some (.ifCond .lt off, w, v, ws)) (ht : (pc : Int) + off = (tgt : Int)) (kt : x.toInt < 0 → AR ax_ns l (ax_mm i) d ty_R P X tgt lv st h bc bs) (kf : 0 ≤ x.toInt → AR ax_ns l (ax_mm i) d ty_R P X (pc + 3) lv st h bc bs) : AR ax_ns l (ax_mm i) d ty_R P X pc lv (.int x :: st) h bc bs :=
  AR.if_lt (ax_look_ok hl).1 ht (fun e => kt (by have := Int32.lt_iff_toInt_lt.mp e; rwa [hy0] at this)) (fun e => kf (Int.not_lt.mp (fun z => e (Int32.lt_iff_toInt_lt.mpr (by rw [hy0]; exact z)))))
theorem AR.zle (hl : ax_look i pc = some (.ifCond .le off, w, v, ws)) (ht : (pc : Int) + off = (tgt : Int)) (kt : x.toInt ≤ 0 → AR ax_ns l (ax_mm i) d ty_R P X tgt lv st h bc bs) (kf : 0 < x.toInt → AR ax_ns l (ax_mm i) d ty_R P X (pc + 3) lv st h bc bs) : AR ax_ns l (ax_mm i) d ty_R P X pc lv (.int x :: st) h bc bs :=
  AR.if_le (ax_look_ok hl).1 ht (fun e => kt (by have := Int32.le_iff_toInt_le.mp e; rwa [hy0] at this)) (fun e => kf (Int.not_le.mp (fun z => e (Int32.le_iff_toInt_le.mpr (by rw [hy0]; exact z)))))
theorem AR.zgt (hl : ax_look i pc = some (.ifCond .gt off, w, v, ws)) (ht : (pc : Int) + off = (tgt : Int)) (kt : 0 < x.toInt → AR ax_ns l (ax_mm i) d ty_R P X tgt lv st h bc bs) (kf : x.toInt ≤ 0 → AR ax_ns l (ax_mm i) d ty_R P X (pc + 3) lv st h bc bs) : AR ax_ns l (ax_mm i) d ty_R P X pc lv (.int x :: st) h bc bs :=
  AR.if_gt (ax_look_ok hl).1 ht (fun e => kt (by have := Int32.lt_iff_toInt_lt.mp e; rwa [hy0] at this)) (fun e => kf (Int.not_lt.mp (fun z => e (Int32.lt_iff_toInt_lt.mpr (by rw [hy0]; exact z)))))
theorem AR.gotoT (hl : ax_look i pc = some (.goto off, w, v, ws)) (ht : (pc : Int) + off = (tgt : Int)) (k : AR ax_ns l (ax_mm i) d ty_R P X tgt lv st h bc bs) : AR ax_ns l (ax_mm i) d ty_R P X pc lv st h bc bs := AR.goto (ax_look_ok hl).1 ht k
theorem AR.lcmpT {x y : Int64} (hl : ax_look i pc = some (.lcmp, w, v, ws)) (k : ∀ z : Int32, (x.toInt < y.toInt → z.toInt = -1) ∧ (x.toInt = y.toInt → z.toInt = 0) ∧ (y.toInt < x.toInt → z.toInt = 1) → AR ax_ns l (ax_mm i) d ty_R P X (pc + 1) lv (.int z :: st) h bc bs) : AR ax_ns l (ax_mm i) d ty_R P X pc lv (.long y :: .long x :: st) h bc bs := by
  obtain ⟨c1, c2, c3⟩ := @ty_cmp x y
  refine AR.s _ rfl hl rfl (k _ ⟨fun e => ?_, fun e => ?_, fun e => ?_⟩)
  · rw [c1 e]; rfl
  · rw [c2 e]; rfl
  · rw [c3 e]; rfl
theorem AR.lconstT {n : Fin 2} (hl : ax_look i pc = some (.lconst n, w, v, ws)) (k : ∀ z : Int64, z.toInt = (n : Nat) → AR ax_ns l (ax_mm i) d ty_R P X (pc + 1) lv (.long z :: st) h bc bs) : AR ax_ns l (ax_mm i) d ty_R P X pc lv st h bc bs := AR.s _ rfl hl rfl (k _ (by match n with | 0 => rfl | 1 => rfl))
end HYA
def hy_z (h : ax_H) (q j : Nat) : Int := match ty_fd h q j with
  | some (.int i) => i.toInt
  | some (.long i) => i.toInt
  | _ => 0
theorem hy_zi {h : ax_H} {q j : Nat} {i : Int32} (e : ty_fd h q j = some (.int i)) : hy_z h q j = i.toInt := by simp only [hy_z, e]
theorem hy_zl {h : ax_H} {q j : Nat} {i : Int64} (e : ty_fd h q j = some (.long i)) : hy_z h q j = i.toInt := by simp only [hy_z, e]
theorem hy_ze {h h' : ax_H} {q j : Nat} (e : ty_fd h' q j = ty_fd h q j) : hy_z h' q j = hy_z h q j := by simp only [hy_z, e]
section HYC
variable {l : Launch} {d i pc : Nat} {P : ax_P} {X : ax_PX} {lv : List (Nat × Value)} {st as rest : List Value} {h : ax_H} {bc bs a b ix dy mc ms : Nat} {Q : ax_Q} {v : Value} {ws : List Nat} {w : Nat × Nat × Nat} {K : Int}
theorem hy_drop {as rest : List Value} (x : Value) (hb : as.length = b) : (as.reverse ++ x :: rest).drop b = x :: rest ∧ ((as.reverse ++ x :: rest).take b).reverse = as ∧ b ≤ (as.reverse ++ x :: rest).length := by
  have e : as.reverse.length = b := by rw [List.length_reverse]; exact hb
  refine ⟨?_, ?_, ?_⟩
  · rw [List.drop_left' e]
  · rw [List.take_left' e, List.reverse_reverse]
  · rw [List.length_append]
    omega
theorem AR.cs (hl : ax_look i pc = some (.invokestatic ix, (a, b, 0), v, ws)) (hm : ax_has a = true ∧ ax_st a = true) (hst : st = as.reverse ++ rest) (hb : as.length = b) (hcat : (rest.map fun v => v.category).sum ≤ 8) (hM : AM ax_ns l (ax_mm a) dy ty_R mc ms as h Q) (hdy : dy + 1 ≤ d) (hmc : mc ≤ bc) (hms : ms ≤ bs) (hno : ∀ E h', ¬ Q (.inr E) h')
    (k : ∀ x h', Q (.inl x) h' → AR ax_ns l (ax_mm i) d ty_R P X (pc + 3) lv (x.toList ++ rest) h' (bc - mc) (bs - ms)) : AR ax_ns l (ax_mm i) d ty_R P X pc lv st h bc bs := by
  have e : as.reverse.length = b := by rw [List.length_reverse]; exact hb
  refine AR.call hl (as := as) (rest := rest) ?_ hM hdy hmc hms k (fun E h' q => absurd q (hno E h'))
  subst hst
  have d1 : (as.reverse ++ rest).drop b = rest := List.drop_left' e
  have d2 : ((as.reverse ++ rest).take b).reverse = as := by rw [List.take_left' e, List.reverse_reverse]
  have hc : ax_has a = true ∧ ax_st a = true ∧ b ≤ (as.reverse ++ rest).length ∧ (rest.map fun v => v.category).sum ≤ 8 := ⟨hm.1, hm.2, by rw [List.length_append]; omega, hcat⟩
  simp only [ax_arg, d1, d2]
  rw [if_pos hc]
theorem AR.iret {x : Int32} (hl : ax_look i pc = some (.ireturn, w, v, ws)) (ht : (ax_mm i).2.2.2.1 = some .int) (hq : Q (.inl (some (.int x))) h) : AR ax_ns l (ax_mm i) d ty_R (ax_ret ax_ns (ax_mm i) Q) X pc lv [.int x] h bc bs :=
  AR.at (Or.inl ⟨_, rfl, rfl, (ax_look_ok hl).1, ht, hq⟩)
theorem AR.zret {x : Int32} (hl : ax_look i pc = some (.ireturn, w, v, ws)) (ht : (ax_mm i).2.2.2.1 = some .boolean) (hx : x.toInt = 0 ∨ x.toInt = 1) (hq : Q (.inl (some (.int x))) h) : AR ax_ns l (ax_mm i) d ty_R (ax_ret ax_ns (ax_mm i) Q) X pc lv [.int x] h bc bs := by
  refine AR.at (Or.inr (Or.inl ⟨_, .boolean, rfl, ?_, rfl, (ax_look_ok hl).1, ht, hq⟩))
  have e : x = 0 ∨ x = 1 := hx.imp (fun e => Int32.toInt_inj.mp (by rw [e]; rfl)) (fun e => Int32.toInt_inj.mp (by rw [e]; rfl))
  rcases e with rfl | rfl <;> rfl
theorem AR.lret {x : Int64} (hl : ax_look i pc = some (.lreturn, w, v, ws)) (ht : (ax_mm i).2.2.2.1 = some .long) (hq : Q (.inl (some (.long x))) h) : AR ax_ns l (ax_mm i) d ty_R (ax_ret ax_ns (ax_mm i) Q) X pc lv [.long x] h bc bs :=
  AR.at (Or.inr (Or.inr (Or.inl ⟨_, rfl, rfl, (ax_look_ok hl).1, ht, hq⟩)))
theorem AR.vret (hl : ax_look i pc = some (.return_, w, v, ws)) (ht : (ax_mm i).2.2.2.1 = none) (hq : Q (.inl none) h) : AR ax_ns l (ax_mm i) d ty_R (ax_ret ax_ns (ax_mm i) Q) X pc lv [] h bc bs :=
  AR.at (Or.inr (Or.inr (Or.inr (Or.inr (Or.inl ⟨rfl, (ax_look_ok hl).1, ht, hq⟩)))))
theorem AR.mulcT {x y : Int32} {c : Int} (hl : ax_look i pc = some (.imul, w, v, ws)) (hx : x.toInt = c) (h1 : -2147483648 ≤ c * y.toInt) (h2 : c * y.toInt ≤ 2147483647) (k : ∀ z : Int32, z.toInt = c * y.toInt → AR ax_ns l (ax_mm i) d ty_R P X (pc + 1) lv (.int z :: st) h bc bs) : AR ax_ns l (ax_mm i) d ty_R P X pc lv (.int y :: .int x :: st) h bc bs := by
  subst hx
  exact AR.mulT hl h1 h2 k
end HYC
theorem hy_fz {x : Int32} (h : 0 ≤ x.toInt ∧ x.toInt ≤ 1) : ax_fit .boolean (.int x) = true := by
  have e : x = 0 ∨ x = 1 := by
    rcases (by omega : x.toInt = 0 ∨ x.toInt = 1) with e | e
    · exact Or.inl (Int32.toInt_inj.mp (by rw [e]; rfl))
    · exact Or.inr (Int32.toInt_inj.mp (by rw [e]; rfl))
  rcases e with rfl | rfl <;> rfl
-- 47zc
/-- keyed cells that W leaves -/
theorem hy_zF {W : Nat} {g g' : ax_H} (F : ty_F W g g') {q : Nat} (j : Nat) (hq : q < 181) (hk : (ty_tab q).2.2.1 ≠ 0) (hw : W.testBit (ty_ky q j) = false) : hy_z g' q j = hy_z g q j := hy_ze (F.2.1 q j hq hk hw)
theorem hy_kA {W q : Nat} (ha : ty_ar q = true) (hw : W.testBit (ty_ky q 0) = false) (j : Nat) : W.testBit (ty_ky q j) = false := by
  unfold ty_ky at hw ⊢
  rw [ha] at hw ⊢
  exact hw
section HM2
variable {l : Launch} {K : Int} {h h0 g : ax_H} {c y : Int32} {cn yn : Nat}
end HM2
-- 47zd
theorem AM.mono {ns : ax_NS} {l : Launch} {k : ax_M} {d : Nat} {r : ax_H} {mc ms : Nat} {as : List Value} {h : ax_H} {Q Q' : ax_Q} (hq : ∀ res h, Q res h → Q' res h) (K : AM ns l k d r mc ms as h Q) : AM ns l k d r mc ms as h Q' := by
  intro D b o
  refine MetFree.mono (K D b o) (fun a U hp => hp) (fun _ _ _ _ _ h9 => h9) (fun a st oc t _ hq9 => ?_)
  rcases hq9 with ⟨⟨v, vc, h', e1, e2, e3, e4, e5⟩, hL⟩ | ⟨q, e, E, ce, L, ⟨h', x1, x2, x3⟩, x4⟩
  · exact Or.inl ⟨⟨v, vc, h', e1, e2, hq _ _ e3, e4, e5⟩, hL⟩
  · exact Or.inr ⟨q, e, E, ce, L, ⟨h', hq _ _ x1, x2, x3⟩, x4⟩
section HM3
variable {l : Launch} {K : Int} {h h0 g g' : ax_H} {c y : Int32} {cn yn W : Nat}
end HM3
-- 47ze
section HM4
variable {l : Launch} {K : Int} {h g : ax_H} {c y : Int32} {cn yn : Nat}
/-- the heap, where the cells of old are as they were -/
theorem hy_far {K : Int} {h h' : ax_H} (hH : hy_H K h) (hL : ty_Lo h h') (hl : 181 ≤ h'.length) (he : ∀ q, q < 181 → h'[q]? = h[q]?) : hy_H K h' := by
  refine ⟨hl, fun q hq => ?_, fun j => hy_ps j⟩
  obtain ⟨vs, e1, e2, e3⟩ := hH.2.1 q hq
  exact ⟨vs, by rw [he q hq]; exact e1, e2, fun j x hx => ⟨(e3 j x hx).1.mv hL, fun hm => ((e3 j x hx).2 hm).mv hL⟩⟩
theorem hy_app (hH : hy_H K h) (gs : ax_H) : hy_H K (h ++ gs) := by
  have hl := hH.1
  exact hy_far hH ty_Lo_push (by rw [List.length_append]; omega) (fun q hq => List.getElem?_append_left (by omega))
theorem hy_setl (h : ax_H) (a b : Nat × List Value) : (h ++ [a]).set h.length b = h ++ [b] := by
  refine List.ext_getElem? (fun j => ?_)
  rcases (by omega : j < h.length ∨ j = h.length ∨ h.length < j) with e | e | e
  · rw [List.getElem?_set_ne (by omega), List.getElem?_append_left e, List.getElem?_append_left e]
  · subst e
    rw [List.getElem?_set_self (by rw [List.length_append]; exact Nat.lt_succ_self _)]
    simp
  · rw [List.getElem?_eq_none (by rw [List.length_set, List.length_append]; exact e), List.getElem?_eq_none (by rw [List.length_append]; exact e)]
theorem hy_getl (h : ax_H) (a : Nat × List Value) : (h ++ [a])[h.length]? = some a := by simp
end HM4
-- 49a
section HJ1
variable {l : Launch} {d i pc : Nat} {P : ax_P} {X : ax_PX} {lv : List (Nat × Value)} {st : List Value} {h h0 : ax_H} {bc bs' : Nat} {v : Value} {ws : List Nat} {w : Nat × Nat × Nat}
theorem hb_shr (x : Int32) : x >>> ((0 : Int32) &&& 31) = x := by
  have : (0 : Int32) &&& 31 = 0 := rfl
  rw [this]
  exact Int32.shiftRight_zero
theorem hb_shl (x : Int32) : x <<< ((0 : Int32) &&& 31) = x := by
  have : (0 : Int32) &&& 31 = 0 := rfl
  rw [this]
  exact Int32.shiftLeft_zero
theorem AR.shrT {x : Int32} (hl : ax_look i pc = some (.ishr, w, v, ws)) (k : AR ax_ns l (ax_mm i) d ty_R P X (pc + 1) lv (.int x :: st) h bc bs') : AR ax_ns l (ax_mm i) d ty_R P X pc lv (.int 0 :: .int x :: st) h bc bs' := by
  refine AR.s (pc' := pc + 1) (lv' := lv) (st' := .int (x >>> ((0 : Int32) &&& 31)) :: st) (h' := h) _ rfl hl rfl ?_
  rw [hb_shr]
  exact k
theorem AR.shlT {x : Int32} (hl : ax_look i pc = some (.ishl, w, v, ws)) (k : AR ax_ns l (ax_mm i) d ty_R P X (pc + 1) lv (.int x :: st) h bc bs') : AR ax_ns l (ax_mm i) d ty_R P X pc lv (.int 0 :: .int x :: st) h bc bs' := by
  refine AR.s (pc' := pc + 1) (lv' := lv) (st' := .int (x <<< ((0 : Int32) &&& 31)) :: st) (h' := h) _ rfl hl rfl ?_
  rw [hb_shl]
  exact k
theorem AR.alx {q t : Nat} {vs : List Value} (hl : ax_look i pc = some (.arraylength, w, v, ws)) (hq : q < 1000000000) (hg : h[q]? = some (103, vs)) (hn : vs.length < 2147483648) (k : ∀ z : Int32, z.toInt = vs.length → AR ax_ns l (ax_mm i) d ty_R P X (pc + 1) lv (.int z :: st) h bc bs') : AR ax_ns l (ax_mm i) d ty_R P X pc lv (.ref q :: st) h bc bs' := by
  refine AR.s (pc' := pc + 1) (lv' := lv) (st' := .int vs.length.toInt32 :: st) (h' := h) _ rfl hl ?_ (k _ ?_)
  · simp only [ax_one, ax_get_lt hq, hg]
    rfl
  · show (Int32.ofNat vs.length).toInt = _
    exact Int32.toInt_ofNat_of_lt (by omega)
theorem AR.negT {x : Int32} (hl : ax_look i pc = some (.ineg, w, v, ws)) (hx : -2147483648 < x.toInt) (k : ∀ z : Int32, z.toInt = -x.toInt → AR ax_ns l (ax_mm i) d ty_R P X (pc + 1) lv (.int z :: st) h bc bs') : AR ax_ns l (ax_mm i) d ty_R P X pc lv (.int x :: st) h bc bs' := by
  have h2 := Int32.toInt_lt x
  refine AR.s (pc' := pc + 1) (lv' := lv) (st' := .int (-x) :: st) (h' := h) _ rfl hl rfl (k _ ?_)
  rw [Int32.toInt_neg]
  exact hy_bm (by omega) (by omega)
theorem AR.sipushT {n : Int} (hl : ax_look i pc = some (.sipush n, w, v, ws)) (hn : (Int16.ofInt n).toInt32.toInt = n) (k : ∀ z : Int32, z.toInt = n → AR ax_ns l (ax_mm i) d ty_R P X (pc + 3) lv (.int z :: st) h bc bs') : AR ax_ns l (ax_mm i) d ty_R P X pc lv st h bc bs' := AR.s _ rfl hl rfl (k _ hn)
theorem AR.mulA {x y : Int32} (hl : ax_look i pc = some (.imul, w, v, ws)) (k : ∀ z : Int32, (-2147483648 ≤ x.toInt * y.toInt → x.toInt * y.toInt ≤ 2147483647 → z.toInt = x.toInt * y.toInt) → AR ax_ns l (ax_mm i) d ty_R P X (pc + 1) lv (.int z :: st) h bc bs') : AR ax_ns l (ax_mm i) d ty_R P X pc lv (.int y :: .int x :: st) h bc bs' :=
  AR.s _ rfl hl rfl (k (x * y) (fun a b => by rw [Int32.toInt_mul]; exact hy_bm a b))
/-- a store of a byte -/
theorem AR.bsT {q : Nat} {j z : Int32} {vs : List Value} (hl : ax_look i pc = some (.bastore, w, v, ws)) (hq : q < 1000000000) (hg : h[q]? = some (103, vs)) (h0 : 0 ≤ j.toInt) (h1 : j.toInt < vs.length) (hz : hj_by (.int z)) (k : AR ax_ns l (ax_mm i) d ty_R P X (pc + 1) lv st (h.set q (103, vs.set j.toInt.toNat (.int z))) bc bs') : AR ax_ns l (ax_mm i) d ty_R P X pc lv (.int z :: .int j :: .ref q :: st) h bc bs' :=
  AR.bastore (ax_look_ok hl).1 hq hg (hj_nn h0).1 (by show j.toInt.toNat < _; omega) (hj_fit hz) k
variable {a b ix dy mc ms : Nat} {Q : ax_Q} {as rest : List Value} {c5 : List Value}
theorem hb_get {q : Nat} {c : Nat × List Value} (hq : q < 1000000000) (hg : h[q]? = some c) : ax_get ty_R h q = some c := by rw [ax_get_lt hq]; exact hg
theorem AR.jstr {j : Nat} (hl : ax_look i pc = some (.invokevirtual ix, w, v, ws)) (hs : ax_site (ax_mm i) (ax_mm a) ix b) (hh : ax_has a = true) (hi : ax_st a = false) (hnil : (ax_mm a).2.2.2.2 = []) (hse : Cond.selects "java/lang/String" (ax_mm a).1 (ax_mm a).1 ∈ ax_tb) (hj : j < 1000) (hE : ∀ (b : Nat) (o : Nat → Nat) (U : State), ax_J b o U → va_O "java/lang/String" (o j) (fun q => b ≤ q) U U.heap) (hst : st = as.reverse ++ .ref (1000000000 + j) :: rest) (hb : as.length = b) (hcat : (rest.map fun v => v.category).sum ≤ 8) (hM : AM ax_ns l (ax_mm a) dy ty_R mc ms (.ref (1000000000 + j) :: as) h Q) (hdy : dy + 1 ≤ d) (hmc : mc ≤ bc) (hms : ms ≤ bs') (hno : ∀ E h', ¬ Q (.inr E) h')
    (k : ∀ x h', Q (.inl x) h' → AR ax_ns l (ax_mm i) d ty_R P X (pc + 3) lv (x.toList ++ rest) h' (bc - mc) (bs' - ms)) : AR ax_ns l (ax_mm i) d ty_R P X pc lv st h bc bs' :=
  AR.invokestr hnil (ax_look_ok hl).1 hs ((ax_mst hh).2 hi) hse hj hE hst hb hM hdy hmc hms hcat k (fun E h' q => absurd q (hno E h'))
theorem AR.aret {q : Nat} {t : FieldType} (hl : ax_look i pc = some (.areturn, w, v, ws)) (ht : (ax_mm i).2.2.2.1 = some t) (ho : (∃ n, t = .object n) ∨ ∃ u, t = .array u) (hq : Q (.inl (some (.ref q))) h) : AR ax_ns l (ax_mm i) d ty_R (ax_ret ax_ns (ax_mm i) Q) X pc lv [.ref q] h bc bs' :=
  AR.at (Or.inr (Or.inr (Or.inr (Or.inl ⟨_, t, rfl, rfl, (ax_look_ok hl).1, ht, ho, hq⟩))))
/-- an int of few values, returned as a byte -/
theorem AR.bret {x : Int32} (hl : ax_look i pc = some (.ireturn, w, v, ws)) (ht : (ax_mm i).2.2.2.1 = some .byte) (hx : hj_by (.int x)) (hq : Q (.inl (some (.int x))) h) : AR ax_ns l (ax_mm i) d ty_R (ax_ret ax_ns (ax_mm i) Q) X pc lv [.int x] h bc bs' :=
  AR.at (Or.inr (Or.inl ⟨_, .byte, rfl, hj_fit hx, rfl, (ax_look_ok hl).1, ht, hq⟩))
end HJ1
section HJ2
variable {l : Launch} {h : ax_H} {k : Nat} {bs : List Value} {ml : Value} {n q x : Int32}
theorem AR.ldcI {d i pc ix : Nat} {P : ax_P} {X : ax_PX} {lv : List (Nat × Value)} {st : List Value} {bc bs' b c : Nat} {ws : List Nat} {y : Int32} (hl : ax_look i pc = some (.ldc ix, (0, b, c), .int y, ws)) (k : ∀ z : Int32, z.toInt = y.toInt → AR ax_ns l (ax_mm i) d ty_R P X (pc + 2) lv (.int z :: st) h bc bs') : AR ax_ns l (ax_mm i) d ty_R P X pc lv st h bc bs' := AR.s _ rfl hl rfl (k _ rfl)
def hq_int (h : ax_H) (z : Int) : ax_Q := fun res g => g = h ∧ ∃ x : Int32, res = .inl (some (.int x)) ∧ x.toInt = z
theorem AR.nb {d i pc : Nat} {P : ax_P} {X : ax_PX} {lv : List (Nat × Value)} {st : List Value} {bc bs' b cc : Nat} {v : Value} {ws : List Nat} {t : ArrayType} {N : Nat} (hl : ax_look i pc = some (.newarray t, (3, b, cc), v, ws)) (hx : x.toInt = N) (hN : N ≤ 60000000) (k : AR ax_ns l (ax_mm i) d ty_R P X (pc + 2) lv (.ref h.length :: st) (h ++ [(103, List.replicate N (.int 0))]) bc bs') : AR ax_ns l (ax_mm i) d ty_R P X pc lv (.int x :: st) h (bc + 1) (bs' + N) := by
  obtain ⟨hd, hok⟩ := ax_look_ok hl
  refine ax_one_ok (pc' := pc + 2) (lv' := lv) (st' := .ref h.length :: st) (h' := h ++ [(103, List.replicate N (.int 0))]) (dc := 1) (ds := N) hd hok ?_ k
  have e : x.toNatClampNeg = N := by show x.toInt.toNat = N; omega
  have hn : ¬ (x < 0 ∨ 60000000 < N ∨ 3 = 900) := by
    rintro (z | z | z)
    · exact (hj_nn (by omega)).1 z
    · omega
    · cases z
  have ht : ax_tys[3]? = some .byte := rfl
  simp only [ax_one, ht, e]
  rw [if_neg hn, ax_ha_eq]
  rfl
end HJ2
-- 49b
section HJ3
variable {l : Launch} {h : ax_H} {k : Nat} {bs : List Value} {ml : Value} {n q x : Int32} {j nn : Nat}
theorem AR.jeq {d i pc tgt : Nat} {off : Int} {P : ax_P} {X : ax_PX} {lv : List (Nat × Value)} {st : List Value} {bc bs' : Nat} {v : Value} {ws : List Nat} {w : Nat × Nat × Nat} {x y : Int32} (hl : ax_look i pc = some (.if_icmp .eq off, w, v, ws)) (ht : (pc : Int) + off = (tgt : Int)) (kt : x.toInt = y.toInt → AR ax_ns l (ax_mm i) d ty_R P X tgt lv st h bc bs') (kf : x.toInt ≠ y.toInt → AR ax_ns l (ax_mm i) d ty_R P X (pc + 3) lv st h bc bs') : AR ax_ns l (ax_mm i) d ty_R P X pc lv (.int y :: .int x :: st) h bc bs' :=
  AR.icmp_eq (ax_look_ok hl).1 ht (fun e => kt (by rw [e])) (fun e => kf (fun z => e (Int32.toInt_inj.mp z)))
theorem AR.jlt {d i pc tgt : Nat} {off : Int} {P : ax_P} {X : ax_PX} {lv : List (Nat × Value)} {st : List Value} {bc bs' : Nat} {v : Value} {ws : List Nat} {w : Nat × Nat × Nat} {x y : Int32} (hl : ax_look i pc = some (.if_icmp .lt off, w, v, ws)) (ht : (pc : Int) + off = (tgt : Int)) (kt : x.toInt < y.toInt → AR ax_ns l (ax_mm i) d ty_R P X tgt lv st h bc bs') (kf : y.toInt ≤ x.toInt → AR ax_ns l (ax_mm i) d ty_R P X (pc + 3) lv st h bc bs') : AR ax_ns l (ax_mm i) d ty_R P X pc lv (.int y :: .int x :: st) h bc bs' :=
  AR.icmp_lt (ax_look_ok hl).1 ht (fun e => kt (Int32.lt_iff_toInt_lt.mp e)) (fun e => kf (Int.not_lt.mp (fun z => e (Int32.lt_iff_toInt_lt.mpr z))))
section HJ4
variable {d i pc ix : Nat} {P : ax_P} {X : ax_PX} {lv : List (Nat × Value)} {st : List Value} {bc bs' : Nat} {v : Value} {ws : List Nat} {w : Nat × Nat × Nat}
end HJ4
def hq_nc (h : ax_H) : ax_Q := fun res h' => res = .inl none ∧ h' = h
theorem hj_ci (hlst : l.stackTraces = false) {v : Value} (hv : v = .null ∨ v = .retAddr 0) (h0 : 0 ≤ x.toInt) (h1 : x.toInt < n.toInt) : AM ax_ns l (ax_mm 279) 0 ty_R 0 0 [.int x, .int n, v] h (hq_int h x.toInt) := by
  rcases hv with rfl | rfl
  · refine AM.of (ax_mfacts (by decide +kernel : ax_has 279 = true)).2.2.2.2.2.2 hlst (by rw [hn_279]; exact Nat.le_of_ble_eq_true rfl) ?_
    show AR ax_ns l (ax_mm 279) 0 ty_R _ _ 0 [(0, .int x), (1, .int n), (2, .null)] [] h 0 0
    refine AR.s (pc' := 1) (lv' := [(0, .int x), (1, .int n), (2, .null)]) (st' := [.int x]) (h' := h) _ hn_279 hk_279_0 rfl ?_
    refine AR.zlt hk_279_1 (tgt := 9) (by decide) (fun p1 => ?_) (fun p2 => ?_)
    · exact absurd p1 (by omega)
    · refine AR.s (pc' := 5) (lv' := [(0, .int x), (1, .int n), (2, .null)]) (st' := [.int x]) (h' := h) _ hn_279 hk_279_4 rfl ?_
      refine AR.s (pc' := 6) (lv' := [(0, .int x), (1, .int n), (2, .null)]) (st' := [.int n, .int x]) (h' := h) _ hn_279 hk_279_5 rfl ?_
      refine AR.jlt hk_279_6 (tgt := 16) (by decide) (fun p3 => ?_) (fun p4 => ?_)
      · refine AR.s (pc' := 17) (lv' := [(0, .int x), (1, .int n), (2, .null)]) (st' := [.int x]) (h' := h) _ hn_279 hk_279_16 rfl ?_
        exact AR.iret hk_279_17 hr_279 ⟨rfl, _, rfl, rfl⟩
      · exact absurd p4 (by omega)
  · refine AM.of (ax_mfacts (by decide +kernel : ax_has 279 = true)).2.2.2.2.2.2 hlst (by rw [hn_279]; exact Nat.le_of_ble_eq_true rfl) ?_
    show AR ax_ns l (ax_mm 279) 0 ty_R _ _ 0 [(0, .int x), (1, .int n), (2, .retAddr 0)] [] h 0 0
    refine AR.s (pc' := 1) (lv' := [(0, .int x), (1, .int n), (2, .retAddr 0)]) (st' := [.int x]) (h' := h) _ hn_279 hk_279_0 rfl ?_
    refine AR.zlt hk_279_1 (tgt := 9) (by decide) (fun p1 => ?_) (fun p2 => ?_)
    · exact absurd p1 (by omega)
    · refine AR.s (pc' := 5) (lv' := [(0, .int x), (1, .int n), (2, .retAddr 0)]) (st' := [.int x]) (h' := h) _ hn_279 hk_279_4 rfl ?_
      refine AR.s (pc' := 6) (lv' := [(0, .int x), (1, .int n), (2, .retAddr 0)]) (st' := [.int n, .int x]) (h' := h) _ hn_279 hk_279_5 rfl ?_
      refine AR.jlt hk_279_6 (tgt := 16) (by decide) (fun p3 => ?_) (fun p4 => ?_)
      · refine AR.s (pc' := 17) (lv' := [(0, .int x), (1, .int n), (2, .retAddr 0)]) (st' := [.int x]) (h' := h) _ hn_279 hk_279_16 rfl ?_
        exact AR.iret hk_279_17 hr_279 ⟨rfl, _, rfl, rfl⟩
      · exact absurd p4 (by omega)
theorem hj_si (hlst : l.stackTraces = false) (h0 : 0 ≤ x.toInt) (h1 : x.toInt < n.toInt) : AM ax_ns l (ax_mm 278) 1 ty_R (0) (0) [.int x, .int n] h (hq_nc h) := by
  refine AM.of (ax_mfacts (by decide +kernel : ax_has 278 = true)).2.2.2.2.2.2 hlst (by rw [hn_278]; exact Nat.le_of_ble_eq_true rfl) ?_
  show AR ax_ns l (ax_mm 278) 1 ty_R _ _ 0 [(0, .int x), (1, .int n)] [] h (0) (0)
  refine AR.s (pc' := 1) (lv' := [(0, .int x), (1, .int n)]) (st' := [.int x]) (h' := h) _ hn_278 hk_278_0 rfl ?_
  refine AR.s (pc' := 2) (lv' := [(0, .int x), (1, .int n)]) (st' := [.int n, .int x]) (h' := h) _ hn_278 hk_278_1 rfl ?_
  refine AR.getq (ax_look_ok hk_278_2).1 (ax_wk_mem (ix := 3216) (by decide +kernel)) (fun v hv => ?_)
  show AR _ _ _ _ _ _ _ 5 [(0, .int x), (1, .int n)] [v, .int n, .int x] h _ _
  refine AR.cs (as := [.int x, .int n, v]) (rest := []) hk_278_5 (by decide +kernel) rfl rfl (Nat.le_of_ble_eq_true rfl) (hj_ci hlst hv h0 h1) (by decide) (Nat.zero_le _) (Nat.zero_le _) (fun E h' q => by obtain ⟨-, x, e, -⟩ := q; cases e) ?_
  rintro w132 g133 ⟨eg133, z134, e, ez134⟩
  cases e
  obtain rfl := eg133.symm
  show AR _ _ _ _ _ _ _ 8 [(0, .int x), (1, .int n)] [.int z134] h _ _
  refine AR.s (pc' := 9) (lv' := [(0, .int x), (1, .int n)]) (st' := []) (h' := h) _ hn_278 hk_278_8 rfl ?_
  exact AR.vret hk_278_9 hr_278 ⟨rfl, rfl⟩
def ax_retc (k : ax_M) (Q : ax_Q) : ax_P := fun pc _ st h bc bs => ∃ x : Int32, st = [.int x] ∧ narrow .char (.int x) = .int x ∧ decode k.2.1 pc = .ok (.ireturn, 1) ∧ k.2.2.2.1 = some .char ∧ Q (.inl (some (.int x))) h
theorem AM.ofc {ns : ax_NS} {l : Launch} {k : ax_M} {d : Nat} {r : ax_H} {mc ms : Nat} {as : List Value} {h : ax_H} {Q : ax_Q} (hy : plainName k.1.cls = true) (hl : l.stackTraces = false) (hlen : (lg_sl as).length ≤ k.2.2.1) (hnil : k.2.2.2.2 = []) (hbody : AR ns l k d r (ax_retc k Q) (fun _ _ _ _ _ _ => False) 0 (lv_args 0 as) [] h mc ms) : AM ns l k d r mc ms as h Q := by
  intro D b o
  refine vx_ofW (cc := k.2.1) (maxL := k.2.2.1) (ret := k.2.2.2.1) hy (ws' := ax_tb) (by rw [ax_ws, ax_hd_nil hnil]) ?_
  intro p e s m args below meth c s₁ B hml hex hv
  have hex : c.exceptionTable.toList = tableOf k.2.2.2.2 := by
    rw [hnil]
    cases he : c.exceptionTable.toList with
    | nil => rfl
    | cons x t => exact (hex x (by rw [he]; exact List.mem_cons_self)).elim
  obtain ⟨ac, rfl, ha, hR, hT, hz⟩ := hv
  have hts0 := atoms_spec (ws := ax_ws k) B.pre
  have hX : ax_X ns l k d r D b o mc ms p (headSpec (ax_ws k) (ax_rm d mc ms)).room s m ac.toArray meth c :=
    ⟨B.exec, B.bytes, hml, findClass_of_methodNamed B.named, fun w hw => hts0 w (List.mem_cons_of_mem _ hw), hT, Nat.le_refl _, Nat.le_refl _, Nat.le_refl _, Nat.le_refl _, B.notSynchronized, (name_of_methodNamed B.named B.method).1, hl, hex, hz⟩
  rw [lg_entry_eq]
  have hlc : (lg_sl ac).length ≤ k.2.2.1 := by rw [ax_sl_len ha]; exact hlen
  have hl0 := lv_entry ac (n := k.2.2.1) hlc
  refine hbody D b o mc ms p e _ s m ac.toArray below meth c _ hX (fun pc lv st h bc bs hp => ?_) (fun pc lv E h bc bs hq => hq.elim) _ _ _ _ [] 0 0 ⟨hl0, ax_args 0 ha, rfl, hR, va_S.rf, by omega, by omega⟩
  intro lvc ls stc H locs cells slots hG
  obtain ⟨g1, g2, g3, g4, g5, g6, g7⟩ := hG
  obtain ⟨hx, hb, hml, hown, hts, hT, hfr, hlo, -, -, hlk, -, htr, hex, -⟩ := id hX
  obtain ⟨x, rfl, hn, hd, hk, hQ⟩ := hp
  obtain ⟨v, t1, rfl, hv, ht1⟩ := g3
  cases ht1
  cases hv
  refine W.widen (k := mc) (n := ms) (by omega) (by omega) (vx_ret (W.zret hx hb (by rw [B.returns]; exact hk) hn (fun t ht hW => ?_) g5.2.2 hd hlk))
  exact ⟨some (.int x), _, h, rfl, ⟨_, rfl, rfl⟩, hQ, by rw [ht]; exact g4, g5.F ht⟩
def hj_cc (x : Int32) : Prop := narrow .char (.int x) = .int x ∧ 0 ≤ x.toInt ∧ x.toInt ≤ 65535
theorem AR.cret {d i pc : Nat} {X : ax_PX} {lv : List (Nat × Value)} {bc bs' : Nat} {v : Value} {ws : List Nat} {w : Nat × Nat × Nat} {Q : ax_Q} (hl : ax_look i pc = some (.ireturn, w, v, ws)) (ht : (ax_mm i).2.2.2.1 = some .char) (hx : hj_cc x) (hq : Q (.inl (some (.int x))) h) : AR ax_ns l (ax_mm i) d ty_R (ax_retc (ax_mm i) Q) X pc lv [.int x] h bc bs' := AR.at ⟨x, rfl, hx.1, (ax_look_ok hl).1, ht, hq⟩
end HJ3
-- 49c
section HA
variable {l : Launch} {d i pc ix : Nat} {P : ax_P} {X : ax_PX} {lv : List (Nat × Value)} {st rest : List Value} {h h0 h' : ax_H} {bc bs' : Nat} {v : Value} {ws : List Nat} {w : Nat × Nat × Nat} {e a c F G : Nat} {q q' : Int} {K : Int}
/-- a call on an object of any class of ours -/
theorem AR.jr {b r t dy mc ms : Nat} {as : List Value} {Q : ax_Q} {vs : List Value} (hl : ax_look i pc = some (.invokevirtual ix, (a, b, t), v, ws)) (ht : t < 11) (hm : ax_has a = true ∧ ax_st a = false ∧ (ax_mm a).2.2.2.2 = []) (hr : r < 1000000000) (hg : h[r]? = some (t, vs)) (hst : st = as.reverse ++ .ref r :: rest) (hb : as.length = b) (hcat : (rest.map fun v => v.category).sum ≤ 8) (hM : AM ax_ns l (ax_mm a) dy ty_R mc ms (.ref r :: as) h Q) (hdy : dy + 1 ≤ d) (hmc : mc ≤ bc) (hms : ms ≤ bs')
    (k : ∀ x h', Q (.inl x) h' → AR ax_ns l (ax_mm i) d ty_R P X (pc + 3) lv (x.toList ++ rest) h' (bc - mc) (bs' - ms)) (kx : ∀ E h', Q (.inr E) h' → AX ax_ns l (ax_mm i) d ty_R P X pc lv E h' (bc - mc) (bs' - ms)) : AR ax_ns l (ax_mm i) d ty_R P X pc lv st h bc bs' := by
  obtain ⟨d1, d2, d3⟩ := hy_drop (rest := rest) (.ref r) hb
  refine AR.call hl (as := .ref r :: as) (rest := rest) ?_ hM hdy hmc hms k kx
  subst hst
  have hc : ax_has a = true ∧ ax_st a = false ∧ (ax_mm a).2.2.2.2 = [] ∧ b ≤ (as.reverse ++ .ref r :: rest).length ∧ (rest.map fun v => v.category).sum ≤ 8 ∧ True := ⟨hm.1, hm.2.1, hm.2.2, d3, hcat, trivial⟩
  have hg2 := hb_get hr hg
  simp only [ax_arg, d1, hg2, d2]
  rw [if_pos hc]
theorem hb_vx {t : ty_V} {k n : Nat} {f a z : Int} (h : t.1 = k ∧ t.2.1 = n ∧ t.2.2.1 = f ∧ t.2.2.2.1 = a ∧ t.2.2.2.2 = z) : t = (k, n, f, a, z) := by
  obtain ⟨x1, x2, x3, x4, x5⟩ := t
  obtain ⟨h1, h2, h3, h4, h5⟩ := h
  have h1 : x1 = k := h1
  have h2 : x2 = n := h2
  have h3 : x3 = f := h3
  have h4 : x4 = a := h4
  have h5 : x5 = z := h5
  subst h1 h2 h3 h4 h5
  rfl
end HA
