/-! THE TYPED MACHINE, 3: what is known of the heap, weakened, narrowed, named; what a store does -/
theorem ty_beq_no {a b : Nat} (h : a ≠ b) : Nat.beq a b = false := by
  cases e : Nat.beq a b with
  | false => rfl
  | true => exact absurd (Nat.eq_of_beq_eq_true e) h
theorem ty_blt_no {a b : Nat} (h : b ≤ a) : Nat.blt a b = false := by
  cases e : Nat.blt a b with
  | false => rfl
  | true =>
    have : a < b := Nat.le_of_ble_eq_true e
    omega
def ty_nl (t : ty_V) : Bool := match t with
  | (0, n, _) => Nat.beq n 0
  | (1, n, _) => Nat.beq n 0
  | _ => true
theorem ty_nl_ok {ρ ρ' : Nat → Int} {N N' : Nat} {h : ax_H} {t : ty_V} {x : Value} (hn : ty_nl t = true) (hr : ty_r ρ N h t x) : ty_r ρ' N' h t x := by
  unfold ty_nl at hn
  split at hn
  · have := Nat.eq_of_beq_eq_true hn
    subst this
    obtain ⟨i, h1, h2, h3, -⟩ := hr
    exact ⟨i, h1, h2, h3, Or.inl rfl⟩
  · have := Nat.eq_of_beq_eq_true hn
    subst this
    obtain ⟨i, h1, h2, h3, -⟩ := hr
    exact ⟨i, h1, h2, h3, Or.inl rfl⟩
  · rename_i h0 h1
    unfold ty_r at hr ⊢
    split at hr
    · exact absurd rfl (h0 _ _)
    · exact absurd rfl (h1 _ _)
    all_goals exact hr
/-- only things of the table that need no heap and no name -/
def ty_pl (t : ty_V) : Bool := ty_nl t && !(Nat.beq t.1 4)
theorem ty_tb_lo : ((List.range 301).all fun q => (ty_tab q).2.2.2.all ty_pl) = true := by decide +kernel
theorem ty_tb_pl (q : Nat) : (ty_tab q).2.2.2.all ty_pl = true := by
  rcases Nat.lt_or_ge q 301 with h | h
  · exact List.all_eq_true.mp ty_tb_lo q (List.mem_range.mpr h)
  · have e1 : Nat.blt q 27 = false := ty_blt_no (by omega)
    have e2 : Nat.blt q 181 = false := ty_blt_no (by omega)
    have e3 : Nat.blt q 198 = false := ty_blt_no (by omega)
    have e4 : Nat.beq q 300 = false := ty_beq_no (by omega)
    unfold ty_tab
    rw [e1, e2, e3, e4]
    rfl
theorem ty_getD_mem {α : Type} {p : α → Bool} {ts : List α} {d : α} {j : Nat} (h : ts.all p = true) (hd : p d = true) : p (ts.getD j d) = true := by
  rw [List.getD_eq_getElem?_getD]
  cases he : ts[j]? with
  | none => exact hd
  | some t => exact List.all_eq_true.mp h t (List.mem_of_getElem? he)
theorem ty_tt_pl (q j : Nat) : ty_pl (ty_tt q j) = true := by
  have h := ty_tb_pl q
  unfold ty_tt
  split
  · rfl
  · rename_i t ts e
    rw [e] at h
    exact ty_getD_mem h (List.all_eq_true.mp h t List.mem_cons_self)
theorem ty_tt_nl (q j : Nat) : ty_nl (ty_tt q j) = true := by
  have := ty_tt_pl q j
  simp only [ty_pl, Bool.and_eq_true] at this
  exact this.1
-- what was found of an array made on the way stays
def ty_Lo (h h' : ax_H) : Prop := ∀ (k : Nat) (c : Nat × List Value) (t : Nat), 198 ≤ k → h[k]? = some c → ty_lc t c → ∃ c', h'[k]? = some c' ∧ ty_lc t c'
theorem ty_r.mv {ρ : Nat → Int} {N : Nat} {h h' : ax_H} {t : ty_V} {x : Value} (hL : ty_Lo h h') (hr : ty_r ρ N h t x) : ty_r ρ N h' t x := by
  unfold ty_r at hr ⊢
  split at hr
  case h_5 =>
    obtain ⟨k, c, h1, h2, h9, h3, h4⟩ := hr
    obtain ⟨c', h5, h6⟩ := hL k c _ h2 h3 h4
    exact ⟨k, c', h1, h2, h9, h5, h6⟩
  all_goals exact hr
theorem ty_ls.mv {ρ : Nat → Int} {N : Nat} {h h' : ax_H} (hL : ty_Lo h h') : ∀ {lv : List (Nat × ty_V)} {xs : List (Nat × Value)}, ty_ls ρ N h lv xs → ty_ls ρ N h' lv xs
  | [], _, hr => hr
  | _ :: _, _, ⟨x, r, e, h1, h2⟩ => ⟨x, r, e, h1.mv hL, h2.mv hL⟩
theorem ty_rs.mv {ρ : Nat → Int} {N : Nat} {h h' : ax_H} (hL : ty_Lo h h') : ∀ {st : List ty_V} {xs : List Value}, ty_rs ρ N h st xs → ty_rs ρ N h' st xs
  | [], _, hr => hr
  | _ :: _, _, ⟨x, r, e, h1, h2⟩ => ⟨x, r, e, h1.mv hL, h2.mv hL⟩
-- entries
noncomputable def ty_os {α : Type} (ov : ty_O) (q j : Nat) (t : ty_V) (f : ty_O → α) : α := ax_flt (fun e => !(Nat.beq e.1 q && Nat.beq e.2.1 j)) ov fun r => f ((q, j, t) :: r)
def ty_ot (ov : ty_O) (q j : Nat) (t : ty_V) : ty_O := (q, j, t) :: ov.filter (fun e => !(Nat.beq e.1 q && Nat.beq e.2.1 j))
theorem ty_os_eq {α : Type} (ov : ty_O) (q j : Nat) (t : ty_V) (f : ty_O → α) : ty_os ov q j t f = f (ty_ot ov q j t) := ax_flt_eq _ _ _
theorem ty_fi_filter {p : Nat × Nat × ty_V → Bool} {q j : Nat} (hp : ∀ t, p (q, j, t) = true) : ∀ ov : ty_O, ty_fi (ov.filter p) q j = ty_fi ov q j
  | [] => rfl
  | e :: r => by
    cases hb : Nat.beq e.1 q && Nat.beq e.2.1 j with
    | true =>
      have h2 := hb
      simp only [Bool.and_eq_true] at h2
      have e1 := Nat.eq_of_beq_eq_true h2.1
      have e2 := Nat.eq_of_beq_eq_true h2.2
      have : p e = true := by
        obtain ⟨a, b, c⟩ := e
        dsimp only at e1 e2
        subst e1; subst e2
        exact hp c
      rw [List.filter_cons_of_pos this]
      simp only [ty_fi, hb, cond_true]
    | false =>
      cases hpe : p e with
      | true =>
        rw [List.filter_cons_of_pos hpe]
        simp only [ty_fi, hb, cond_false]
        exact ty_fi_filter hp r
      | false =>
        rw [List.filter_cons_of_neg (by simp [hpe])]
        simp only [ty_fi, hb, cond_false]
        exact ty_fi_filter hp r
theorem ty_fi_ot {ov : ty_O} {q j : Nat} {t : ty_V} (q' j' : Nat) : ty_fi (ty_ot ov q j t) q' j' = if q' = q ∧ j' = j then some t else ty_fi ov q' j' := by
  unfold ty_ot
  simp only [ty_fi]
  by_cases h : q' = q ∧ j' = j
  · obtain ⟨rfl, rfl⟩ := h
    simp
  · rw [if_neg h]
    have : (Nat.beq q q' && Nat.beq j j') = false := by
      simp only [Bool.and_eq_false_iff]
      rcases Decidable.em (q' = q) with e | e
      · exact Or.inr (ty_beq_no (fun e2 => h ⟨e, e2.symm⟩))
      · exact Or.inl (ty_beq_no (fun e2 => e e2.symm))
    rw [this, cond_false]
    refine ty_fi_filter (fun t => ?_) ov
    simp only [Bool.not_eq_true', Bool.and_eq_false_iff]
    rcases Decidable.em (q' = q) with e | e
    · exact Or.inr (ty_beq_no (fun e2 => h ⟨e, e2⟩))
    · exact Or.inl (ty_beq_no e)
theorem ty_fi_mem {ov : ty_O} {q j : Nat} {t : ty_V} (h : ty_fi ov q j = some t) : (q, j, t) ∈ ov := by
  induction ov with
  | nil => cases h
  | cons e r ih =>
    simp only [ty_fi] at h
    cases hb : Nat.beq e.1 q && Nat.beq e.2.1 j with
    | true =>
      rw [hb] at h
      simp only [Bool.and_eq_true] at hb
      have e1 := Nat.eq_of_beq_eq_true hb.1
      have e2 := Nat.eq_of_beq_eq_true hb.2
      obtain ⟨a, b, c⟩ := e
      cases h
      dsimp only at e1 e2
      subst e1; subst e2
      exact List.mem_cons_self
    | false =>
      rw [hb] at h
      exact List.mem_cons_of_mem _ (ih h)
theorem ty_fi_map {g : ty_V → ty_V} {q j : Nat} : ∀ ov : ty_O, ty_fi (ov.map (fun e => (e.1, e.2.1, g e.2.2))) q j = (ty_fi ov q j).map g
  | [] => rfl
  | e :: r => by
    simp only [List.map_cons, ty_fi]
    cases hb : Nat.beq e.1 q && Nat.beq e.2.1 j with
    | true => rfl
    | false => exact ty_fi_map r
theorem ty_lk_map {g : ty_V → ty_V} (hg : ∀ t, ty_nl t = true → g t = t) {ov : ty_O} {q j : Nat} : ty_lk (ov.map (fun e => (e.1, e.2.1, g e.2.2))) q j = g (ty_lk ov q j) := by
  have hu : ty_un (ov.map (fun e => (e.1, e.2.1, g e.2.2))) q = g (ty_un ov q) := by
    unfold ty_un
    rw [ty_fi_map]
    cases ty_fi ov q 0 with
    | none => exact (hg _ (ty_tt_nl q 0)).symm
    | some t => rfl
  unfold ty_lk
  rw [ty_fi_map, hu]
  cases ty_fi ov q (j + 1) with
  | some t => rfl
  | none =>
    cases ty_ar q with
    | true => rfl
    | false => exact (hg _ (ty_tt_nl q j)).symm
-- weaker
def ty_ck (t s : ty_O) (q : Nat) (j1 : Nat) : Bool := match j1 with
  | 0 => ty_tl (ty_un t q) (ty_un s q) || (List.range (ty_tab q).2.1).all (fun j => ty_tl (ty_lk t q j) (ty_lk s q j))
  | j + 1 => ty_tl (ty_lk t q j) (ty_lk s q j)
def ty_ole (t s : ty_O) : Bool := t.all (fun e => ty_ck t s e.1 e.2.1) && s.all (fun e => ty_ck t s e.1 e.2.1)
theorem ty_ole_lk {t s : ty_O} (hl : ty_ole t s = true) (q j : Nat) (hj : ty_ar q = true → j < (ty_tab q).2.1) : ty_tl (ty_lk t q j) (ty_lk s q j) = true ∨ (ty_lk t q j = ty_lk s q j ∧ ty_nl (ty_lk t q j) = true) := by
  simp only [ty_ole, Bool.and_eq_true] at hl
  obtain ⟨h1, h2⟩ := hl
  have ck : ∀ j1, (∃ v, ty_fi t q j1 = some v ∨ ty_fi s q j1 = some v) → ty_ck t s q j1 = true := by
    rintro j1 ⟨v, hv | hv⟩
    · exact List.all_eq_true.mp h1 _ (ty_fi_mem hv)
    · exact List.all_eq_true.mp h2 _ (ty_fi_mem hv)
  cases ht : ty_fi t q (j + 1) with
  | some v => exact Or.inl (ck (j + 1) ⟨v, Or.inl ht⟩)
  | none =>
    cases hs : ty_fi s q (j + 1) with
    | some v => exact Or.inl (ck (j + 1) ⟨v, Or.inr hs⟩)
    | none =>
      cases ha : ty_ar q with
      | false =>
        right
        unfold ty_lk
        rw [ht, hs, ha]
        exact ⟨rfl, ty_tt_nl q j⟩
      | true =>
        have e1 : ty_lk t q j = ty_un t q := by unfold ty_lk; rw [ht, ha]; rfl
        have e2 : ty_lk s q j = ty_un s q := by unfold ty_lk; rw [hs, ha]; rfl
        by_cases hx : ∃ v, ty_fi t q 0 = some v ∨ ty_fi s q 0 = some v
        · have := ck 0 hx
          simp only [ty_ck, Bool.or_eq_true] at this
          rcases this with q1 | q1
          · left; rw [e1, e2]; exact q1
          · exact Or.inl (List.all_eq_true.mp q1 j (List.mem_range.mpr (hj ha)))
        · right
          have n1 : ty_fi t q 0 = none := by
            cases h : ty_fi t q 0 with
            | none => rfl
            | some v => exact absurd ⟨v, Or.inl h⟩ hx
          have n2 : ty_fi s q 0 = none := by
            cases h : ty_fi s q 0 with
            | none => rfl
            | some v => exact absurd ⟨v, Or.inr h⟩ hx
          rw [e1, e2]
          unfold ty_un
          rw [n1, n2]
          exact ⟨rfl, ty_tt_nl q 0⟩
theorem ty_nl_ps {K : Int} {ρ ρ' : Nat → Int} {N N' j : Nat} {h : ax_H} {t : ty_V} (hn : ty_nl t = true) (hr : ty_ps K ρ N h j t) : ty_ps K ρ' N' h j t := by
  unfold ty_nl at hn
  split at hn
  · have := Nat.eq_of_beq_eq_true hn
    subst this
    intro v hv
    obtain ⟨h1, h2, -⟩ := hr v hv
    exact ⟨h1, h2, Or.inl rfl⟩
  · trivial
  · rename_i h0 h1
    unfold ty_ps at hr ⊢
    split at hr
    · exact absurd rfl (h0 _ _)
    · trivial
theorem ty_H.weak {K : Int} {ρ ρ' : Nat → Int} {N N' : Nat} {t s : ty_O} {h : ax_H} (hl : ty_ole t s = true) (hH : ty_H K ρ N s h) : ty_H K ρ' N' t h := by
  obtain ⟨h1, h2, h3⟩ := hH
  refine ⟨h1, fun q hq => ?_, fun j => ?_⟩
  · obtain ⟨vs, e1, e2, e3⟩ := h2 q hq
    refine ⟨vs, e1, e2, fun j x hx => ⟨?_, fun hm => ty_nl_ok (ty_tt_nl q j) ((e3 j x hx).2 hm)⟩⟩
    have hj : j < vs.length := (List.getElem?_eq_some_iff.mp hx).1
    rcases ty_ole_lk hl q j (fun _ => by omega) with q1 | ⟨q1, q2⟩
    · exact ty_tl_ok q1 (e3 j x hx).1
    · rw [q1]
      rw [q1] at q2
      exact ty_nl_ok q2 (e3 j x hx).1
  · rcases ty_ole_lk hl 300 j (fun h => by cases h) with q1 | ⟨q1, q2⟩
    · exact ty_tl_ps q1 (h3 j)
    · rw [q1]
      rw [q1] at q2
      exact ty_nl_ps q2 (h3 j)
-- narrower: the name n stands for a number from L to U
def ty_nw (n : Nat) (L U : Int) (t : ty_V) : ty_V := match t with
  | (k, m, f, a, z) => bif Nat.blt k 2 && Nat.beq m n then (k, m, f, ty_ma a (L + f), ty_mi z (U + f)) else (k, m, f, a, z)
noncomputable def ty_nv {α : Type} (n : Nat) (L U : Int) (t : ty_V) (g : ty_V → α) : α := match t with
  | (k, m, f, a, z) => ax_if (Nat.blt k 2 && Nat.beq m n) (ty_fz (ty_ma a (L + f)) fun a => ty_fz (ty_mi z (U + f)) fun z => g (k, m, f, a, z)) (g (k, m, f, a, z))
theorem ty_nv_eq {α : Type} {n : Nat} {L U : Int} {t : ty_V} {g : ty_V → α} : ty_nv n L U t g = g (ty_nw n L U t) := by
  obtain ⟨k, m, f, a, z⟩ := t
  unfold ty_nv ty_nw
  cases h : Nat.blt k 2 && Nat.beq m n <;> simp [ax_if, ty_fz_eq, h]
theorem ty_in.nw {ρ : Nat → Int} {N n : Nat} {f a z L U i : Int} (hn : n ≠ 0) (hL : L ≤ ρ n) (hU : ρ n ≤ U) (h : ty_in ρ N n f a z i) : ty_in ρ N n f (ty_ma a (L + f)) (ty_mi z (U + f)) i := by
  have l1 := @ty_ma_ok a (L + f)
  have u1 := @ty_mi_ok z (U + f)
  obtain ⟨h1, h2, h3⟩ := h
  rcases h3 with h3 | h3
  · exact absurd h3 hn
  · exact ⟨by omega, by omega, Or.inr h3⟩
theorem ty_nw_ok {ρ : Nat → Int} {N n : Nat} {L U : Int} {h : ax_H} {t : ty_V} {x : Value} (hn : n ≠ 0) (hL : L ≤ ρ n) (hU : ρ n ≤ U) (hr : ty_r ρ N h t x) : ty_r ρ N h (ty_nw n L U t) x := by
  obtain ⟨k, m, f, a, z⟩ := t
  unfold ty_nw
  dsimp only
  cases hc : Nat.blt k 2 && Nat.beq m n with
  | false => exact hr
  | true =>
    simp only [Bool.and_eq_true] at hc
    have hm := Nat.eq_of_beq_eq_true hc.2
    subst hm
    have hk : k < 2 := Nat.le_of_ble_eq_true hc.1
    rcases (by omega : k = 0 ∨ k = 1) with rfl | rfl
    · obtain ⟨i, h1, h2⟩ := hr
      exact ⟨i, h1, h2.nw hn hL hU⟩
    · obtain ⟨i, h1, h2⟩ := hr
      exact ⟨i, h1, h2.nw hn hL hU⟩
theorem ty_nw_ps {K : Int} {ρ : Nat → Int} {N n j : Nat} {L U : Int} {h : ax_H} {t : ty_V} (hn : n ≠ 0) (hL : L ≤ ρ n) (hU : ρ n ≤ U) (hr : ty_ps K ρ N h j t) : ty_ps K ρ N h j (ty_nw n L U t) := by
  obtain ⟨k, m, f, a, z⟩ := t
  unfold ty_nw
  dsimp only
  cases hc : Nat.blt k 2 && Nat.beq m n with
  | false => exact hr
  | true =>
    simp only [Bool.and_eq_true] at hc
    have hm := Nat.eq_of_beq_eq_true hc.2
    subst hm
    have hk : k < 2 := Nat.le_of_ble_eq_true hc.1
    rcases (by omega : k = 0 ∨ k = 1) with rfl | rfl
    · exact fun v hv => (hr v hv).nw hn hL hU
    · trivial
theorem ty_nw_nl {n : Nat} {L U : Int} (hn : n ≠ 0) {t : ty_V} (ht : ty_nl t = true) : ty_nw n L U t = t := by
  obtain ⟨k, m, f, a, z⟩ := t
  unfold ty_nw
  dsimp only
  cases hc : Nat.blt k 2 && Nat.beq m n with
  | false => rfl
  | true =>
    simp only [Bool.and_eq_true] at hc
    have hm := Nat.eq_of_beq_eq_true hc.2
    subst hm
    have hk : k < 2 := Nat.le_of_ble_eq_true hc.1
    rcases (by omega : k = 0 ∨ k = 1) with rfl | rfl
    · exact absurd (Nat.eq_of_beq_eq_true ht) hn
    · exact absurd (Nat.eq_of_beq_eq_true ht) hn
def ty_nwo (n : Nat) (L U : Int) (ov : ty_O) : ty_O := ov.map (fun e => (e.1, e.2.1, ty_nw n L U e.2.2))
def ty_nwl (n : Nat) (L U : Int) (lv : List (Nat × ty_V)) : List (Nat × ty_V) := lv.map (fun e => (e.1, ty_nw n L U e.2))
def ty_nws (n : Nat) (L U : Int) (st : List ty_V) : List ty_V := st.map (ty_nw n L U)
theorem ty_H.nw {K : Int} {ρ : Nat → Int} {N n : Nat} {L U : Int} {ov : ty_O} {h : ax_H} (hn : n ≠ 0) (hL : L ≤ ρ n) (hU : ρ n ≤ U) (hH : ty_H K ρ N ov h) : ty_H K ρ N (ty_nwo n L U ov) h := by
  obtain ⟨h1, h2, h3⟩ := hH
  have e : ∀ q j, ty_lk (ty_nwo n L U ov) q j = ty_nw n L U (ty_lk ov q j) := fun q j => ty_lk_map (fun t ht => ty_nw_nl hn ht)
  refine ⟨h1, fun q hq => ?_, fun j => by rw [e]; exact ty_nw_ps hn hL hU (h3 j)⟩
  obtain ⟨vs, e1, e2, e3⟩ := h2 q hq
  exact ⟨vs, e1, e2, fun j x hx => ⟨by rw [e]; exact ty_nw_ok hn hL hU (e3 j x hx).1, (e3 j x hx).2⟩⟩
theorem ty_ls.nw {ρ : Nat → Int} {N n : Nat} {L U : Int} {h : ax_H} (hn : n ≠ 0) (hL : L ≤ ρ n) (hU : ρ n ≤ U) : ∀ {lv : List (Nat × ty_V)} {xs : List (Nat × Value)}, ty_ls ρ N h lv xs → ty_ls ρ N h (ty_nwl n L U lv) xs
  | [], _, hr => hr
  | _ :: _, _, ⟨x, r, e, h1, h2⟩ => ⟨x, r, e, ty_nw_ok hn hL hU h1, h2.nw hn hL hU⟩
theorem ty_rs.nw {ρ : Nat → Int} {N n : Nat} {L U : Int} {h : ax_H} (hn : n ≠ 0) (hL : L ≤ ρ n) (hU : ρ n ≤ U) : ∀ {st : List ty_V} {xs : List Value}, ty_rs ρ N h st xs → ty_rs ρ N h (ty_nws n L U st) xs
  | [], _, hr => hr
  | _ :: _, _, ⟨x, r, e, h1, h2⟩ => ⟨x, r, e, ty_nw_ok hn hL hU h1, h2.nw hn hL hU⟩
/-- all at once, written out -/
noncomputable def ty_mapC {α β γ : Type} (g : α → (β → γ) → γ) (l : List α) (f : List β → γ) : γ := @List.rec α (fun _ => (List β → γ) → γ) (fun f => f []) (fun x _ ih f => g x fun y => ih fun t => f (y :: t)) l f
theorem ty_mapC_eq {α β γ : Type} {g : α → (β → γ) → γ} {k : α → β} (hg : ∀ x (f : β → γ), g x f = f (k x)) : ∀ (l : List α) (f : List β → γ), ty_mapC g l f = f (l.map k)
  | [], _ => rfl
  | x :: t, f => by
    have e : ty_mapC g (x :: t) f = g x fun y => ty_mapC g t fun t' => f (y :: t') := rfl
    rw [e, hg, ty_mapC_eq hg t]
    rfl
noncomputable def ty_nwC {γ : Type} (n : Nat) (L U : Int) (lv : List (Nat × ty_V)) (st : List ty_V) (ov : ty_O) (f : List (Nat × ty_V) → List ty_V → ty_O → γ) : γ :=
  ty_mapC (fun e g => ty_nv n L U e.2 fun t => g (e.1, t)) lv fun lv => ty_mapC (fun t g => ty_nv n L U t g) st fun st => ty_mapC (fun e g => ty_nv n L U e.2.2 fun t => g (e.1, e.2.1, t)) ov fun ov => f lv st ov
theorem ty_nwC_eq {γ : Type} {n : Nat} {L U : Int} {lv : List (Nat × ty_V)} {st : List ty_V} {ov : ty_O} {f : List (Nat × ty_V) → List ty_V → ty_O → γ} : ty_nwC n L U lv st ov f = f (ty_nwl n L U lv) (ty_nws n L U st) (ty_nwo n L U ov) := by
  unfold ty_nwC
  rw [ty_mapC_eq (k := fun e => (e.1, ty_nw n L U e.2)) (fun x f => ty_nv_eq), ty_mapC_eq (k := ty_nw n L U) (fun x f => ty_nv_eq), ty_mapC_eq (k := fun e => (e.1, e.2.1, ty_nw n L U e.2.2)) (fun x f => ty_nv_eq)]
  rfl
