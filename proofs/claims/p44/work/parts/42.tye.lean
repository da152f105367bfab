/-! THE TYPED MACHINE, 11: calls by contract, ends -/
theorem AR.small {ns : ax_NS} {l : Launch} {k : ax_M} {d : Nat} {r : ax_H} {P : ax_P} {X : ax_PX} {pc : Nat} {lv : List (Nat × Value)} {st : List Value} {h : ax_H} {bc bs : Nat} (K : h.length < 1000000000 → AR ns l k d r P X pc lv st h bc bs) : AR ns l k d r P X pc lv st h bc bs := by
  intro D b o TC TS p e R s m args below meth c Z hX hP hXX lvc ls stc H locs cells slots hG
  have hz : s.heap.size + TC < b + 1000000000 := by
    obtain ⟨-, -, -, -, -, -, -, -, -, -, -, -, -, -, hz⟩ := hX
    exact hz
  exact ax_size hz hG.2.2.2.1 hG.2.2.2.2.2.1 (fun hh => K hh D b o TC TS p e R s m args below meth c Z hX hP hXX lvc ls stc H locs cells slots hG)
theorem ax_ret_mono {ns : ax_NS} {k : ax_M} {Q Q' : ax_Q} {pc bc bs bc' bs' : Nat} {lv : List (Nat × Value)} {st : List Value} {h : ax_H} (hb : bc ≤ bc') (hs : bs ≤ bs') (hq : ∀ res h', Q res h' → Q' res h') (hp : ax_ret ns k Q pc lv st h bc bs) : ax_ret ns k Q' pc lv st h bc' bs' := by
  rcases hp with ⟨x, a1, a2, a3, a4, a5⟩ | ⟨x, ty, a1, a2, a3, a4, a5, a6⟩ | ⟨x, a1, a2, a3, a4, a5⟩ | ⟨x, rt, a1, a2, a3, a4, a5, a6⟩ | ⟨a1, a2, a3, a4⟩ | ⟨E, a1, a2, a3, a4, a5, a6⟩
  · exact Or.inl ⟨x, a1, a2, a3, a4, hq _ _ a5⟩
  · exact Or.inr (Or.inl ⟨x, ty, a1, a2, a3, a4, a5, hq _ _ a6⟩)
  · exact Or.inr (Or.inr (Or.inl ⟨x, a1, a2, a3, a4, hq _ _ a5⟩))
  · exact Or.inr (Or.inr (Or.inr (Or.inl ⟨x, rt, a1, a2, a3, a4, a5, hq _ _ a6⟩)))
  · exact Or.inr (Or.inr (Or.inr (Or.inr (Or.inl ⟨a1, a2, a3, hq _ _ a4⟩))))
  · exact Or.inr (Or.inr (Or.inr (Or.inr (Or.inr ⟨E, a1, a2, Nat.le_trans a3 hb, Nat.le_trans a4 hs, a5, hq _ _ a6⟩))))
abbrev ty_E : Type := (Option ty_V ⊕ String) × ty_O
/-- a contract: method, depth, what it may write, cells, slots, arguments, what must be known of the heap, its ends -/
abbrev ty_Ct : Type := Nat × Nat × Nat × Nat × Nat × List ty_V × ty_O × List ty_E
abbrev ty_z : Nat → Int := fun _ => 0
def ty_rr (h : ax_H) (e : Option ty_V ⊕ String) (res : Option Value ⊕ String) : Prop := match e, res with
  | .inl none, .inl none => True
  | .inl (some t), .inl (some x) => ty_r ty_z 0 h t x
  | .inr E, .inr E' => E' = E
  | _, _ => False
def ty_Q (I : ax_H → Prop) (K : Int) (W : Nat) (L : List ty_E) (h0 : ax_H) : ax_Q := fun res h => ty_F W h0 h ∧ I h ∧ ∃ e ∈ L, ty_rr h e.1 res ∧ ty_H K ty_z 0 e.2 h
def ty_M (I : ax_H → Prop) (l : Launch) (c : ty_Ct) : Prop := ∀ (K : Int) (h : ax_H) (asx : List Value), ty_rs ty_z 0 h c.2.2.2.2.2.1 asx → ty_H K ty_z 0 c.2.2.2.2.2.2.1 h → I h → AM ax_ns l (ax_mm c.1) c.2.1 ty_R c.2.2.2.1 c.2.2.2.2.1 asx h (ty_Q I K c.2.2.1 c.2.2.2.2.2.2.2 h)
/-- arguments that a contract takes -/
def ty_asl : List ty_V → List ty_V → Bool
  | [], [] => true
  | t :: ts, s :: ss => ty_tl t s && ty_asl ts ss
  | _, _ => false
theorem ty_asl_ok {ρ ρ' : Nat → Int} {N N' : Nat} {h : ax_H} : ∀ {ts ss : List ty_V} {xs : List Value}, ty_asl ts ss = true → ty_rs ρ N h ss xs → ty_rs ρ' N' h ts xs
  | [], [], _, _, hr => hr
  | [], _ :: _, _, hl, _ => by cases hl
  | _ :: _, [], _, hl, _ => by cases hl
  | t :: ts, s :: ss, _, hl, ⟨x, r, e, h1, h2⟩ => by
    simp only [ty_asl, Bool.and_eq_true] at hl
    exact ⟨x, r, e, ty_tl_ok hl.1 h1, ty_asl_ok hl.2 h2⟩
/-! what is known behind a call -/
/-- is the field (or the array, j1 = 0) left as it was? -/
def ty_kp (W q j1 : Nat) : Bool := bif Nat.beq q 300 then Nat.ble 1 j1 && !(W.testBit (110 + j1)) else !(Nat.beq (ty_tab q).2.2.1 0) && (Nat.blt q 198 && !(W.testBit (ty_ky q (j1 - 1))))
/-- W names the three numbers with the fields that they hang on -/
def ty_wk (W : Nat) : Bool := (W.testBit 111 || (!(W.testBit 72) && !(W.testBit 98))) && ((W.testBit 112 || (!(W.testBit 71) && !(W.testBit 77))) && (W.testBit 113 || !(W.testBit 71)))
def ty_has (e : ty_O) (q : Nat) : Bool := e.any (fun x => Nat.beq x.1 q)
def ty_xs (s t : ty_V) : ty_V := match s, t with
  | (k, n, f, a, z), (k2, _, _, b, w) => bif Nat.blt k 2 && Nat.beq k k2 then (k, n, f, ty_ma a b, ty_mi z w) else (k, n, f, a, z)
def ty_mf (W : Nat) (e : ty_O) (x : Nat × Nat × ty_V) : Option (Nat × Nat × ty_V) := bif ty_kp W x.1 x.2.1 then (bif ty_ar x.1 then (bif ty_has e x.1 then none else some x) else (match ty_fi e x.1 x.2.1 with
  | some t => some (x.1, x.2.1, ty_xs x.2.2 t)
  | none => some x)) else none
def ty_mg (W : Nat) (e ov : ty_O) : ty_O := ov.filterMap (ty_mf W e) ++ e
noncomputable def ty_mgC {γ : Type} (W : Nat) (e : ty_O) (ov : ty_O) (g : ty_O → γ) : γ := @List.rec (Nat × Nat × ty_V) (fun _ => (ty_O → γ) → γ) (fun g => g e) (fun x _ ih g => match ty_mf W e x with
  | some y => ty_fo y.2.2 fun t => ih fun r => g ((y.1, y.2.1, t) :: r)
  | none => ih g) ov g
theorem ty_mgC_eq {γ : Type} (W : Nat) (e : ty_O) : ∀ (ov : ty_O) (g : ty_O → γ), ty_mgC W e ov g = g (ty_mg W e ov)
  | [], _ => rfl
  | x :: r, g => by
    have h0 : ty_mgC W e (x :: r) g = (match ty_mf W e x with
      | some y => ty_fo y.2.2 fun t => ty_mgC W e r fun r => g ((y.1, y.2.1, t) :: r)
      | none => ty_mgC W e r g) := rfl
    rw [h0]
    cases hx : ty_mf W e x with
    | none =>
      dsimp only
      rw [ty_mgC_eq W e r]
      simp only [ty_mg, List.filterMap_cons, hx]
    | some y =>
      dsimp only
      rw [ty_fo_eq, ty_mgC_eq W e r]
      simp only [ty_mg, List.filterMap_cons, hx]
      rfl
theorem ty_mf_key {W : Nat} {e : ty_O} {x y : Nat × Nat × ty_V} (h : ty_mf W e x = some y) : y.1 = x.1 ∧ y.2.1 = x.2.1 := by
  unfold ty_mf at h
  cases hk : ty_kp W x.1 x.2.1 with
  | false => rw [hk] at h; cases h
  | true =>
    rw [hk] at h
    simp only [cond_true] at h
    cases ha : ty_ar x.1 with
    | true =>
      rw [ha] at h
      simp only [cond_true] at h
      cases hh : ty_has e x.1 with
      | true => rw [hh] at h; cases h
      | false => rw [hh] at h; cases h; exact ⟨rfl, rfl⟩
    | false =>
      rw [ha] at h
      simp only [cond_false] at h
      split at h <;> (cases h; exact ⟨rfl, rfl⟩)
/-- what the list of what is kept says of a place -/
theorem ty_fi_fm {W : Nat} {e : ty_O} {q j1 : Nat} : ∀ ov : ty_O, ty_fi (ov.filterMap (ty_mf W e)) q j1 = (match ty_fi ov q j1 with
  | some s => (ty_mf W e (q, j1, s)).map (fun y => y.2.2)
  | none => none)
  | [] => rfl
  | x :: r => by
    have ih := ty_fi_fm (W := W) (e := e) (q := q) (j1 := j1) r
    cases hb : Nat.beq x.1 q && Nat.beq x.2.1 j1 with
    | true =>
      have hb2 := hb
      simp only [Bool.and_eq_true] at hb2
      have e1 := Nat.eq_of_beq_eq_true hb2.1
      have e2 := Nat.eq_of_beq_eq_true hb2.2
      have e3 : ty_fi (x :: r) q j1 = some x.2.2 := by simp only [ty_fi, hb, cond_true]
      rw [e3]
      dsimp only
      obtain ⟨a, b, s⟩ := x
      dsimp only at e1 e2
      subst e1; subst e2
      cases hx : ty_mf W e (a, b, s) with
      | some y =>
        obtain ⟨k1, k2⟩ := ty_mf_key hx
        simp only [List.filterMap_cons, hx, ty_fi]
        dsimp only at k1 k2
        rw [k1, k2, hb]
        rfl
      | none =>
        -- nothing of this key is kept
        simp only [List.filterMap_cons, hx, Option.map_none]
        rw [ih]
        split
        · rename_i s2 h2
          have hno : ty_mf W e (a, b, s2) = none := by
            unfold ty_mf at hx ⊢
            dsimp only at hx ⊢
            cases hk : ty_kp W a b with
            | false => rfl
            | true =>
              rw [hk] at hx
              simp only [cond_true] at hx ⊢
              cases ha : ty_ar a with
              | true =>
                rw [ha] at hx
                simp only [cond_true] at hx ⊢
                cases hh : ty_has e a with
                | true => rfl
                | false => rw [hh] at hx; cases hx
              | false =>
                rw [ha] at hx
                simp only [cond_false] at hx
                split at hx <;> cases hx
          rw [hno]
          rfl
        · rfl
    | false =>
      have e3 : ty_fi (x :: r) q j1 = ty_fi r q j1 := by simp only [ty_fi, hb, cond_false]
      rw [e3, ← ih]
      cases hx : ty_mf W e x with
      | none => simp only [List.filterMap_cons, hx]
      | some y =>
        obtain ⟨k1, k2⟩ := ty_mf_key hx
        simp only [List.filterMap_cons, hx, ty_fi]
        rw [k1, k2, hb]
        rfl
theorem ty_fi_app {a b : ty_O} {q j : Nat} : ty_fi (a ++ b) q j = (match ty_fi a q j with | some t => some t | none => ty_fi b q j) := by
  induction a with
  | nil => rfl
  | cons x r ih =>
    rw [List.cons_append]
    simp only [ty_fi]
    cases hb : Nat.beq x.1 q && Nat.beq x.2.1 j with
    | true => rfl
    | false =>
      simp only [cond_false]
      exact ih
theorem ty_has_no {e : ty_O} {q : Nat} (h : ty_has e q = false) (j : Nat) : ty_fi e q j = none := by
  cases hx : ty_fi e q j with
  | none => rfl
  | some t =>
    have h1 := ty_fi_mem hx
    have : ty_has e q = true := List.any_eq_true.mpr ⟨_, h1, Nat.beq_refl q⟩
    rw [this] at h
    cases h
theorem ty_xs_ok {ρ : Nat → Int} {N : Nat} {h : ax_H} {s t : ty_V} {x : Value} (hs : ty_r ρ N h s x) (ht : ty_r ty_z 0 h t x) : ty_r ρ N h (ty_xs s t) x := by
  obtain ⟨k, n, f, a, z⟩ := s
  obtain ⟨k2, n2, f2, b, w⟩ := t
  unfold ty_xs
  dsimp only
  cases hc : Nat.blt k 2 && Nat.beq k k2 with
  | false => exact hs
  | true =>
    simp only [Bool.and_eq_true] at hc
    have hk : k < 2 := Nat.le_of_ble_eq_true hc.1
    have hk2 := Nat.eq_of_beq_eq_true hc.2
    subst hk2
    have l := @ty_ma_ok a b
    have m := @ty_mi_ok z w
    rcases (by omega : k = 0 ∨ k = 1) with rfl | rfl
    · obtain ⟨i, rfl, h1, h2, h3⟩ := hs
      obtain ⟨j, e, h4, h5, -⟩ := ht
      cases e
      exact ⟨i, rfl, by omega, by omega, h3⟩
    · obtain ⟨i, rfl, h1, h2, h3⟩ := hs
      obtain ⟨j, e, h4, h5, -⟩ := ht
      cases e
      exact ⟨i, rfl, by omega, by omega, h3⟩
theorem ty_xs_ps {K : Int} {ρ : Nat → Int} {N j : Nat} {h : ax_H} {s t : ty_V} (hs : ty_ps K ρ N h j s) (ht : ty_ps K ty_z 0 h j t) : ty_ps K ρ N h j (ty_xs s t) := by
  obtain ⟨k, n, f, a, z⟩ := s
  obtain ⟨k2, n2, f2, b, w⟩ := t
  unfold ty_xs
  dsimp only
  cases hc : Nat.blt k 2 && Nat.beq k k2 with
  | false => exact hs
  | true =>
    simp only [Bool.and_eq_true] at hc
    have hk : k < 2 := Nat.le_of_ble_eq_true hc.1
    have hk2 := Nat.eq_of_beq_eq_true hc.2
    subst hk2
    have l := @ty_ma_ok a b
    have m := @ty_mi_ok z w
    rcases (by omega : k = 0 ∨ k = 1) with rfl | rfl
    · intro v hv
      obtain ⟨h1, h2, h3⟩ := hs v hv
      obtain ⟨h4, h5, -⟩ := ht v hv
      exact ⟨by omega, by omega, h3⟩
    · trivial
/-- names none: true of any names -/
theorem ty_in_z {ρ : Nat → Int} {N n : Nat} {f a z i : Int} (h : ty_in ty_z 0 n f a z i) : ty_in ρ N n f a z i :=
  ⟨h.1, h.2.1, h.2.2.imp id (fun q => absurd q.1 (Nat.not_lt_zero _))⟩
theorem ty_r_z {ρ : Nat → Int} {N : Nat} {h : ax_H} {t : ty_V} {x : Value} (hr : ty_r ty_z 0 h t x) : ty_r ρ N h t x := by
  unfold ty_r at hr ⊢
  split at hr
  · obtain ⟨i, h1, h2⟩ := hr; exact ⟨i, h1, ty_in_z h2⟩
  · obtain ⟨i, h1, h2⟩ := hr; exact ⟨i, h1, ty_in_z h2⟩
  all_goals exact hr
theorem ty_ps_z {K : Int} {ρ : Nat → Int} {N j : Nat} {h : ax_H} {t : ty_V} (hr : ty_ps K ty_z 0 h j t) : ty_ps K ρ N h j t := by
  unfold ty_ps at hr ⊢
  split at hr
  · exact fun v hv => ty_in_z (hr v hv)
  · trivial
theorem ty_wk_ok {W : Nat} {K : Int} {h h' : ax_H} {j : Nat} (hw : ty_wk W = true) (hF : ty_F W h h') (hj : W.testBit (111 + j) = false) (hj3 : j < 3) : ty_pv K h' j = ty_pv K h j := by
  simp only [ty_wk, Bool.and_eq_true, Bool.or_eq_true, Bool.not_eq_true'] at hw
  obtain ⟨w1, w2, w3⟩ := hw
  have t1 : (ty_tab 181).2.2.1 = 64 := by decide +kernel
  have t2 : (ty_tab 185).2.2.1 = 99 := by decide +kernel
  have t3 : ty_ar 181 = false := by decide +kernel
  have t4 : ty_ar 185 = true := by decide +kernel
  have hk : ∀ j', ty_ky 181 j' = 63 + j' := fun j' => by unfold ty_ky; rw [t1, t3]; rfl
  have hk5 : ∀ j', ty_ky 185 j' = 98 := fun j' => by unfold ty_ky; rw [t2, t4]; rfl
  have f1 : ∀ j', W.testBit (63 + j') = false → ty_fd h' 181 j' = ty_fd h 181 j' := fun j' hb => hF.2.1 181 j' (by decide) (by rw [t1]; decide) (by rw [hk]; exact hb)
  have f5 : W.testBit 98 = false → ∀ j', ty_fd h' 185 j' = ty_fd h 185 j' := fun hb j' => hF.2.1 185 j' (by decide) (by rw [t2]; decide) (by rw [hk5]; exact hb)
  rcases (by omega : j = 0 ∨ j = 1 ∨ j = 2) with rfl | rfl | rfl
  · rcases w1 with q | ⟨q1, q2⟩
    · rw [q] at hj; cases hj
    · simp only [ty_pv, f1 9 q1, f5 q2]
  · rcases w2 with q | ⟨q1, q2⟩
    · rw [q] at hj; cases hj
    · exact ty_pv_eq1 (by decide) (f1 8 q1) (f1 14 q2)
  · rcases w3 with q | q1
    · rw [q] at hj; cases hj
    · simp only [ty_pv, f1 8 q1]
theorem ty_mg_ok {K : Int} {ρ : Nat → Int} {N W : Nat} {e ov : ty_O} {h h' : ax_H} (hw : ty_wk W = true) (hF : ty_F W h h') (hH : ty_H K ρ N ov h) (hE : ty_H K ty_z 0 e h') : ty_H K ρ N (ty_mg W e ov) h' := by
  obtain ⟨h1, h2, h3⟩ := hH
  obtain ⟨e1, e2, e3⟩ := hE
  have hL := hF.Lo
  have kp_fd : ∀ q j1, q < 198 → ty_kp W q j1 = true → ∀ j, (ty_ar q = false → j = j1 - 1) → ty_fd h' q j = ty_fd h q j := by
    intro q j1 hq hk j hj
    unfold ty_kp at hk
    rw [ty_beq_no (show q ≠ 300 by omega), cond_false] at hk
    simp only [Bool.and_eq_true, Bool.not_eq_true'] at hk
    refine hF.2.1 q j hq (Nat.ne_of_beq_eq_false hk.1) ?_
    have := hk.2.2
    unfold ty_ky at this ⊢
    cases ha : ty_ar q with
    | true => rw [ha] at this; exact this
    | false => rw [ha] at this; rw [hj ha]; exact this
  refine ⟨e1, fun q hq => ?_, fun j => ?_⟩
  · obtain ⟨vs', a1, a2, a3⟩ := e2 q hq
    obtain ⟨vs, b1, b2, b3⟩ := h2 q hq
    refine ⟨vs', a1, a2, fun j x hx => ⟨?_, fun hm => ty_r_z ((a3 j x hx).2 hm)⟩⟩
    have hE := (a3 j x hx).1
    have hold : ty_fd h' q j = ty_fd h q j → ty_r ρ N h (ty_lk ov q j) x := by
      intro hf
      have e9 : ty_fd h' q j = some x := ty_fd_of a1 hx
      rw [hf] at e9
      unfold ty_fd at e9
      rw [b1] at e9
      exact (b3 j x e9).1
    cases ha : ty_ar q with
    | false =>
      -- an object
      have lk1 : ∀ o : ty_O, ty_lk o q j = match ty_fi o q (j + 1) with | some t => t | none => ty_tt q j := fun o => by
        unfold ty_lk
        rw [ha]
        rfl
      rw [lk1, ty_mg, ty_fi_app, ty_fi_fm]
      rw [lk1] at hE
      cases hs : ty_fi ov q (j + 1) with
      | none =>
        dsimp only
        exact ty_r_z hE
      | some s =>
        dsimp only
        cases hm : ty_mf W e (q, j + 1, s) with
        | none =>
          simp only [Option.map_none]
          exact ty_r_z hE
        | some y =>
          simp only [Option.map_some]
          unfold ty_mf at hm
          dsimp only at hm
          cases hk : ty_kp W q (j + 1) with
          | false => rw [hk] at hm; cases hm
          | true =>
            rw [hk, ha] at hm
            simp only [cond_true, cond_false] at hm
            have hr := hold (kp_fd q (j + 1) hq hk j (fun _ => by omega))
            rw [lk1, hs] at hr
            dsimp only at hr
            split at hm
            · rename_i t ht
              cases hm
              rw [ht] at hE
              exact ty_xs_ok (hr.mv hL) hE
            · cases hm
              exact hr.mv hL
    | true =>
      -- an array
      have lk1 : ∀ o : ty_O, ty_lk o q j = match ty_fi o q (j + 1) with | some t => t | none => ty_un o q := fun o => by
        unfold ty_lk
        rw [ha]
        rfl
      have un1 : ∀ o : ty_O, ty_un o q = match ty_fi o q 0 with | some t => t | none => ty_tt q 0 := fun o => rfl
      have kpe : ty_kp W q (j + 1) = ty_kp W q 0 := by
        unfold ty_kp ty_ky
        rw [ty_beq_no (show q ≠ 300 by omega), ha]
        rfl
      cases hc : ty_kp W q 0 && !(ty_has e q) with
      | true =>
        simp only [Bool.and_eq_true, Bool.not_eq_true'] at hc
        have mf : ∀ j1 s, (j1 = 0 ∨ j1 = j + 1) → ty_mf W e (q, j1, s) = some (q, j1, s) := by
          intro j1 s hj
          unfold ty_mf
          dsimp only
          have : ty_kp W q j1 = true := by
            rcases hj with rfl | rfl
            · exact hc.1
            · rw [kpe]; exact hc.1
          rw [this, ha, hc.2]
          rfl
        have fi : ∀ j1, (j1 = 0 ∨ j1 = j + 1) → ty_fi (ty_mg W e ov) q j1 = ty_fi ov q j1 := by
          intro j1 hj
          rw [ty_mg, ty_fi_app, ty_fi_fm, ty_has_no hc.2]
          cases hs : ty_fi ov q j1 with
          | none => rfl
          | some s =>
            dsimp only
            rw [mf j1 s hj]
            rfl
        have hr := hold (kp_fd q 0 hq hc.1 j (fun h => by rw [ha] at h; cases h))
        rw [lk1, un1] at hr
        rw [lk1, un1, fi _ (Or.inr rfl), fi _ (Or.inl rfl)]
        exact hr.mv hL
      | false =>
        have mf : ∀ j1 s, (j1 = 0 ∨ j1 = j + 1) → ty_mf W e (q, j1, s) = none := by
          intro j1 s hj
          unfold ty_mf
          dsimp only
          have : ty_kp W q j1 = ty_kp W q 0 := by
            rcases hj with rfl | rfl
            · rfl
            · exact kpe
          rw [this, ha]
          simp only [Bool.and_eq_false_iff, Bool.not_eq_false'] at hc
          rcases hc with c1 | c1
          · rw [c1]; rfl
          · rw [c1]
            cases ty_kp W q 0 <;> rfl
        have fi : ∀ j1, (j1 = 0 ∨ j1 = j + 1) → ty_fi (ty_mg W e ov) q j1 = ty_fi e q j1 := by
          intro j1 hj
          rw [ty_mg, ty_fi_app, ty_fi_fm]
          cases hs : ty_fi ov q j1 with
          | none => rfl
          | some s =>
            dsimp only
            rw [mf j1 s hj]
            rfl
        rw [lk1, un1] at hE
        rw [lk1, un1, fi _ (Or.inr rfl), fi _ (Or.inl rfl)]
        exact ty_r_z hE
  · -- the three numbers
    have lk1 : ∀ o : ty_O, ty_lk o 300 j = match ty_fi o 300 (j + 1) with | some t => t | none => ty_tt 300 j := fun o => by
      unfold ty_lk
      rw [show ty_ar 300 = false by decide +kernel]
      rfl
    have hE := e3 j
    rw [lk1, ty_mg, ty_fi_app, ty_fi_fm]
    rw [lk1] at hE
    cases hs : ty_fi ov 300 (j + 1) with
    | none =>
      dsimp only
      exact ty_ps_z hE
    | some s =>
      dsimp only
      cases hm : ty_mf W e (300, j + 1, s) with
      | none =>
        simp only [Option.map_none]
        exact ty_ps_z hE
      | some y =>
        simp only [Option.map_some]
        unfold ty_mf at hm
        dsimp only at hm
        cases hk : ty_kp W 300 (j + 1) with
        | false => rw [hk] at hm; cases hm
        | true =>
          rw [hk, show ty_ar 300 = false by decide +kernel] at hm
          simp only [cond_true, cond_false] at hm
          have hpv : ty_pv K h' j = ty_pv K h j ∨ 3 ≤ j := by
            rcases Nat.lt_or_ge j 3 with q | q
            · refine Or.inl (ty_wk_ok hw hF ?_ q)
              unfold ty_kp at hk
              simp only [Nat.beq_refl, cond_true, Bool.and_eq_true, Bool.not_eq_true'] at hk
              have := hk.2
              rw [show 111 + j = 110 + (j + 1) by omega]
              exact this
            · exact Or.inr q
          have hr : ty_ps K ρ N h' j s := by
            have := h3 j
            rw [lk1, hs] at this
            dsimp only at this
            rcases hpv with q | q
            · exact ty_ps_eq q this
            · obtain ⟨j', rfl⟩ : ∃ j', j = j' + 3 := ⟨j - 3, by omega⟩
              exact ty_ps_eq rfl this
          split at hm
          · rename_i t ht
            cases hm
            rw [ht] at hE
            exact ty_xs_ps hr hE
          · cases hm
            exact hr
/-- can't be so -/
def ty_em (ov : ty_O) : Bool := ov.any (fun e => Nat.blt e.1 198 && (!(ty_ar e.1) && (Nat.ble 1 e.2.1 && (Nat.ble e.2.1 (ty_tab e.1).2.1 && (match ty_lk ov e.1 (e.2.1 - 1) with
  | (k, _, _, a, z) => Nat.blt k 2 && !(ty_le a z))))))
theorem ty_em_ok {K : Int} {ρ : Nat → Int} {N : Nat} {ov : ty_O} {h : ax_H} (hH : ty_H K ρ N ov h) (he : ty_em ov = true) : False := by
  simp only [ty_em, List.any_eq_true, Bool.and_eq_true] at he
  obtain ⟨e, -, h1, -, h3, h4, h5⟩ := he
  have h1 : e.1 < 198 := Nat.le_of_ble_eq_true h1
  have h3 := Nat.le_of_ble_eq_true h3
  have h4 := Nat.le_of_ble_eq_true h4
  obtain ⟨vs, e1, e2, e3⟩ := hH.2.1 e.1 h1
  have hl : e.2.1 - 1 < vs.length := by omega
  have hr := (e3 _ _ (List.getElem?_eq_getElem hl)).1
  obtain ⟨⟨k, n, f, a, z⟩, hq⟩ : ∃ t, ty_lk ov e.1 (e.2.1 - 1) = t := ⟨_, rfl⟩
  rw [hq] at hr h5
  dsimp only at h5
  simp only [Bool.and_eq_true, Bool.not_eq_true'] at h5
  have hk : k < 2 := Nat.le_of_ble_eq_true h5.1
  have hz := ty_le_no h5.2
  rcases (by omega : k = 0 ∨ k = 1) with rfl | rfl
  · obtain ⟨i, -, h6, h7, -⟩ := hr
    omega
  · obtain ⟨i, -, h6, h7, -⟩ := hr
    omega
/-! ends -/
def ty_rl2 (e r : Option ty_V ⊕ String) : Bool := match e, r with
  | .inl none, .inl none => true
  | .inl (some t), .inl (some s) => ty_tl t s
  | .inr E, .inr E' => E' == E
  | _, _ => false
def ty_inL (L : List ty_E) (r : Option ty_V ⊕ String) (ov : ty_O) : Bool := L.any (fun e => ty_rl2 e.1 r && ty_ole e.2 ov)
noncomputable def ty_fin (i pc : Nat) (ins : Instr) (a : Nat) (st : List ty_V) (bc bs : Nat) : Option (Option ty_V ⊕ String) := match ins with
  | .ireturn => match st with
    | [t] => bif Nat.beq t.1 0 && (match (ax_mm i).2.2.2.1 with
      | some .int => true
      | some .boolean => ty_le 0 t.2.2.2.1 && ty_le t.2.2.2.2 1
      | _ => false) then some (.inl (some t)) else none
    | _ => none
  | .lreturn => match st with
    | [t] => bif Nat.beq t.1 1 && (match (ax_mm i).2.2.2.1 with
      | some .long => true
      | _ => false) then some (.inl (some t)) else none
    | _ => none
  | .areturn => match st with
    | [t] => bif ty_isA t && (match (ax_mm i).2.2.2.1 with
      | some (.object _) => true
      | _ => false) then some (.inl (some t)) else none
    | _ => none
  | .return_ => match st with
    | [] => (match (ax_mm i).2.2.2.1 with
      | none => some (.inl none)
      | _ => none)
    | _ => none
  | .new _ => bif ax_thrs.any (fun q => Nat.beq q.1 i && (Nat.beq q.2.1 pc && Nat.beq q.2.2 (a - 800))) && (Nat.ble 800 a && ((ax_mm i).2.2.2.2.isEmpty && (ty_c6 st && (Nat.ble (ty_cs st) 100 && (Nat.ble 1 bc && Nat.ble 6 bs))))) then some (.inr (ax_exc.getD (a - 800) "")) else none
  | _ => none
