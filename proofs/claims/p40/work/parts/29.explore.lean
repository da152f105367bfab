/-! THE EXPLORER: all ways from a place, up to places of which it is known how they go on -/
abbrev ax_Fk : Type := Nat × Nat × Nat × Value × Value × (Int × Int) × (Int × Int) × List Value
def ax_fk2 (c pc : Nat) (off : Int) (st : List Value) : Option ax_Fk := match st with
  | y :: x :: st => (match ax_rn x, ax_rn y with
    | some p, some q => if 0 ≤ (pc : Int) + off then some (c, ((pc : Int) + off).toNat, pc + 3, x, y, p, q, st) else none
    | _, _ => none)
  | _ => none
def ax_fk1 (c pc : Nat) (off : Int) (st : List Value) : Option ax_Fk := match st with
  | x :: st => (match ax_rn x with
    | some p => if 0 ≤ (pc : Int) + off then some (c, ((pc : Int) + off).toNat, pc + 3, x, .int 0, p, (0, 0), st) else none
    | none => none)
  | _ => none
def ax_fork (pc : Nat) (ins : Instr) (st : List Value) : Option ax_Fk := match ins with
  | .if_icmp .eq off => ax_fk2 0 pc off st
  | .ifCond .eq off => ax_fk1 0 pc off st
  | .if_icmp .ne off => ax_fk2 1 pc off st
  | .ifCond .ne off => ax_fk1 1 pc off st
  | .if_icmp .lt off => ax_fk2 2 pc off st
  | .ifCond .lt off => ax_fk1 2 pc off st
  | .if_icmp .ge off => ax_fk2 3 pc off st
  | .ifCond .ge off => ax_fk1 3 pc off st
  | .if_icmp .gt off => ax_fk2 4 pc off st
  | .ifCond .gt off => ax_fk1 4 pc off st
  | .if_icmp .le off => ax_fk2 5 pc off st
  | .ifCond .le off => ax_fk1 5 pc off st
  | _ => none
section AXFO
variable {l : Launch} {k : ax_M} {d : Nat} {r : ax_H} {P : ax_P} {X : ax_PX} {pc : Nat} {lv : List (Nat × Value)} {st : List Value} {h : ax_H} {bc bs : Nat}
theorem ax_fk2_ok {c pt pf : Nat} {off : Int} {x y : Value} {p q : Int × Int} {st0 : List Value} {c0 : Nat} (hc : c0 < 6) (hs : ax_fk2 c0 pc off st = some (c, pt, pf, x, y, p, q, st0))
    (step : 0 ≤ (pc : Int) + off → ∀ (i j : Int32) (lv : List (Nat × Value)) (st : List Value) (h : ax_H), AR ax_ns l k d r P X (if ax_fc c0 i j then ((pc : Int) + off).toNat else pc + 3) lv st h bc bs → AR ax_ns l k d r P X pc lv (.int j :: .int i :: st) h bc bs)
    (K1 : ax_emp (ax_ct c p q) = false → AR ax_ns l k d r P X pt (ax_nar (ax_mk2 y (ax_ct c p q).2) (ax_nar (ax_mk2 x (ax_ct c p q).1) lv)) (ax_nas (ax_mk2 y (ax_ct c p q).2) (ax_nas (ax_mk2 x (ax_ct c p q).1) st0)) (ax_nah (ax_mk2 y (ax_ct c p q).2) (ax_nah (ax_mk2 x (ax_ct c p q).1) h)) bc bs) (K2 : ax_emp (ax_cf c p q) = false → AR ax_ns l k d r P X pf (ax_nar (ax_mk2 y (ax_cf c p q).2) (ax_nar (ax_mk2 x (ax_cf c p q).1) lv)) (ax_nas (ax_mk2 y (ax_cf c p q).2) (ax_nas (ax_mk2 x (ax_cf c p q).1) st0)) (ax_nah (ax_mk2 y (ax_cf c p q).2) (ax_nah (ax_mk2 x (ax_cf c p q).1) h)) bc bs) : AR ax_ns l k d r P X pc lv st h bc bs := by
  unfold ax_fk2 at hs
  split at hs
  · split at hs
    · rename_i hx hy
      split at hs
      · rename_i h0
        cases hs
        exact AR.fork2 hc hx hy (step h0) K1 K2
      · cases hs
    · cases hs
  · cases hs
theorem ax_fk1_ok {c pt pf : Nat} {off : Int} {x y : Value} {p q : Int × Int} {st0 : List Value} {c0 : Nat} (hc : c0 < 6) (hs : ax_fk1 c0 pc off st = some (c, pt, pf, x, y, p, q, st0))
    (step : 0 ≤ (pc : Int) + off → ∀ (i : Int32) (lv : List (Nat × Value)) (st : List Value) (h : ax_H), AR ax_ns l k d r P X (if ax_fc c0 i 0 then ((pc : Int) + off).toNat else pc + 3) lv st h bc bs → AR ax_ns l k d r P X pc lv (.int i :: st) h bc bs)
    (K1 : ax_emp (ax_ct c p q) = false → AR ax_ns l k d r P X pt (ax_nar (ax_mk2 y (ax_ct c p q).2) (ax_nar (ax_mk2 x (ax_ct c p q).1) lv)) (ax_nas (ax_mk2 y (ax_ct c p q).2) (ax_nas (ax_mk2 x (ax_ct c p q).1) st0)) (ax_nah (ax_mk2 y (ax_ct c p q).2) (ax_nah (ax_mk2 x (ax_ct c p q).1) h)) bc bs) (K2 : ax_emp (ax_cf c p q) = false → AR ax_ns l k d r P X pf (ax_nar (ax_mk2 y (ax_cf c p q).2) (ax_nar (ax_mk2 x (ax_cf c p q).1) lv)) (ax_nas (ax_mk2 y (ax_cf c p q).2) (ax_nas (ax_mk2 x (ax_cf c p q).1) st0)) (ax_nah (ax_mk2 y (ax_cf c p q).2) (ax_nah (ax_mk2 x (ax_cf c p q).1) h)) bc bs) : AR ax_ns l k d r P X pc lv st h bc bs := by
  unfold ax_fk1 at hs
  split at hs
  · split at hs
    · rename_i hx
      split at hs
      · rename_i h0
        cases hs
        exact AR.fork1 hc hx (step h0) K1 K2
      · cases hs
    · cases hs
  · cases hs
theorem ax_fork_ok {ins : Instr} {c pt pf : Nat} {x y : Value} {p q : Int × Int} {st0 : List Value} (hd : decode k.2.1 pc = .ok (ins, ax_len ins)) (hs : ax_fork pc ins st = some (c, pt, pf, x, y, p, q, st0))
    (K1 : ax_emp (ax_ct c p q) = false → AR ax_ns l k d r P X pt (ax_nar (ax_mk2 y (ax_ct c p q).2) (ax_nar (ax_mk2 x (ax_ct c p q).1) lv)) (ax_nas (ax_mk2 y (ax_ct c p q).2) (ax_nas (ax_mk2 x (ax_ct c p q).1) st0)) (ax_nah (ax_mk2 y (ax_ct c p q).2) (ax_nah (ax_mk2 x (ax_ct c p q).1) h)) bc bs) (K2 : ax_emp (ax_cf c p q) = false → AR ax_ns l k d r P X pf (ax_nar (ax_mk2 y (ax_cf c p q).2) (ax_nar (ax_mk2 x (ax_cf c p q).1) lv)) (ax_nas (ax_mk2 y (ax_cf c p q).2) (ax_nas (ax_mk2 x (ax_cf c p q).1) st0)) (ax_nah (ax_mk2 y (ax_cf c p q).2) (ax_nah (ax_mk2 x (ax_cf c p q).1) h)) bc bs) : AR ax_ns l k d r P X pc lv st h bc bs := by
  unfold ax_fork at hs
  split at hs
  · exact ax_fk2_ok (by decide) hs (fun h0 => AR.st2_eq hd h0) K1 K2
  · exact ax_fk1_ok (by decide) hs (fun h0 => AR.st1_eq hd h0) K1 K2
  · exact ax_fk2_ok (by decide) hs (fun h0 => AR.st2_ne hd h0) K1 K2
  · exact ax_fk1_ok (by decide) hs (fun h0 => AR.st1_ne hd h0) K1 K2
  · exact ax_fk2_ok (by decide) hs (fun h0 => AR.st2_lt hd h0) K1 K2
  · exact ax_fk1_ok (by decide) hs (fun h0 => AR.st1_lt hd h0) K1 K2
  · exact ax_fk2_ok (by decide) hs (fun h0 => AR.st2_ge hd h0) K1 K2
  · exact ax_fk1_ok (by decide) hs (fun h0 => AR.st1_ge hd h0) K1 K2
  · exact ax_fk2_ok (by decide) hs (fun h0 => AR.st2_gt hd h0) K1 K2
  · exact ax_fk1_ok (by decide) hs (fun h0 => AR.st1_gt hd h0) K1 K2
  · exact ax_fk2_ok (by decide) hs (fun h0 => AR.st2_le hd h0) K1 K2
  · exact ax_fk1_ok (by decide) hs (fun h0 => AR.st1_le hd h0) K1 K2
  · cases hs
end AXFO
/-- may the rest go into the gap? -/
def ax_cok (w : Nat) (lv : List (Nat × Value)) (st : List Value) (h : ax_H) : Bool := Nat.ble 198 h.length && (Nat.blt h.length 1000000000 && (Nat.ble w h.length && (lv.all (fun q => ax_und h.length q.2) && (st.all (ax_und h.length) && h.all (fun q => q.2.all (ax_und h.length))))))
abbrev ax_Lo : Type := Nat × Nat × List ((Option Value ⊕ String) × ax_H)
/-- an int field without a name gets one -/
noncomputable def ax_frs (B : Nat) (ins : Instr) (b : Nat) (N : Nat) (lv : List (Nat × Value)) (st : List Value) (h : ax_H) : Option ax_H := match ins, st with
  | .getfield _, .ref q :: _ => (match h[q]? with
    | some (t, vs) => (match vs[b]? with
      | some (.float g) => if (Nat.blt g.toNat 1000 && Nat.ble B ((UInt32.ofNat (1000 * N + g.toNat)).toNat / 1000)) && (Nat.blt t 99 && (decide (ax_rg (UInt32.ofNat (1000 * N + g.toNat)) = ax_rg g) && (Nat.ble 1000 (UInt32.ofNat (1000 * N + g.toNat)).toNat && (lv.all (fun q => ax_nob (UInt32.ofNat (1000 * N + g.toNat)) q.2) && (st.all (ax_nob (UInt32.ofNat (1000 * N + g.toNat))) && h.all (fun q => q.2.all (ax_nob (UInt32.ofNat (1000 * N + g.toNat))))))))) then
          ax_hs vs b (.float (UInt32.ofNat (1000 * N + g.toNat))) fun vs => ax_hs h q (t, vs) fun h => some h else none
      | _ => none)
    | none => none)
  | _, _ => none
noncomputable def ax_xp (r : ax_H) (w B : Nat) (call : Nat → List Value → ax_H → Option ax_Lo) (stop : Nat → List (Nat × Value) → List Value → ax_H → Nat → Nat → Option Bool) (xstop : Nat → String → ax_H → Nat → Nat → Bool) (i : Nat) : Nat → Nat → List (Nat × Value) → List Value → ax_H → Nat → Nat → Nat → Bool
  | 0, _, _, _, _, _, _, _ => false
  | n + 1, pc, lv, st, h, bc, bs, N => match stop pc lv st h bc bs with
    | some t => t
    | none => match ax_look i pc with
      | none => false
      | some (ins, (a, b, c), v, _) => match ax_frs B ins b N lv st h with
        | some h' => ax_fn (N + 1) fun N' => ax_xp r w B call stop xstop i n pc lv st h' bc bs N'
        | none => match ax_kind ins a c with
          | 0 => (match ax_one r (ax_mm i).2.2.1 pc ins a b c v lv st h with
            | some (pc', lv', st', h', dc, ds) => Nat.ble dc bc && (Nat.ble ds bs && ax_fn pc' fun pc' => ax_fn (bc - dc) fun bc' => ax_fn (bs - ds) fun bs' => ax_ft st' fun st' => ax_xp r w B call stop xstop i n pc' lv' st' h' bc' bs' N)
            | none => (match ax_two r pc ins a b st h with
              | some (pc', st') => ax_fn pc' fun pc' => ax_ft st' fun st' => ax_xp r w B call stop xstop i n pc' lv st' h bc bs N
              | none => (match ax_fork pc ins st with
                | some (c, pt, pf, x, y, p, q, st0) => (ax_emp (ax_ct c p q) || ax_fn pt fun pt => ax_xp r w B call stop xstop i n pt (ax_nar (ax_mk2 y (ax_ct c p q).2) (ax_nar (ax_mk2 x (ax_ct c p q).1) lv)) (ax_nas (ax_mk2 y (ax_ct c p q).2) (ax_nas (ax_mk2 x (ax_ct c p q).1) st0)) (ax_nah (ax_mk2 y (ax_ct c p q).2) (ax_nah (ax_mk2 x (ax_ct c p q).1) h)) bc bs N) && (ax_emp (ax_cf c p q) || ax_fn pf fun pf => ax_xp r w B call stop xstop i n pf (ax_nar (ax_mk2 y (ax_cf c p q).2) (ax_nar (ax_mk2 x (ax_cf c p q).1) lv)) (ax_nas (ax_mk2 y (ax_cf c p q).2) (ax_nas (ax_mk2 x (ax_cf c p q).1) st0)) (ax_nah (ax_mk2 y (ax_cf c p q).2) (ax_nah (ax_mk2 x (ax_cf c p q).1) h)) bc bs N)
                | none => false)))
          | 1 => (match ax_arg r ins a b c st h with
            | some (as, rest) => (match call a as h with
              | some (dc, ds, L) => Nat.ble dc bc && (Nat.ble ds bs && L.all (fun e => match e with
                | (.inl v, h') => ax_cok w lv (v.toList ++ rest) h' && ax_fn (bc - dc) fun bc' => ax_fn (bs - ds) fun bs' => ax_fn (pc + 3) fun pc' => ax_ft (v.toList ++ rest) fun st' => ax_xp r w B call stop xstop i n pc' lv st' h' bc' bs' N
                | (.inr E, h') => (match ax_hand i pc E with
                  | some q => ax_cok w lv [.retAddr 0] h' && ax_fn (bc - dc) fun bc' => ax_fn (bs - ds) fun bs' => ax_xp r w B call stop xstop i n q.2.2.2.1 lv [.retAddr 0] h' bc' bs' N
                  | none => xstop pc E h' (bc - dc) (bs - ds))))
              | none => false)
            | none => false)
          | _ => false
section AXEX
variable {l : Launch} {r : ax_H} {P : ax_P} {X : ax_PX}
theorem ax_cok_ok {ns : ax_NS} {k : ax_M} {d : Nat} {w B pc bc bs : Nat} {lv : List (Nat × Value)} {st : List Value} {h gs : ax_H} (hw2 : 198 ≤ w) (hr : ax_lowh r = true) (hrl : r.length < 900) (hP : ax_clo w B P) (hX : ax_clx w B X) (hk : ax_cok w lv st h = true) (K : AR ns l k d r P X pc lv st h bc bs) : AR ns l k d r P X pc lv st (h ++ gs) bc bs := by
  simp only [ax_cok, Bool.and_eq_true] at hk
  obtain ⟨k1, k2, k3, k4, k5, k6⟩ := hk
  exact AR.collect (Nat.le_of_ble_eq_true k1) (Nat.le_of_ble_eq_true k2) (Nat.le_of_ble_eq_true k3) hw2 k4 k5 k6 hr hrl hP hX K
theorem ax_frs_ok {ns : ax_NS} {k : ax_M} {d : Nat} {w B pc bc bs b N : Nat} {ins : Instr} {lv : List (Nat × Value)} {st : List Value} {h h' : ax_H} (hr : ax_nn r = true) (hP : ax_clo w B P) (hX : ax_clx w B X) (hs : ax_frs B ins b N lv st h = some h') (K : AR ns l k d r P X pc lv st h' bc bs) : AR ns l k d r P X pc lv st h bc bs := by
  unfold ax_frs at hs
  split at hs
  · rename_i ix q st0
    split at hs
    · rename_i t vs hg
      split at hs
      · rename_i g hv
        split at hs
        · rename_i hc
          simp only [Bool.and_eq_true, decide_eq_true_eq] at hc
          obtain ⟨c1, c2, c3, c4, c5, c6, c7⟩ := hc
          simp only [ax_hs_eq] at hs
          cases hs
          exact AR.fresh (Nat.le_of_ble_eq_true c4) (Nat.le_of_ble_eq_true c1.2) c3 hg hv (by have : t + 1 ≤ 99 := Nat.le_of_ble_eq_true c2; omega) c5 c6 c7 hr hP hX K
        · cases hs
      · cases hs
    · cases hs
  · cases hs
theorem ax_xp_ok {w B dy i : Nat} {call : Nat → List Value → ax_H → Option ax_Lo} {stop : Nat → List (Nat × Value) → List Value → ax_H → Nat → Nat → Option Bool} {xstop : Nat → String → ax_H → Nat → Nat → Bool} (hw2 : 198 ≤ w) (hr : ax_lowh r = true) (hrl : r.length < 900) (hrn : ax_nn r = true) (hP : ax_clo w B P) (hX : ax_clx w B X)
    (hc : ∀ a as h dc ds L, call a as h = some (dc, ds, L) → ∃ Q, AM ax_ns l (ax_mm a) dy r dc ds as h Q ∧ ∀ res h2, Q res h2 → ∃ e ∈ L, res = e.1 ∧ ∃ gs, h2 = e.2 ++ gs)
    (hstop : ∀ pc lv st h bc bs, stop pc lv st h bc bs = some true → AR ax_ns l (ax_mm i) (dy + 1) r P X pc lv st h bc bs) (hx : ∀ pc lv E h bc bs, xstop pc E h bc bs = true → ∀ gs, AX ax_ns l (ax_mm i) (dy + 1) r P X pc lv E (h ++ gs) bc bs) :
    ∀ (n pc : Nat) (lv : List (Nat × Value)) (st : List Value) (h : ax_H) (bc bs N : Nat), ax_xp r w B call stop xstop i n pc lv st h bc bs N = true → AR ax_ns l (ax_mm i) (dy + 1) r P X pc lv st h bc bs := by
  intro n
  induction n with
  | zero => intro pc lv st h bc bs N hs; cases hs
  | succ n ih =>
    intro pc lv st h bc bs N hs
    rw [ax_xp] at hs
    split at hs
    · rename_i t ht
      subst hs
      exact hstop _ _ _ _ _ _ ht
    split at hs
    · cases hs
    rename_i _ ins a b c v ws hl
    split at hs
    · rename_i h' hf
      simp only [ax_fn_eq] at hs
      exact ax_frs_ok hrn hP hX hf (ih _ _ _ _ _ _ _ hs)
    obtain ⟨hd, hok⟩ := ax_look_ok hl
    split at hs
    · split at hs
      · rename_i pc' lv' st' h1 dc ds ho
        simp only [ax_fn_eq, ax_ft_eq, Bool.and_eq_true] at hs
        obtain ⟨e1, e2, e3⟩ := hs
        have e1 := Nat.le_of_ble_eq_true e1
        have e2 := Nat.le_of_ble_eq_true e2
        exact AR.cast (by omega) (by omega) (ax_one_ok hd hok ho (ih _ _ _ _ _ _ _ e3))
      · split at hs
        · rename_i pc' st' ho
          simp only [ax_fn_eq, ax_ft_eq] at hs
          exact ax_two_ok hd hok ho (ih _ _ _ _ _ _ _ hs)
        · split at hs
          · rename_i c pt pf x y p q st0 ho
            simp only [ax_fn_eq, Bool.and_eq_true, Bool.or_eq_true] at hs
            refine ax_fork_ok hd ho (fun he => ?_) (fun he => ?_)
            · rcases hs.1 with h1 | h1
              · rw [he] at h1; cases h1
              · exact ih _ _ _ _ _ _ _ h1
            · rcases hs.2 with h1 | h1
              · rw [he] at h1; cases h1
              · exact ih _ _ _ _ _ _ _ h1
          · cases hs
    · split at hs
      · rename_i as rest hg
        split at hs
        · rename_i dc ds L hcall
          simp only [Bool.and_eq_true] at hs
          obtain ⟨e1, e2, e3⟩ := hs
          obtain ⟨Q, hM, hQ⟩ := hc _ _ _ _ _ _ hcall
          refine AR.call hl hg hM (Nat.le_refl _) (Nat.le_of_ble_eq_true e1) (Nat.le_of_ble_eq_true e2) (fun v h' hq => ?_) (fun E h' hq => ?_)
          · obtain ⟨e, he, h1, gs, h2⟩ := hQ _ _ hq
            obtain ⟨er, eh⟩ := e
            cases h1
            cases h2
            have h3 := List.all_eq_true.mp e3 _ he
            simp only [ax_fn_eq, ax_ft_eq, Bool.and_eq_true] at h3
            exact ax_cok_ok hw2 hr hrl hP hX h3.1 (ih _ _ _ _ _ _ _ h3.2)
          · obtain ⟨e, he, h1, gs, h2⟩ := hQ _ _ hq
            obtain ⟨er, eh⟩ := e
            cases h1
            cases h2
            have h3 := List.all_eq_true.mp e3 _ he
            dsimp only at h3
            split at h3
            · rename_i q hh
              simp only [ax_fn_eq, Bool.and_eq_true] at h3
              exact ax_hand_ok hh (ax_cok_ok hw2 hr hrl hP hX h3.1 (ih _ _ _ _ _ _ _ h3.2))
            · exact hx _ _ _ _ _ _ h3 _
        · cases hs
      · cases hs
    · cases hs
end AXEX
