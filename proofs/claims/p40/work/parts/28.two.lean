/-! STEPS THAT LEAVE THE HEAP AS IT IS, by intervals and groups, as a function -/
def ax_pick (vs : List Value) (d : Value) : Value := match vs with
  | y :: _ => if ax_uni y vs then y else d
  | [] => d
def ax_gfst (h : ax_H) (g : Nat) : List Value := match ax_gl g with
  | c :: _ => (match h[c]? with | some (_, vs) => vs | none => [])
  | [] => []
def ax_gar (tag : Nat) (hi : Int) (z : Value) (q : Option (Nat × List Value)) : Bool := match q with
  | some (t, vs) => Nat.beq t tag && (decide (hi < vs.length) && ax_uni z vs)
  | none => false
def ax_arU (tag : Nat) (d : Value) (r h : ax_H) (st : List Value) : Option (List Value) := match st with
  | x :: .ref q :: st => (match ax_get r h q, ax_rn x with
    | some (t, vs), some p => if Nat.beq t tag && (decide (0 ≤ p.1) && (decide (p.2 < vs.length) && ax_uni (ax_pick vs d) vs)) then some (ax_pick vs d :: st) else none
    | _, _ => none)
  | x :: .retAddr (g + 1) :: st => (match ax_rn x with
    | some p => if decide (0 ≤ p.1) && (ax_gl g).all (fun c => ax_gar tag p.2 (ax_pick (ax_gfst h g) d) h[c]?) then some (ax_pick (ax_gfst h g) d :: st) else none
    | none => none)
  | _ => none
def ax_gas (tag : Nat) (hi : Int) (v : Value) (q : Option (Nat × List Value)) : Bool := match q with
  | some (t, vs) => Nat.beq t tag && (decide (hi < vs.length) && ax_unw vs v)
  | none => false
def ax_asU (tag : Nat) (ok : Value → Bool) (h : ax_H) (st : List Value) : Option (List Value) := match st with
  | v :: x :: .ref q :: st => (match h[q]?, ax_rn x with
    | some (t, vs), some p => if Nat.beq t tag && (decide (0 ≤ p.1) && (decide (p.2 < vs.length) && (ax_unw vs v && (ok v && Nat.blt q 1000000000)))) then some st else none
    | _, _ => none)
  | v :: x :: .retAddr (g + 1) :: st => (match ax_rn x with
    | some p => if decide (0 ≤ p.1) && (ok v && (ax_gl g).all (fun c => ax_gas tag p.2 v h[c]?)) then some st else none
    | none => none)
  | _ => none
section AXTW
variable {ns : ax_NS} {l : Launch} {k : ax_M} {d : Nat} {r : ax_H} {P : ax_P} {X : ax_PX} {pc : Nat} {lv : List (Nat × Value)} {st st' : List Value} {h : ax_H} {bc bs : Nat}
theorem ax_arU_ok {tag : Nat} {dv : Value} (step : ∀ (a : Nat) (i : Int32) (vs : List Value) (y : Value) (st : List Value), ax_get r h a = some (tag, vs) → ¬ i < 0 → vs[i.toNatClampNeg]? = some y → AR ns l k d r P X (pc + 1) lv (y :: st) h bc bs → AR ns l k d r P X pc lv (.int i :: .ref a :: st) h bc bs)
    (hs : ax_arU tag dv r h st = some st') (K : AR ns l k d r P X (pc + 1) lv st' h bc bs) : AR ns l k d r P X pc lv st h bc bs := by
  unfold ax_arU at hs
  split at hs
  · rename_i x q st0
    split at hs
    · rename_i t vs p hg hx
      split at hs
      · rename_i hc
        simp only [Bool.and_eq_true, decide_eq_true_eq] at hc
        obtain ⟨c1, c2, c3, c4⟩ := hc
        have ht := Nat.eq_of_beq_eq_true c1
        subst ht
        cases hs
        refine AR.split (ax_rn_I hx) (fun i hi => ?_)
        obtain ⟨q1, q2⟩ := ax_idx hx c2 c3 hi
        exact step q i vs _ st0 hg q1 (List.getElem?_eq_getElem q2) (AR.topv (List.all_eq_true.mp c4 _ (List.getElem_mem q2)) K)
      · cases hs
    · cases hs
  · rename_i x g st0
    split at hs
    · rename_i p hx
      split at hs
      · rename_i hc
        simp only [Bool.and_eq_true, decide_eq_true_eq] at hc
        obtain ⟨c2, c5⟩ := hc
        cases hs
        refine AR.eachG (pre := [x]) (fun c hcm hlt => ?_)
        have h1 := List.all_eq_true.mp c5 c hcm
        cases he : h[c]? with
        | none => rw [he] at h1; cases h1
        | some tv =>
          obtain ⟨t, vs⟩ := tv
          rw [he] at h1
          simp only [ax_gar, Bool.and_eq_true, decide_eq_true_eq] at h1
          obtain ⟨d1, d2, d3⟩ := h1
          have ht := Nat.eq_of_beq_eq_true d1
          subst ht
          refine AR.split (ax_rn_I hx) (fun i hi => ?_)
          obtain ⟨q1, q2⟩ := ax_idx hx c2 d2 hi
          exact step c i vs _ st0 (by rw [ax_get_lt (by omega)]; exact he) q1 (List.getElem?_eq_getElem q2) (AR.topv (List.all_eq_true.mp d3 _ (List.getElem_mem q2)) K)
      · cases hs
    · cases hs
  · cases hs
theorem ax_asU_ok {tag : Nat} {ok : Value → Bool} (step : ∀ (a : Nat) (i : Int32) (vs : List Value) (v : Value) (st : List Value), a < 1000000000 → h[a]? = some (tag, vs) → ¬ i < 0 → i.toNatClampNeg < vs.length → ok v = true → AR ns l k d r P X (pc + 1) lv st (h.set a (tag, vs.set i.toNatClampNeg v)) bc bs → AR ns l k d r P X pc lv (v :: .int i :: .ref a :: st) h bc bs)
    (hs : ax_asU tag ok h st = some st') (K : AR ns l k d r P X (pc + 1) lv st' h bc bs) : AR ns l k d r P X pc lv st h bc bs := by
  unfold ax_asU at hs
  split at hs
  · rename_i v x q st0
    split at hs
    · rename_i t vs p hg hx
      split at hs
      · rename_i hc
        simp only [Bool.and_eq_true, decide_eq_true_eq] at hc
        obtain ⟨c1, c2, c3, c4, c5, c6⟩ := hc
        have ht := Nat.eq_of_beq_eq_true c1
        subst ht
        cases hs
        refine AR.eachI (pre := [v]) (ax_rn_I hx) (fun i hi => ?_)
        obtain ⟨q1, q2⟩ := ax_idx hx c2 c3 hi
        exact step q i vs v st' (Nat.le_of_ble_eq_true c6) hg q1 q2 c5 (AR.heapv (ax_unw_set hg q2 c4) K)
      · cases hs
    · cases hs
  · rename_i v x g st0
    split at hs
    · rename_i p hx
      split at hs
      · rename_i hc
        simp only [Bool.and_eq_true, decide_eq_true_eq] at hc
        obtain ⟨c2, c5, c6⟩ := hc
        cases hs
        refine AR.eachG (pre := [v, x]) (fun c hcm hlt => ?_)
        have h1 := List.all_eq_true.mp c6 c hcm
        cases he : h[c]? with
        | none => rw [he] at h1; cases h1
        | some tv =>
          obtain ⟨t, vs⟩ := tv
          rw [he] at h1
          simp only [ax_gas, Bool.and_eq_true, decide_eq_true_eq] at h1
          obtain ⟨d1, d2, d3⟩ := h1
          have ht := Nat.eq_of_beq_eq_true d1
          subst ht
          refine AR.eachI (pre := [v]) (ax_rn_I hx) (fun i hi => ?_)
          obtain ⟨q1, q2⟩ := ax_idx hx c2 d2 hi
          exact step c i vs v st' (by omega) he q1 q2 c5 (AR.heapv (ax_unw_set he q2 d3) K)
      · cases hs
    · cases hs
  · cases hs
end AXTW
def ax_ggf (ci j : Nat) (z : Value) (q : Option (Nat × List Value)) : Bool := match q with
  | some (t, vs) => Nat.beq t ci && (match vs[j]? with | some y => ax_le z y | none => false)
  | none => false
def ax_gpf (ci j n : Nat) (x : Value) (q : Option (Nat × List Value)) : Bool := match q with
  | some (t, vs) => Nat.beq t ci && (Nat.beq vs.length n && (match vs[j]? with | some y => ax_le y x | none => false))
  | none => false
/-- what is said of this field of each -/
def ax_gz (h : ax_H) (g j : Nat) : Value := match (ax_gfst h g)[j]? with
  | some (.float n) => if Nat.blt n.toNat 1000 then .float n else .float 0
  | some (.int i) => .float (ax_mkd i.toInt i.toInt)
  | some (.long _) => .double 0
  | some y => y
  | none => .null
def ax_arA (r h : ax_H) (st : List Value) : Option (List Value) := match ax_arU 104 .null r h st with
  | some s => some s
  | none => (match ax_arU 105 .null r h st with
    | some s => some s
    | none => ax_arU 106 .null r h st)
noncomputable def ax_two (r : ax_H) (pc : Nat) (ins : Instr) (a b : Nat) (st : List Value) (h : ax_H) : Option (Nat × List Value) := match ins with
  | .iaload => (ax_arU 100 (.float 0) r h st).map (fun s => (pc + 1, s))
  | .laload => (ax_arU 101 (.double 0) r h st).map (fun s => (pc + 1, s))
  | .baload => (ax_arU 102 (.float 14) r h st).map (fun s => (pc + 1, s))
  | .aaload => (ax_arA r h st).map (fun s => (pc + 1, s))
  | .iastore => (ax_asU 100 ax_isI h st).map (fun s => (pc + 1, s))
  | .lastore => (ax_asU 101 ax_isL h st).map (fun s => (pc + 1, s))
  | .bastore => (ax_asU 102 (ax_fit .boolean) h st).map (fun s => (pc + 1, s))
  | .getfield _ => match st with
    | .retAddr (g + 1) :: st => if (!(Nat.beq a 900)) && (ax_gl g).all (fun c => ax_ggf a b (ax_gz h g b) h[c]?) then some (pc + 3, ax_gz h g b :: st) else none
    | _ => none
  | .putfield _ => match st, ax_cls[a]? with
    | x :: .retAddr (g + 1) :: st, some q => if (!(Nat.beq a 900)) && ((!(q.2.1 b).2.2.2) && (ax_fit (q.2.2.2 b) x && (ax_gl g).all (fun c => ax_gpf a b q.2.2.1 x h[c]?))) then some (pc + 3, st) else none
    | _, _ => none
  | _ => none
section AXTX
variable {l : Launch} {k : ax_M} {d : Nat} {r : ax_H} {P : ax_P} {X : ax_PX} {pc pc' : Nat} {lv : List (Nat × Value)} {st st' : List Value} {h : ax_H} {bc bs a b c : Nat} {v : Value} {ws : List Nat}
theorem ax_two_ok {ins : Instr} (hd : decode k.2.1 pc = .ok (ins, ax_len ins)) (hok : ¬ a = 900 → ax_okx k ins a b c v ws = true) (hs : ax_two r pc ins a b st h = some (pc', st')) (K : AR ax_ns l k d r P X pc' lv st' h bc bs) : AR ax_ns l k d r P X pc lv st h bc bs := by
  unfold ax_two at hs
  split at hs
  · cases he : ax_arU 100 (.float 0) r h st with
    | none => rw [he] at hs; cases hs
    | some s =>
      rw [he] at hs
      cases hs
      exact ax_arU_ok (fun a i vs y st h1 h2 h3 K => AR.iaload hd h1 h2 h3 K) he K
  · cases he : ax_arU 101 (.double 0) r h st with
    | none => rw [he] at hs; cases hs
    | some s =>
      rw [he] at hs
      cases hs
      exact ax_arU_ok (fun a i vs y st h1 h2 h3 K => AR.laload hd h1 h2 h3 K) he K
  · cases he : ax_arU 102 (.float 14) r h st with
    | none => rw [he] at hs; cases hs
    | some s =>
      rw [he] at hs
      cases hs
      exact ax_arU_ok (fun a i vs y st h1 h2 h3 K => AR.zaload hd h1 h2 h3 K) he K
  · cases he : ax_arA r h st with
    | none => rw [he] at hs; cases hs
    | some s =>
      rw [he] at hs
      cases hs
      unfold ax_arA at he
      split at he
      · rename_i s1 h1
        cases he
        exact ax_arU_ok (fun a i vs y st h1 h2 h3 K => AR.aaload (t := 4) hd rfl rfl h1 h2 h3 K) h1 K
      · split at he
        · rename_i s1 h1
          cases he
          exact ax_arU_ok (fun a i vs y st h1 h2 h3 K => AR.aaload (t := 5) hd rfl rfl h1 h2 h3 K) h1 K
        · exact ax_arU_ok (fun a i vs y st h1 h2 h3 K => AR.aaload (t := 6) hd rfl rfl h1 h2 h3 K) he K
  · cases he : ax_asU 100 ax_isI h st with
    | none => rw [he] at hs; cases hs
    | some s =>
      rw [he] at hs
      cases hs
      exact ax_asU_ok (fun a i vs v st h1 h2 h3 h4 h5 K => AR.iastore hd h1 h2 h3 h4 h5 K) he K
  · cases he : ax_asU 101 ax_isL h st with
    | none => rw [he] at hs; cases hs
    | some s =>
      rw [he] at hs
      cases hs
      exact ax_asU_ok (fun a i vs v st h1 h2 h3 h4 h5 K => AR.lastore hd h1 h2 h3 h4 h5 K) he K
  · cases he : ax_asU 102 (ax_fit .boolean) h st with
    | none => rw [he] at hs; cases hs
    | some s =>
      rw [he] at hs
      cases hs
      exact ax_asU_ok (fun a i vs v st h1 h2 h3 h4 h5 K => AR.zastore hd h1 h2 h3 h4 h5 K) he K
  · rename_i ix
    split at hs
    · rename_i g st0
      split at hs
      · rename_i hc
        simp only [Bool.and_eq_true, Bool.not_eq_true'] at hc
        cases hs
        have ha : ¬ a = 900 := Nat.ne_of_beq_eq_false hc.1
        have hx := hok ha
        simp only [ax_okx] at hx
        split at hx
        · rename_i q w hq
          simp only [Bool.and_eq_true] at hx
          exact AR.getfieldG hd hq (Nat.lt_of_succ_le (Nat.le_of_ble_eq_true hx.1)) (ax_wk_mem hx.2) hc.2 K
        · cases hx
      · cases hs
    · cases hs
  · rename_i ix
    split at hs
    · rename_i x g st0 q hq0
      split at hs
      · rename_i hc
        simp only [Bool.and_eq_true, Bool.not_eq_true'] at hc
        obtain ⟨c1, c2, c3, c4⟩ := hc
        cases hs
        have ha : ¬ a = 900 := Nat.ne_of_beq_eq_false c1
        have hx := hok ha
        simp only [ax_okx] at hx
        split at hx
        · rename_i q2 w hq
          have e : q2 = q := Option.some.inj (hq.symm.trans hq0)
          subst e
          simp only [Bool.and_eq_true] at hx
          exact AR.putfieldG hd hq (Nat.lt_of_succ_le (Nat.le_of_ble_eq_true hx.1.1)) (ax_wk_mem hx.1.2) c2 c3 c4 K
        · cases hx
      · cases hs
    · cases hs
  · cases hs
end AXTX
