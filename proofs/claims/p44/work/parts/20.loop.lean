/-! LOOPS: a run of the body with the loop's number named -/
def ax_nv (x : Value) : Bool := match x with
  | .float n => Nat.blt n.toNat 1000
  | _ => true
theorem ax_nv_on {n : UInt32} {x : Value} (hn : 1000 ≤ n.toNat) (h : ax_nv x = true) : ax_on n x = true := by
  cases x with
  | float m =>
    have h2 : m.toNat + 1 ≤ 1000 := Nat.le_of_ble_eq_true h
    simp only [ax_on, Bool.or_eq_true, Bool.not_eq_true']
    left
    cases he : Nat.beq (m.toNat / 1000) (n.toNat / 1000) with
    | true => have := Nat.eq_of_beq_eq_true he; omega
    | false => rfl
  | _ => rfl
theorem ax_nv_ons {n : UInt32} {st : List Value} (hn : 1000 ≤ n.toNat) (h : st.all ax_nv = true) : st.all (ax_on n) = true := List.all_eq_true.mpr (fun x hx => ax_nv_on hn (List.all_eq_true.mp h x hx))
def ax_nn (h : ax_H) : Bool := h.all (fun q => q.2.all ax_nv)
theorem ax_nn_on {n : UInt32} {h : ax_H} (hn : 1000 ≤ n.toNat) (hh : ax_nn h = true) : ax_onh n h = true := List.all_eq_true.mpr (fun q hq => ax_nv_ons hn (List.all_eq_true.mp hh q hq))
theorem ax_sb_id {n : UInt32} {i : Int32} {x : Value} (hn : 1000 ≤ n.toNat) (h : ax_nv x = true) : ax_sb n i x = x := by
  cases x with
  | float m =>
    have h2 : m.toNat + 1 ≤ 1000 := Nat.le_of_ble_eq_true h
    simp only [ax_sb]
    rw [if_neg]
    intro e
    have := Nat.eq_of_beq_eq_true e
    omega
  | _ => rfl
theorem ax_sbs_id {n : UInt32} {i : Int32} {st : List Value} (hn : 1000 ≤ n.toNat) (h : st.all ax_nv = true) : ax_sbs n i st = st := by
  unfold ax_sbs
  have e : st.map (ax_sb n i) = st.map id := List.map_congr_left (fun x hx => ax_sb_id hn (List.all_eq_true.mp h x hx))
  rw [e, List.map_id]
theorem ax_sbh_id {n : UInt32} {i : Int32} {hh : ax_H} (hn : 1000 ≤ n.toNat) (h : ax_nn hh = true) : ax_sbh n i hh = hh := by
  unfold ax_sbh
  have e : hh.map (fun q => (q.1, q.2.map (ax_sb n i))) = hh.map id := List.map_congr_left (fun q hq => by
    have h1 := List.all_eq_true.mp h q hq
    show (q.1, ax_sbs n i q.2) = q
    rw [ax_sbs_id hn h1])
  rw [e, List.map_id]
theorem ax_sb_cat {n : UInt32} {i : Int32} {x : Value} : (ax_sb n i x).category = x.category := by
  cases x with
  | float m =>
    simp only [ax_sb]
    split <;> rfl
  | _ => rfl
theorem ax_at_sbl {n : UInt32} {i : Int32} : ∀ {lv : List (Nat × Value)} {j : Nat} {x : Value}, ax_at lv j = some x → ax_at (ax_sbl n i lv) j = some (ax_sb n i x)
  | [], _, _, h => by cases h
  | q :: t, j, x, h => by
    show ax_at ((q.1, ax_sb n i q.2) :: ax_sbl n i t) j = _
    simp only [ax_at] at h ⊢
    cases hq : Nat.beq q.1 j with
    | true => rw [hq] at h; cases h; rfl
    | false => rw [hq] at h; exact ax_at_sbl h
/-- each of these locals is said by one of those -/
def ax_subl (lv0 lvB : List (Nat × Value)) : Bool := lv0.all (fun q => lvB.any (fun y => Nat.beq y.1 q.1 && ax_le q.2 y.2))
theorem ax_subl_ok {lv0 lvB : List (Nat × Value)} (h : ax_subl lv0 lvB = true) : ∀ q ∈ lv0, ∃ y, (q.1, y) ∈ lvB ∧ ax_le q.2 y = true := by
  intro q hq
  have h1 := List.all_eq_true.mp h q hq
  simp only [List.any_eq_true, Bool.and_eq_true] at h1
  obtain ⟨y, h2, h3, h4⟩ := h1
  have h6 := Nat.eq_of_beq_eq_true h3
  refine ⟨y.2, ?_, h4⟩
  rw [← h6]
  exact h2
/-- a run comes to a state that says at least this -/
def ax_reach (o : Option ax_SS) (lv0 : List (Nat × Value)) (st0 : List Value) (h0 : ax_H) (uc0 us0 : Nat) : Bool := match o with
  | some (lv, st, h, uc, us) => Nat.beq uc uc0 && (Nat.beq us us0 && (ax_subl lv0 lv && (ax_les st0 st && ax_leh h0 h)))
  | none => false
/-- a call comes to an end that says at least this -/
def ax_rets (o : Option ax_RR) (x0 : Value) (h0 : ax_H) (uc0 us0 : Nat) : Bool := match o with
  | some (.inl (some x), h, uc, us) => Nat.beq uc uc0 && (Nat.beq us us0 && (ax_le x0 x && ax_leh h0 h))
  | _ => false
theorem ax_le_rfl {x : Value} (h : ax_nv x = true) : ax_le x x = true := by
  cases x with
  | float m => simp [ax_le]
  | int i => exact decide_eq_true rfl
  | long i => exact decide_eq_true rfl
  | ref i => exact decide_eq_true rfl
  | double i => simp [ax_le]
  | retAddr i => simp [ax_le]
  | null => rfl
section AXL
variable {l : Launch} {r : ax_H} {P P' : ax_P} {X X' : ax_PX}
theorem AR.post {ns : ax_NS} {k : ax_M} {d : Nat} {pc : Nat} {lv : List (Nat × Value)} {st : List Value} {h : ax_H} {bc bs : Nat} (ha : AR ns l k d r P X pc lv st h bc bs) (hp : ∀ pc lv st h bc bs, P pc lv st h bc bs → P' pc lv st h bc bs) (hx : ∀ pc lv E h bc bs, X pc lv E h bc bs → X' pc lv E h bc bs) : AR ns l k d r P' X' pc lv st h bc bs :=
  fun D b o TC TS p e R s m args below meth c Z hX hP hXX => ha D b o TC TS p e R s m args below meth c Z hX (fun pc lv st h bc bs q => hP _ _ _ _ _ _ (hp _ _ _ _ _ _ q)) (fun pc lv E h bc bs q => hXX _ _ _ _ _ _ (hx _ _ _ _ _ _ q))
theorem ax_run_to {call : Nat → List Value → ax_H → Option ax_RR} {dy i sp N pc0 : Nat} {lvA lvB : List (Nat × Value)} {stA stB : List Value} {hA hB : ax_H} {uc us bc bs : Nat}
    (hc : ∀ a as h res h' dc ds, call a as h = some (res, h', dc, ds) → AM ax_ns l (ax_mm a) dy r dc ds as h (ax_QR res h')) (hrun : ax_reach (ax_to r call i sp N pc0 lvA stA hA 0 0) lvB stB hB uc us = true)
    (K : AR ax_ns l (ax_mm i) (dy + 1) r P X sp lvB stB hB bc bs) : AR ax_ns l (ax_mm i) (dy + 1) r P X pc0 lvA stA hA (bc + uc) (bs + us) := by
  unfold ax_reach at hrun
  split at hrun
  · rename_i lv st h uc1 us1 he
    simp only [Bool.and_eq_true] at hrun
    obtain ⟨e1, e2, e3, e4, e5⟩ := hrun
    have e1 := Nat.eq_of_beq_eq_true e1
    have e2 := Nat.eq_of_beq_eq_true e2
    subst e1
    subst e2
    exact (ax_to_ok hc (AR.less (ax_subl_ok e3) e4 e5 K) _ _ _ _ _ _ _ he).2.2
  · cases hrun
/-- a closed run, of which one number may be any -/
theorem ax_body {n : UInt32} {k : Int32} (hn : 1000 ≤ n.toNat) (hk : ax_md n k) {call : Nat → List Value → ax_H → Option ax_RR} {dy i sp N pc0 : Nat} {lvA lvB : List (Nat × Value)} {stA stB : List Value} {hA hB : ax_H} {uc us bc bs : Nat}
    (hc : ∀ a as h res h' dc ds, call a as h = some (res, h', dc, ds) → AM ax_ns l (ax_mm a) dy r dc ds as h (ax_QR res h')) (hr : ax_nn r = true) (hA1 : ax_nn hA = true) (hB1 : ax_nn hB = true) (hlA : ax_onl n lvA = true) (hsA : stA.all (ax_on n) = true)
    (hrun : ax_reach (ax_to r call i sp N pc0 lvA stA hA 0 0) lvB stB hB uc us = true) (K : AR ax_ns l (ax_mm i) (dy + 1) r P X sp (ax_sbl n k lvB) (ax_sbs n k stB) hB bc bs) :
    AR ax_ns l (ax_mm i) (dy + 1) r P X pc0 (ax_sbl n k lvA) (ax_sbs n k stA) hA (bc + uc) (bs + us) := by
  have h1 := ax_run_to (l := l) (P := fun pc lv st h bc' bs' => pc = sp ∧ lv = lvB ∧ st = stB ∧ h = hB ∧ bc' = bc ∧ bs' = bs) (X := fun pc lv E h bc bs => X pc (ax_sbl n k lv) E (ax_sbh n k h) bc bs) hc hrun (AR.at ⟨rfl, rfl, rfl, rfl, rfl, rfl⟩)
  have h2 := AR.name (P := fun pc lv st h bc' bs' => pc = sp ∧ lv = ax_sbl n k lvB ∧ st = ax_sbs n k stB ∧ h = hB ∧ bc' = bc ∧ bs' = bs) (X := X) hn hk (ax_nn_on hn hr) hlA hsA (ax_nn_on hn hA1) (AR.post h1 (fun pc lv st h bc bs q => by
    obtain ⟨q1, q2, q3, q4, q5, q6⟩ := q
    exact ⟨q1, by rw [q2], by rw [q3], by rw [q4, ax_sbh_id hn hB1], q5, q6⟩) (fun _ _ _ _ _ _ q => q))
  rw [ax_sbh_id hn hr, ax_sbh_id hn hA1] at h2
  refine AR.then h2 (fun pc lv st h bc bs q => ?_)
  obtain ⟨rfl, rfl, rfl, rfl, rfl, rfl⟩ := q
  exact K
/-- 'for (; j < M; j++)', whose body comes back to the same state for whatever j -/
theorem ax_for {n : UInt32} (hn : 1000 ≤ n.toNat) (hg : ax_rg n = (0, 4095)) {call : Nat → List Value → ax_H → Option ax_RR} {dy i head pi N j : Nat} {lv0 : List (Nat × Value)} {h : ax_H} {bc bs M : Nat}
    (hc : ∀ a as h res h' dc ds, call a as h = some (res, h', dc, ds) → AM ax_ns l (ax_mm a) dy r dc ds as h (ax_QR res h')) (hr : ax_nn r = true) (hh : ax_nn h = true)
    (hrun : ax_reach (ax_to r call i pi N head ((j, .float n) :: lv0) [] h 0 0) ((j, .float n) :: lv0) [] h 0 0 = true)
    {ei eg : (Nat × Nat × Nat) × Value × List Nat} {off : Int} (hli : ax_look i pi = some (.iinc j 1, ei)) (hlg : ax_look i (pi + 3) = some (.goto off, eg)) (hoff : ((pi + 3 : Nat) : Int) + off = (head : Int)) (hj : j < (ax_mm i).2.2.1)
    (hk1 : lv0.all (ax_k1 j) = true) (hlv : lv0.all (fun q => ax_nv q.2) = true) (hM : M ≤ 4096)
    (K : AR ax_ns l (ax_mm i) (dy + 1) r P X head ((j, .int (nI M)) :: lv0) [] h bc bs) : ∀ k, k ≤ M → AR ax_ns l (ax_mm i) (dy + 1) r P X head ((j, .int (nI k)) :: lv0) [] h bc bs := by
  have key : ∀ t k, k + t = M → AR ax_ns l (ax_mm i) (dy + 1) r P X head ((j, .int (nI k)) :: lv0) [] h bc bs := by
    intro t
    induction t with
    | zero => intro k hk; obtain rfl : k = M := by omega
              exact K
    | succ t ih =>
      intro k hk
      have hkm : ax_md n (nI k) := by
        unfold ax_md
        rw [hg, nI_toInt (by omega)]
        exact ⟨by show (0 : Int) ≤ _; omega, by show _ ≤ (4095 : Int); omega⟩
      have e0 : ax_sbl n (nI k) ((j, .float n) :: lv0) = (j, .int (nI k)) :: lv0 := by
        show (j, ax_sb n (nI k) (.float n)) :: ax_sbl n (nI k) lv0 = _
        congr 1
        · simp [ax_sb]
        · unfold ax_sbl
          have e : lv0.map (fun q => (q.1, ax_sb n (nI k) q.2)) = lv0.map id := List.map_congr_left (fun q hq => by
            show (q.1, ax_sb n (nI k) q.2) = q
            rw [ax_sb_id hn (List.all_eq_true.mp hlv q hq)])
          rw [e, List.map_id]
      have h0 := ax_body (P := P) (X := X) (bc := bc) (bs := bs) (stA := []) (stB := []) hn hkm hc hr hh hh (List.all_eq_true.mpr (fun q hq => by
        rcases List.mem_cons.mp hq with rfl | hq
        · simp [ax_on]
        · exact ax_nv_on hn (List.all_eq_true.mp hlv q hq))) rfl hrun ?_
      · rw [e0] at h0
        exact h0
      · rw [e0]
        refine AR.iinc (x := .int (nI k)) (ax_look_ok hli).1 hj (by simp [ax_at]) rfl ?_
        refine AR.goto (ax_look_ok hlg).1 hoff ?_
        refine AR.lessL (lv' := (j, .int (nI (k + 1))) :: lv0) (fun q hq => ?_) (ih (k + 1) (by omega))
        rcases List.mem_cons.mp hq with rfl | hq
        · refine ⟨_, List.mem_cons_self, ?_⟩
          have e9 : Int32.ofInt 1 = 1 := by decide
          show decide (nI (k + 1) = nI k + Int32.ofInt 1) = true
          rw [nI_succ, e9]
          exact decide_eq_true rfl
        · refine ⟨q.2, List.mem_cons_of_mem _ (List.mem_filter.mpr ⟨List.mem_cons_of_mem _ hq, List.all_eq_true.mp hk1 q hq⟩), ?_⟩
          exact ax_le_rfl (List.all_eq_true.mp hlv q hq)
  intro k hk
  exact key (M - k) k (by omega)
end AXL
