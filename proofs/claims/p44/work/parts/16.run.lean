/-! WHOLE RUNS of the abstract machine -/
abbrev ax_RR : Type := (Option Value ⊕ String) × ax_H × Nat × Nat
/-- 0: a step, 1: a call, 2: an end -/
def ax_kind (ins : Instr) (a c : Nat) : Nat := match ins with
  | .invokestatic _ => if 700 ≤ a ∧ a < 704 then 0 else 1
  | .invokevirtual _ => 1
  | .invokespecial _ => if c = 2 then 0 else 1
  | .ireturn => 2
  | .lreturn => 2
  | .areturn => 2
  | .return_ => 2
  | .new _ => if 800 ≤ a then 2 else 0
  | _ => 0
def ax_hand (i pc : Nat) (E : String) : Option (Nat × Nat × Nat × Nat × String) := ax_hands.find? (fun q => Nat.beq q.1 i && (Nat.ble q.2.1 pc && (Nat.blt pc q.2.2.1 && (q.2.2.2.2 == E))))
/-- what a call takes, and what stays -/
noncomputable def ax_arg (r : ax_H) (ins : Instr) (a b c : Nat) (st : List Value) (h : ax_H) : Option (List Value × List Value) := match ins with
  | .invokestatic _ => if ax_has a = true ∧ ax_st a = true ∧ b ≤ st.length ∧ ((st.drop b).map fun v => v.category).sum ≤ 8 then some ((st.take b).reverse, st.drop b) else none
  | .invokevirtual _ => (match st.drop b with
    | .ref q :: rest => (match ax_get r h q with
      | some (t, _) => if ax_has a = true ∧ ax_st a = false ∧ (ax_mm a).2.2.2.2 = [] ∧ b ≤ st.length ∧ (rest.map fun v => v.category).sum ≤ 8 ∧ t = c then some (.ref q :: (st.take b).reverse, rest) else none
      | none => none)
    | _ => none)
  | .invokespecial _ => (match st.drop b with
    | .ref q :: rest => if c = 3 then (match ax_get r h q with
        | some (t, _) => if ax_has a = true ∧ ax_st a = false ∧ (ax_mm a).2.2.2.2 = [] ∧ b ≤ st.length ∧ (rest.map fun v => v.category).sum ≤ 8 ∧ t < 12 then some (.ref q :: (st.take b).reverse, rest) else none
        | none => none)
      else if ax_has a = true ∧ ax_st a = false ∧ (ax_mm a).2.2.2.2 = [] ∧ b ≤ st.length ∧ (rest.map fun v => v.category).sum ≤ 8 ∧ (ax_mm a).1.name = "<init>" ∧ (ax_mm a).2.2.2.1 = none ∧ c ≤ 1 then some (.ref q :: (st.take b).reverse, rest) else none
    | _ => none)
  | _ => none
/-- behind a call -/
noncomputable def ax_cn (rec : Nat → List (Nat × Value) → List Value → ax_H → Nat → Nat → Option ax_RR) (i pc : Nat) (lv : List (Nat × Value)) (rest : List Value) (uc us : Nat) : Option ax_RR → Option ax_RR
  | some (.inl v, h', dc, ds) => ax_fn (uc + dc) fun uc' => ax_fn (us + ds) fun us' => ax_fn (pc + 3) fun pc' => ax_ft (v.toList ++ rest) fun st => rec pc' lv st h' uc' us'
  | some (.inr E, h', dc, ds) => match ax_hand i pc E with
    | some q => ax_fn (uc + dc) fun uc' => ax_fn (us + ds) fun us' => rec q.2.2.2.1 lv [.retAddr 0] h' uc' us'
    | none => if (ax_mm i).2.2.2.2 = [] then some (.inr E, h', uc + dc, us + ds) else none
  | none => none
/-- an end -/
noncomputable def ax_fin1 (i pc : Nat) (ins : Instr) (a : Nat) (st : List Value) (h : ax_H) (uc us : Nat) : Option ax_RR := match ins with
  | .ireturn => (match st with
    | [x] => (match (ax_mm i).2.2.2.1 with
      | some ty => if ax_isI x = true ∧ (ty = .int ∨ ax_fit ty x = true) then some (.inl (some x), h, uc, us) else none
      | none => none)
    | _ => none)
  | .lreturn => (match st with
    | [x] => if ax_isL x = true ∧ (ax_mm i).2.2.2.1 = some .long then some (.inl (some x), h, uc, us) else none
    | _ => none)
  | .areturn => (match st with
    | [x] => (match (ax_mm i).2.2.2.1 with
      | some (.object _) => if ax_isA x = true then some (.inl (some x), h, uc, us) else none
      | some (.array _) => if ax_isA x = true then some (.inl (some x), h, uc, us) else none
      | _ => none)
    | _ => none)
  | .return_ => (match st with
    | [] => if (ax_mm i).2.2.2.1 = none then some (.inl none, h, uc, us) else none
    | _ => none)
  | .new _ => if (i, pc, a - 800) ∈ ax_thrs ∧ (ax_mm i).2.2.2.2 = [] ∧ (st.map fun v => v.category).sum ≤ 100 then some (.inr (ax_exc.getD (a - 800) ""), h ++ [(99, [])], uc + 1, us + 6) else none
  | _ => none
noncomputable def ax_ex (r : ax_H) (call : Nat → List Value → ax_H → Option ax_RR) (i : Nat) : Nat → Nat → List (Nat × Value) → List Value → ax_H → Nat → Nat → Option ax_RR
  | 0, _, _, _, _, _, _ => none
  | n + 1, pc, lv, st, h, uc, us => match ax_look i pc with
    | none => none
    | some (ins, (a, b, c), v, _) => match ax_kind ins a c with
      | 0 => (match ax_one r (ax_mm i).2.2.1 pc ins a b c v lv st h with
        | some (pc', lv', st', h', dc, ds) => ax_fn pc' fun pc' => ax_fn (uc + dc) fun uc' => ax_fn (us + ds) fun us' => ax_ft st' fun st' => ax_ex r call i n pc' lv' st' h' uc' us'
        | none => none)
      | 1 => (match ax_arg r ins a b c st h with
        | some (as, rest) => ax_cn (ax_ex r call i n) i pc lv rest uc us (call a as h)
        | none => none)
      | _ => ax_fin1 i pc ins a st h uc us
/-- calls, to a depth; 'ov' says what is known of some -/
noncomputable def ax_cl (r : ax_H) (ov : Nat → Nat → List Value → ax_H → Option ax_RR) (f : Nat) : Nat → Nat → List Value → ax_H → Option ax_RR
  | 0, _, _, _ => none
  | d + 1, i, as, h => match ov (d + 1) i as h with
    | some q => some q
    | none => if ax_has i = true ∧ (lg_sl as).length ≤ (ax_mm i).2.2.1 then ax_ex r (ax_cl r ov f d) i f 0 (lv_args 0 as) [] h 0 0 else none
def ax_no : Nat → Nat → List Value → ax_H → Option ax_RR := fun _ _ _ _ => none
def ax_QR (res : Option Value ⊕ String) (h : ax_H) : ax_Q := fun res2 h2 => res2 = res ∧ h2 = h
section AXQ
variable {l : Launch} {d : Nat} {r : ax_H} {P : ax_P} {X : ax_PX} {i pc : Nat} {lv lv' : List (Nat × Value)} {st st' : List Value} {h h' : ax_H} {bc bs : Nat}
theorem AR.cast {ns : ax_NS} {k : ax_M} {d pc : Nat} {lv : List (Nat × Value)} {st : List Value} {h : ax_H} {bc bs bc' bs' : Nat} (h1 : bc' = bc) (h2 : bs' = bs) (K : AR ns l k d r P X pc lv st h bc' bs') : AR ns l k d r P X pc lv st h bc bs := by
  subst h1; subst h2; exact K
/-- a step, by hand -/
theorem AR.s (e : ax_E2) {pc' nL : Nat} (hn : (ax_mm i).2.2.1 = nL) (hl : ax_look i pc = some e) (hs : ax_one r nL pc e.1 e.2.1.1 e.2.1.2.1 e.2.1.2.2 e.2.2.1 lv st h = some (pc', lv', st', h', 0, 0)) (K : AR ax_ns l (ax_mm i) d r P X pc' lv' st' h' bc bs) : AR ax_ns l (ax_mm i) d r P X pc lv st h bc bs := by
  subst hn
  obtain ⟨hd, hok⟩ := ax_look_ok hl
  exact ax_one_ok hd hok hs K
theorem ax_kd0 {ins : Instr} {a c : Nat} (h : ax_kind ins a c = 0) : True := trivial
set_option maxHeartbeats 1000000 in
theorem AR.call {ins : Instr} {a b c : Nat} {v : Value} {ws : List Nat} (hl : ax_look i pc = some (ins, (a, b, c), v, ws)) {as rest : List Value} (hg : ax_arg r ins a b c st h = some (as, rest)) {dy mc ms : Nat} {Q : ax_Q} (hM : AM ax_ns l (ax_mm a) dy r mc ms as h Q) (hdy : dy + 1 ≤ d) (hmc : mc ≤ bc) (hms : ms ≤ bs)
    (K : ∀ v h', Q (.inl v) h' → AR ax_ns l (ax_mm i) d r P X (pc + 3) lv (v.toList ++ rest) h' (bc - mc) (bs - ms)) (KX : ∀ E h', Q (.inr E) h' → AX ax_ns l (ax_mm i) d r P X pc lv E h' (bc - mc) (bs - ms)) : AR ax_ns l (ax_mm i) d r P X pc lv st h bc bs := by
  obtain ⟨hd, hok⟩ := ax_look_ok hl
  dsimp only at hd hok
  unfold ax_arg at hg
  split at hg
  · rename_i ix
    split at hg
    · rename_i hc
      cases hg
      obtain ⟨ha, hst, hbl, hcat⟩ := hc
      have halt := ax_has_lt ha
      have hx := hok (by omega)
      simp only [ax_okx] at hx
      split at hx
      · rename_i w
        split at hx
        · omega
        · omega
        · omega
        · omega
        simp only [Bool.and_eq_true, ax_pl, decide_eq_true_eq] at hx
        obtain ⟨f1, f2, -, f4, f5, f6, f7⟩ := ax_mfacts ha
        have hsite : ax_site (ax_mm i) (ax_mm a) ix b := ⟨f1, f2, ax_wk_mem hx.1, ⟨f4, f5, hx.2⟩, f6⟩
        have hstk : st = (st.take b).reverse.reverse ++ st.drop b := by rw [List.reverse_reverse, List.take_append_drop]
        have hlen : (st.take b).reverse.length = b := by rw [List.length_reverse, List.length_take]; omega
        exact AR.invokestatic hd hsite ((ax_mst ha).1 hst) hstk hlen hM hdy hmc hms hcat K KX
      · cases hx
    · cases hg
  · rename_i ix
    split at hg
    · rename_i q rest' hdrop
      split at hg
      · rename_i t vs hget
        split at hg
        · rename_i hc
          cases hg
          obtain ⟨ha, hst, hni, hbl, hcat, rfl⟩ := hc
          have halt := ax_has_lt ha
          have hx := hok (by omega)
          simp only [ax_okx] at hx
          split at hx
          · rename_i cl w1 w2 hcl
            simp only [Bool.and_eq_true, ax_pl, decide_eq_true_eq] at hx
            obtain ⟨f1, f2, -, f4, f5, f6, f7⟩ := ax_mfacts ha
            have hsite : ax_site (ax_mm i) (ax_mm a) ix b := ⟨f1, f2, ax_wk_mem hx.1.1, ⟨f4, f5, hx.1.2⟩, f6⟩
            have hstk : st = (st.take b).reverse.reverse ++ .ref q :: rest := by rw [List.reverse_reverse, ← hdrop, List.take_append_drop]
            have hlen : (st.take b).reverse.length = b := by rw [List.length_reverse, List.length_take]; omega
            exact AR.invokevirtual hni hd hsite ((ax_mst ha).2 hst) (ax_wk_mem hx.2) hcl hget hstk hlen hM hdy hmc hms hcat K KX
          · cases hx
        · cases hg
      · cases hg
    · cases hg
  · rename_i ix
    split at hg
    · rename_i q rest' hdrop
      split at hg
      · rename_i h3
        subst h3
        split at hg
        · rename_i t vs hget
          split at hg
          · rename_i hc
            cases hg
            obtain ⟨ha, hst, hni, hbl, hcat, ht⟩ := hc
            have halt := ax_has_lt ha
            obtain ⟨cl, hcl⟩ : ∃ cl, ax_cls[t]? = some cl := ⟨_, List.getElem?_eq_getElem (show t < ax_cls.length from ht)⟩
            have hx := hok (by omega)
            simp only [ax_okx] at hx
            split at hx
            · contradiction
            · contradiction
            · contradiction
            · rename_i w1 w2 w3 _ _
              simp only [Bool.and_eq_true, ax_pl, decide_eq_true_eq] at hx
              obtain ⟨⟨⟨⟨hx1, hx2⟩, hx3⟩, hx4⟩, hx5⟩ := hx
              obtain ⟨f1, f2, -, f4, f5, f6, f7⟩ := ax_mfacts ha
              have hsite : ax_site (ax_mm i) (ax_mm a) ix b := ⟨f1, f2, ax_wk_mem hx1, ⟨f4, f5, hx2⟩, f6⟩
              have hstk : st = (st.take b).reverse.reverse ++ .ref q :: rest := by rw [List.reverse_reverse, ← hdrop, List.take_append_drop]
              have hlen : (st.take b).reverse.length = b := by rw [List.length_reverse, List.length_take]; omega
              exact AR.invokeup hni hd hsite ((ax_mst ha).2 hst) (ax_wk_mem hx3) (ax_wk_mem hx4) hx5 hcl hget hstk hlen hM hdy hmc hms hcat K KX
            · cases hx
          · cases hg
        · cases hg
      · rename_i h3
        split at hg
        · rename_i hc
          cases hg
          obtain ⟨ha, hst, hni, hbl, hcat, hname, hret, hc1⟩ := hc
          have halt := ax_has_lt ha
          have hx := hok (by omega)
          obtain ⟨f1, f2, -, f4, f5, f6, f7⟩ := ax_mfacts ha
          have hstk : st = (st.take b).reverse.reverse ++ .ref q :: rest := by rw [List.reverse_reverse, ← hdrop, List.take_append_drop]
          have hlen : (st.take b).reverse.length = b := by rw [List.length_reverse, List.length_take]; omega
          rcases (by omega : c = 0 ∨ c = 1) with rfl | rfl
          · simp only [ax_okx] at hx
            split at hx
            · contradiction
            · contradiction
            · rename_i w _ _
              simp only [Bool.and_eq_true, ax_pl, decide_eq_true_eq] at hx
              have hsite : ax_site (ax_mm i) (ax_mm a) ix b := ⟨f1, f2, ax_wk_mem hx.1, ⟨f4, f5, hx.2⟩, f6⟩
              exact AR.invokespecial hni hd hsite ((ax_mst ha).2 hst) hname hret hstk hlen hM hdy hmc hms hcat K KX
            · contradiction
            · cases hx
          · simp only [ax_okx] at hx
            split at hx
            · contradiction
            · simp only [Bool.and_eq_true, ax_pl, decide_eq_true_eq] at hx
              exact AR.invokenest hd hni f1 f2 hx.2 ⟨f4, f5, hx.1⟩ f6 ((ax_mst ha).2 hst) hname hret hstk hlen hM hdy hmc hms hcat K KX
            · contradiction
            · contradiction
            · cases hx
        · cases hg
    · cases hg
  · cases hg
/-- an end, as a program sees it, is one -/
theorem ax_fin1_ok {ins : Instr} {a b c : Nat} {v : Value} {ws : List Nat} (hl : ax_look i pc = some (ins, (a, b, c), v, ws)) {uc us uc' us' : Nat} {res : Option Value ⊕ String} (hs : ax_fin1 i pc ins a st h uc us = some (res, h', uc', us')) : uc ≤ uc' ∧ us ≤ us' ∧ ax_ret ax_ns (ax_mm i) (ax_QR res h') pc lv st h (uc' - uc) (us' - us) := by
  obtain ⟨hd, -⟩ := ax_look_ok hl
  dsimp only at hd
  unfold ax_fin1 at hs
  split at hs
  · split at hs
    · split at hs
      · rename_i x ty hty
        split at hs
        · rename_i hg
          cases hs
          refine ⟨Nat.le_refl _, Nat.le_refl _, ?_⟩
          rcases hg with ⟨h1, rfl | h2⟩
          · exact Or.inl ⟨_, rfl, h1, hd, hty, rfl, rfl⟩
          · exact Or.inr (Or.inl ⟨_, _, rfl, h2, h1, hd, hty, rfl, rfl⟩)
        · cases hs
      · cases hs
    · cases hs
  · split at hs
    · split at hs
      · rename_i x hg
        cases hs
        exact ⟨Nat.le_refl _, Nat.le_refl _, Or.inr (Or.inr (Or.inl ⟨_, rfl, hg.1, hd, hg.2, rfl, rfl⟩))⟩
      · cases hs
    · cases hs
  · split at hs
    · split at hs
      · rename_i x _ nm hty
        split at hs
        · rename_i hg
          cases hs
          exact ⟨Nat.le_refl _, Nat.le_refl _, Or.inr (Or.inr (Or.inr (Or.inl ⟨_, _, rfl, hg, hd, hty, Or.inl ⟨_, rfl⟩, rfl, rfl⟩)))⟩
        · cases hs
      · rename_i x _ nm hty
        split at hs
        · rename_i hg
          cases hs
          exact ⟨Nat.le_refl _, Nat.le_refl _, Or.inr (Or.inr (Or.inr (Or.inl ⟨_, _, rfl, hg, hd, hty, Or.inr ⟨_, rfl⟩, rfl, rfl⟩)))⟩
        · cases hs
      · cases hs
    · cases hs
  · split at hs
    · split at hs
      · rename_i hg
        cases hs
        exact ⟨Nat.le_refl _, Nat.le_refl _, Or.inr (Or.inr (Or.inr (Or.inr (Or.inl ⟨rfl, hd, hg, rfl, rfl⟩))))⟩
      · cases hs
    · cases hs
  · split at hs
    · rename_i hg
      cases hs
      have h9 : ax_thr ax_ns (ax_mm i) pc (ax_exc.getD (a - 800) "") := ax_thr_ok (i, pc, a - 800) hg.1
      have e1 : uc + 1 - uc = 1 := by omega
      have e2 : us + 6 - us = 6 := by omega
      refine ⟨Nat.le_succ _, Nat.le_add_right _ _, ?_⟩
      rw [e1, e2]
      exact Or.inr (Or.inr (Or.inr (Or.inr (Or.inr ⟨ax_exc.getD (a - 800) "", h9, hg.2.1, Nat.le_refl _, Nat.le_refl _, hg.2.2, rfl, rfl⟩))))
    · cases hs
  · cases hs
/-- a handler of the method's own -/
theorem ax_hand_ok {E : String} {q : Nat × Nat × Nat × Nat × String} (hf : ax_hand i pc E = some q) (K : AR ax_ns l (ax_mm i) d r P X q.2.2.2.1 lv [.retAddr 0] h bc bs) : AX ax_ns l (ax_mm i) d r P X pc lv E h bc bs := by
  unfold ax_hand at hf
  have h1 := List.find?_some hf
  have h2 := List.mem_of_find?_eq_some hf
  simp only [Bool.and_eq_true, beq_iff_eq] at h1
  obtain ⟨f1, f2, f3, f4⟩ := h1
  have f1 := Nat.eq_of_beq_eq_true f1
  obtain ⟨pre, suf, ct, t1, t2, t3, t4, t5⟩ := ax_hands_ok q h2
  obtain ⟨qi, qs, qe, qh, qE⟩ := q
  dsimp only at f1 f2 f3 f4 t1 t2 t3 t4 t5 K
  subst f1
  subst f4
  exact AX.caught t1 (Nat.le_of_ble_eq_true f2) (Nat.lt_of_succ_le (Nat.le_of_ble_eq_true f3)) t2 t3 t4 t5 K
abbrev ax_XQ (i : Nat) (res : Option Value ⊕ String) (h' : ax_H) : ax_PX := fun _ _ E h2 _ _ => (ax_mm i).2.2.2.2 = [] ∧ ax_QR res h' (.inr E) h2
/-- behind a call: what it comes to -/
theorem ax_cn_ok {rec : Nat → List (Nat × Value) → List Value → ax_H → Nat → Nat → Option ax_RR} {rest : List Value} {uc us : Nat} {cr : Option ax_RR} {res : Option Value ⊕ String} {uc' us' : Nat}
    (hs : ax_cn rec i pc lv rest uc us cr = some (res, h', uc', us'))
    (ih : ∀ pc lv st h uc us, rec pc lv st h uc us = some (res, h', uc', us') → uc ≤ uc' ∧ us ≤ us' ∧ AR ax_ns l (ax_mm i) d r (ax_ret ax_ns (ax_mm i) (ax_QR res h')) (ax_XQ i res h') pc lv st h (uc' - uc) (us' - us)) :
    ∃ (res0 : Option Value ⊕ String) (h0 : ax_H) (dc ds : Nat), cr = some (res0, h0, dc, ds) ∧ uc + dc ≤ uc' ∧ us + ds ≤ us' ∧
      (∀ v h2, ax_QR res0 h0 (.inl v) h2 → AR ax_ns l (ax_mm i) d r (ax_ret ax_ns (ax_mm i) (ax_QR res h')) (ax_XQ i res h') (pc + 3) lv (v.toList ++ rest) h2 (uc' - uc - dc) (us' - us - ds)) ∧
      (∀ E h2, ax_QR res0 h0 (.inr E) h2 → AX ax_ns l (ax_mm i) d r (ax_ret ax_ns (ax_mm i) (ax_QR res h')) (ax_XQ i res h') pc lv E h2 (uc' - uc - dc) (us' - us - ds)) := by
  unfold ax_cn at hs
  simp only [ax_fn_eq, ax_ft_eq] at hs
  split at hs
  · rename_i v h0 dc ds
    obtain ⟨e1, e2, K⟩ := ih _ _ _ _ _ _ hs
    refine ⟨.inl v, h0, dc, ds, rfl, e1, e2, fun v2 h2 hq => ?_, fun E h2 hq => absurd hq.1 (by intro z; cases z)⟩
    obtain ⟨q1, q2⟩ := hq
    cases q1
    cases q2
    exact AR.cast (by omega) (by omega) K
  · rename_i E h0 dc ds
    split at hs
    · rename_i q hf
      obtain ⟨e1, e2, K⟩ := ih _ _ _ _ _ _ hs
      refine ⟨.inr E, h0, dc, ds, rfl, e1, e2, fun v2 h2 hq => absurd hq.1 (by intro z; cases z), fun E2 h2 hq => ?_⟩
      obtain ⟨q1, q2⟩ := hq
      cases q1
      cases q2
      exact ax_hand_ok hf (AR.cast (by omega) (by omega) K)
    · split at hs
      · rename_i hnil
        cases hs
        refine ⟨.inr E, _, dc, ds, rfl, Nat.le_refl _, Nat.le_refl _, fun v2 h2 hq => absurd hq.1 (by intro z; cases z), fun E2 h2 hq => AX.out ⟨hnil, hq⟩⟩
      · cases hs
  · cases hs
theorem ax_ex_ok {call : Nat → List Value → ax_H → Option ax_RR} {dy i : Nat}
    (hc : ∀ a as h res h' dc ds, call a as h = some (res, h', dc, ds) → AM ax_ns l (ax_mm a) dy r dc ds as h (ax_QR res h')) :
    ∀ (n pc : Nat) (lv : List (Nat × Value)) (st : List Value) (h : ax_H) (uc us : Nat) (res : Option Value ⊕ String) (h' : ax_H) (uc' us' : Nat), ax_ex r call i n pc lv st h uc us = some (res, h', uc', us') →
      uc ≤ uc' ∧ us ≤ us' ∧ AR ax_ns l (ax_mm i) (dy + 1) r (ax_ret ax_ns (ax_mm i) (ax_QR res h')) (ax_XQ i res h') pc lv st h (uc' - uc) (us' - us) := by
  intro n
  induction n with
  | zero => intro pc lv st h uc us res h' uc' us' hs; cases hs
  | succ n ih =>
    intro pc lv st h uc us res h' uc' us' hs
    have ih' := fun pc lv st h uc us => ih pc lv st h uc us res h' uc' us'
    rw [ax_ex] at hs
    split at hs
    · cases hs
    · rename_i _ ins a b c v ws hl
      split at hs
      · split at hs
        · rename_i pc' lv' st' h1 dc ds ho
          simp only [ax_fn_eq, ax_ft_eq] at hs
          obtain ⟨e1, e2, K⟩ := ih' _ _ _ _ _ _ hs
          obtain ⟨hd, hok⟩ := ax_look_ok hl
          exact ⟨by omega, by omega, AR.cast (by omega) (by omega) (ax_one_ok hd hok ho K)⟩
        · cases hs
      · split at hs
        · rename_i as rest hg
          obtain ⟨res0, h0, dc, ds, hcall, e1, e2, K1, K2⟩ := ax_cn_ok hs ih'
          exact ⟨by omega, by omega, AR.call hl hg (hc _ _ _ _ _ _ _ hcall) (Nat.le_refl _) (by omega) (by omega) K1 K2⟩
        · cases hs
      · obtain ⟨e1, e2, K⟩ := ax_fin1_ok (lv := lv) hl hs
        exact ⟨e1, e2, AR.at K⟩
theorem ax_cl_ok (hl : l.stackTraces = false) {ov : Nat → Nat → List Value → ax_H → Option ax_RR} (hov : ∀ d i as h res h' uc us, ov d i as h = some (res, h', uc, us) → AM ax_ns l (ax_mm i) d r uc us as h (ax_QR res h')) {f : Nat} : ∀ (d i : Nat) (as : List Value) (h : ax_H) (res : Option Value ⊕ String) (h' : ax_H) (uc us : Nat), ax_cl r ov f d i as h = some (res, h', uc, us) → AM ax_ns l (ax_mm i) d r uc us as h (ax_QR res h') := by
  intro d
  induction d with
  | zero => intro i as h res h' uc us hs; cases hs
  | succ d ih =>
    intro i as h res h' uc us hs
    rw [ax_cl] at hs
    split at hs
    · rename_i q hq
      cases hs
      exact hov _ _ _ _ _ _ _ _ hq
    · split at hs
      · rename_i hg
        obtain ⟨hi, hlen⟩ := hg
        obtain ⟨-, -, K⟩ := ax_ex_ok (l := l) (fun a as h res h' dc ds => ih a as h res h' dc ds) _ _ _ _ _ _ _ _ _ _ _ hs
        exact AM.of (ax_mfacts hi).2.2.2.2.2.2 hl hlen K
      · cases hs
theorem ax_no_ok : ∀ d i as h res h' uc us, ax_no d i as h = some (res, h', uc, us) → AM ax_ns l (ax_mm i) d r uc us as h (ax_QR res h') := fun _ _ _ _ _ _ _ _ h => by cases h
end AXQ
