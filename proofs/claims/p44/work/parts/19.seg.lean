/-! RUNS UP TO A PLACE -/
abbrev ax_SS : Type := List (Nat × Value) × List Value × ax_H × Nat × Nat
noncomputable def ax_cs (rec : Nat → List (Nat × Value) → List Value → ax_H → Nat → Nat → Option ax_SS) (i pc : Nat) (lv : List (Nat × Value)) (rest : List Value) (uc us : Nat) : Option ax_RR → Option ax_SS
  | some (.inl v, h', dc, ds) => ax_fn (uc + dc) fun uc' => ax_fn (us + ds) fun us' => ax_fn (pc + 3) fun pc' => ax_ft (v.toList ++ rest) fun st => rec pc' lv st h' uc' us'
  | some (.inr E, h', dc, ds) => match ax_hand i pc E with
    | some q => ax_fn (uc + dc) fun uc' => ax_fn (us + ds) fun us' => rec q.2.2.2.1 lv [.retAddr 0] h' uc' us'
    | none => none
  | none => none
noncomputable def ax_to (r : ax_H) (call : Nat → List Value → ax_H → Option ax_RR) (i sp : Nat) : Nat → Nat → List (Nat × Value) → List Value → ax_H → Nat → Nat → Option ax_SS
  | 0, _, _, _, _, _, _ => none
  | n + 1, pc, lv, st, h, uc, us => if Nat.beq pc sp = true then some (lv, st, h, uc, us) else match ax_look i pc with
    | none => none
    | some (ins, (a, b, c), v, _) => match ax_kind ins a c with
      | 0 => (match ax_one r (ax_mm i).2.2.1 pc ins a b c v lv st h with
        | some (pc', lv', st', h', dc, ds) => ax_fn pc' fun pc' => ax_fn (uc + dc) fun uc' => ax_fn (us + ds) fun us' => ax_ft st' fun st' => ax_to r call i sp n pc' lv' st' h' uc' us'
        | none => none)
      | 1 => (match ax_arg r ins a b c st h with
        | some (as, rest) => ax_cs (ax_to r call i sp n) i pc lv rest uc us (call a as h)
        | none => none)
      | _ => none
section AXZ
variable {l : Launch} {r : ax_H} {P : ax_P} {X : ax_PX}
theorem ax_cs_ok {rec : Nat → List (Nat × Value) → List Value → ax_H → Nat → Nat → Option ax_SS} {d i pc : Nat} {lv : List (Nat × Value)} {rest : List Value} {uc us : Nat} {cr : Option ax_RR} {lv' : List (Nat × Value)} {st' : List Value} {h' : ax_H} {uc' us' bc bs : Nat}
    (hs : ax_cs rec i pc lv rest uc us cr = some (lv', st', h', uc', us'))
    (ih : ∀ pc lv st h uc us, rec pc lv st h uc us = some (lv', st', h', uc', us') → uc ≤ uc' ∧ us ≤ us' ∧ AR ax_ns l (ax_mm i) d r P X pc lv st h (bc + (uc' - uc)) (bs + (us' - us))) :
    ∃ (res0 : Option Value ⊕ String) (h0 : ax_H) (dc ds : Nat), cr = some (res0, h0, dc, ds) ∧ uc + dc ≤ uc' ∧ us + ds ≤ us' ∧
      (∀ v h2, ax_QR res0 h0 (.inl v) h2 → AR ax_ns l (ax_mm i) d r P X (pc + 3) lv (v.toList ++ rest) h2 (bc + (uc' - uc) - dc) (bs + (us' - us) - ds)) ∧
      (∀ E h2, ax_QR res0 h0 (.inr E) h2 → AX ax_ns l (ax_mm i) d r P X pc lv E h2 (bc + (uc' - uc) - dc) (bs + (us' - us) - ds)) := by
  unfold ax_cs at hs
  simp only [ax_fn_eq, ax_ft_eq] at hs
  split at hs
  · rename_i v h0 dc ds
    obtain ⟨e1, e2, K⟩ := ih _ _ _ _ _ _ hs
    refine ⟨.inl v, h0, dc, ds, rfl, e1, e2, fun v2 h2 hq => ?_, fun E h2 hq => absurd hq.1 (by intro z; cases z)⟩
    obtain ⟨q1, q2⟩ := hq
    cases q1
    cases q2
    exact AR.cast (by omega) (by omega) K
  · rename_i E h0 dc ds
    split at hs
    · rename_i q hf
      obtain ⟨e1, e2, K⟩ := ih _ _ _ _ _ _ hs
      refine ⟨.inr E, h0, dc, ds, rfl, e1, e2, fun v2 h2 hq => absurd hq.1 (by intro z; cases z), fun E2 h2 hq => ?_⟩
      obtain ⟨q1, q2⟩ := hq
      cases q1
      cases q2
      exact ax_hand_ok hf (AR.cast (by omega) (by omega) K)
    · cases hs
  · cases hs
theorem ax_to_ok {call : Nat → List Value → ax_H → Option ax_RR} {dy i sp bc bs : Nat} {lv' : List (Nat × Value)} {st' : List Value} {h' : ax_H} {uc' us' : Nat}
    (hc : ∀ a as h res h' dc ds, call a as h = some (res, h', dc, ds) → AM ax_ns l (ax_mm a) dy r dc ds as h (ax_QR res h')) (KA : AR ax_ns l (ax_mm i) (dy + 1) r P X sp lv' st' h' bc bs) :
    ∀ (n pc : Nat) (lv : List (Nat × Value)) (st : List Value) (h : ax_H) (uc us : Nat), ax_to r call i sp n pc lv st h uc us = some (lv', st', h', uc', us') →
      uc ≤ uc' ∧ us ≤ us' ∧ AR ax_ns l (ax_mm i) (dy + 1) r P X pc lv st h (bc + (uc' - uc)) (bs + (us' - us)) := by
  intro n
  induction n with
  | zero => intro pc lv st h uc us hs; cases hs
  | succ n ih =>
    intro pc lv st h uc us hs
    have ih' := ih
    rw [ax_to] at hs
    split at hs
    · rename_i hpc
      cases hs
      have := Nat.eq_of_beq_eq_true hpc
      subst this
      exact ⟨Nat.le_refl _, Nat.le_refl _, AR.cast (by omega) (by omega) KA⟩
    split at hs
    · cases hs
    · rename_i _ ins a b c v ws hl
      split at hs
      · split at hs
        · rename_i pc' lv' st' h1 dc ds ho
          simp only [ax_fn_eq, ax_ft_eq] at hs
          obtain ⟨e1, e2, K⟩ := ih _ _ _ _ _ _ hs
          obtain ⟨hd, hok⟩ := ax_look_ok hl
          exact ⟨by omega, by omega, AR.cast (by omega) (by omega) (ax_one_ok hd hok ho K)⟩
        · cases hs
      · split at hs
        · rename_i as rest hg
          obtain ⟨res0, h0, dc, ds, hcall, e1, e2, K1, K2⟩ := ax_cs_ok hs ih'
          exact ⟨by omega, by omega, AR.call hl hg (hc _ _ _ _ _ _ _ hcall) (Nat.le_refl _) (by omega) (by omega) K1 K2⟩
        · cases hs
      · cases hs
/-- what is known of the cells from before may be less -/
theorem AR.weak {ns : ax_NS} {k : ax_M} {d : Nat} {r' : ax_H} {pc : Nat} {lv : List (Nat × Value)} {st : List Value} {h : ax_H} {bc bs : Nat} (hr : ∀ (s : State) (b : Nat) (o : Nat → Nat) (H : Heap), ax_O s b o r' H → ax_O s b o r H) (K : AR ns l k d r P X pc lv st h bc bs) : AR ns l k d r' P X pc lv st h bc bs := by
  intro D b o TC TS p e R s m args below meth c Z hX
  refine K D b o TC TS p e R s m args below meth c Z ?_
  obtain ⟨x1, x2, x3, x4, x5, ⟨t1, t2, t3, t4, t5, t6, t7, t8, t9⟩, x7⟩ := hX
  exact ⟨x1, x2, x3, x4, x5, ⟨t1, t2, t3, t4, t5, t6, t7, hr _ _ _ _ t8, t9⟩, x7⟩
theorem ax_O_script {s : State} {b L : Nat} {o : Nat → Nat} {H : Heap} {xs : Nat → Int32} {as : List Value} (hlen : as.length = L) (ha : ∀ j x, as[j]? = some x → ax_vk x (xs j)) (h : ax_O s b o (ax_r L xs) H) : ax_O s b o [(101, ax_bits), (100, as)] H := by
  intro k q hq
  match k, hq with
  | 0, hq => cases hq; exact h 0 _ rfl
  | 1, hq =>
    cases hq
    obtain ⟨h1, t, ty, cell, h2, h3, h4, h5, h6, h7, h8, h9⟩ := h 1 _ rfl
    refine ⟨h1, t, ty, cell, h2, h3, h4, h5, h6, ?_, ?_, fun j x hj => ?_⟩
    · simp only [List.length_map, List.length_range] at h7
      show as.length ≤ _
      omega
    · simp only [List.length_map, List.length_range] at h8
      show _ = as.length.toInt32
      rw [hlen]
      exact h8
    · have hjL : j < L := by
        have := (List.getElem?_eq_some_iff.mp (show as[j]? = some x from hj)).1
        omega
      obtain ⟨v, a1, a2⟩ := h9 j (.int (xs j)) (by simp [hjL])
      exact ⟨v, a1, ax_v_of (ha j x hj) a2⟩
  | k + 2, hq => simp at hq
end AXZ
