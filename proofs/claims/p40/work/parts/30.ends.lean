/-! ENDS: a method's contract, by all its ways -/
/-- the ends L: each of w cells that name nothing -/
def ax_okN (w B : Nat) (L : List ((Option Value ⊕ String) × ax_H)) : Bool := L.all (fun e => Nat.beq e.2.length w && (e.2.all (fun q => q.2.all ax_low) && (ax_nnb B e.2 && (match e.1 with | .inl (some v) => ax_low v && ax_nvb B v | _ => true))))
def ax_PL (w B i : Nat) (L : List ((Option Value ⊕ String) × ax_H)) : ax_P := fun pc lv st h bc bs => ax_ret ax_ns (ax_mm i) (ax_QL w L) pc lv st h bc bs ∧ w ≤ h.length ∧ (h.take w).all (fun q => q.2.all ax_low) = true ∧ st.all ax_low = true ∧ ax_nnb B (h.take w) = true ∧ st.all (ax_nvb B) = true
def ax_XL (w B i : Nat) (L : List ((Option Value ⊕ String) × ax_H)) : ax_PX := fun _ _ E h _ _ => ((ax_mm i).2.2.2.2 = [] ∧ ax_QL w L (.inr E) h) ∧ w ≤ h.length ∧ (h.take w).all (fun q => q.2.all ax_low) = true ∧ ax_nnb B (h.take w) = true
theorem ax_ret_rest {w i pc bc bs t : Nat} {L : List ((Option Value ⊕ String) × ax_H)} {lv lv' : List (Nat × Value)} {st : List Value} {h : ax_H} (hw : w ≤ h.length) (hp : ax_ret ax_ns (ax_mm i) (ax_QL w L) pc lv st h bc bs) : ax_ret ax_ns (ax_mm i) (ax_QL w L) pc lv' st (ax_rest w h t) bc bs := by
  rcases hp with ⟨x, a1, a2, a3, a4, a5⟩ | ⟨x, ty, a1, a2, a3, a4, a5, a6⟩ | ⟨x, a1, a2, a3, a4, a5⟩ | ⟨x, rt, a1, a2, a3, a4, a5, a6⟩ | ⟨a1, a2, a3, a4⟩ | ⟨E, a1, a2, a3, a4, a5, a6⟩
  · exact Or.inl ⟨x, a1, a2, a3, a4, ax_QL_rest a5⟩
  · exact Or.inr (Or.inl ⟨x, ty, a1, a2, a3, a4, a5, ax_QL_rest a6⟩)
  · exact Or.inr (Or.inr (Or.inl ⟨x, a1, a2, a3, a4, ax_QL_rest a5⟩))
  · exact Or.inr (Or.inr (Or.inr (Or.inl ⟨x, rt, a1, a2, a3, a4, a5, ax_QL_rest a6⟩)))
  · exact Or.inr (Or.inr (Or.inr (Or.inr (Or.inl ⟨a1, a2, a3, ax_QL_rest a4⟩))))
  · refine Or.inr (Or.inr (Or.inr (Or.inr (Or.inr ⟨E, a1, a2, a3, a4, a5, ?_⟩))))
    obtain ⟨e, h1, h2, h3, h4⟩ := a6
    obtain ⟨b1, b2⟩ := ax_rest_take (t := t) hw
    refine ⟨e, h1, h2, by rw [List.length_append]; omega, ?_⟩
    rw [List.take_append_of_le_length b1, b2]
    rw [List.take_append_of_le_length hw] at h4
    exact h4
theorem ax_PL_clo {w B i : Nat} {L : List ((Option Value ⊕ String) × ax_H)} : ax_clo w B (ax_PL w B i L) := by
  intro pc lv st h bc bs hp
  obtain ⟨h1, h2, h3, h4, h5, h6⟩ := hp
  refine ⟨h2, h3, h4, fun t => ?_, h5, h6⟩
  obtain ⟨a1, a2⟩ := ax_rest_take (t := t) h2
  exact ⟨ax_ret_rest h2 h1, a1, by rw [a2]; exact h3, h4, by rw [a2]; exact h5, h6⟩
theorem ax_XL_clx {w B i : Nat} {L : List ((Option Value ⊕ String) × ax_H)} : ax_clx w B (ax_XL w B i L) := by
  intro pc lv E h bc bs hp
  obtain ⟨⟨h1, h7⟩, h2, h3, h5⟩ := hp
  refine ⟨h2, h3, fun t => ?_, h5⟩
  obtain ⟨a1, a2⟩ := ax_rest_take (t := t) h2
  exact ⟨⟨h1, ax_QL_rest h7⟩, a1, by rw [a2]; exact h3, by rw [a2]; exact h5⟩
theorem ax_fin1_h {i pc a uc us uc' us' : Nat} {ins : Instr} {st : List Value} {h h' : ax_H} {res : Option Value ⊕ String} (hs : ax_fin1 i pc ins a st h uc us = some (res, h', uc', us')) : h' = h ∨ h' = h ++ [(99, [])] := by
  unfold ax_fin1 at hs
  repeat' (split at hs)
  all_goals first | (cases hs; done) | (cases hs; exact Or.inl rfl) | (cases hs; exact Or.inr rfl)
theorem ax_ret_mono {ns : ax_NS} {k : ax_M} {Q Q' : ax_Q} {pc bc bs bc' bs' : Nat} {lv : List (Nat × Value)} {st : List Value} {h : ax_H} (hb : bc ≤ bc') (hs : bs ≤ bs') (hq : ∀ res h', Q res h' → Q' res h') (hp : ax_ret ns k Q pc lv st h bc bs) : ax_ret ns k Q' pc lv st h bc' bs' := by
  rcases hp with ⟨x, a1, a2, a3, a4, a5⟩ | ⟨x, ty, a1, a2, a3, a4, a5, a6⟩ | ⟨x, a1, a2, a3, a4, a5⟩ | ⟨x, rt, a1, a2, a3, a4, a5, a6⟩ | ⟨a1, a2, a3, a4⟩ | ⟨E, a1, a2, a3, a4, a5, a6⟩
  · exact Or.inl ⟨x, a1, a2, a3, a4, hq _ _ a5⟩
  · exact Or.inr (Or.inl ⟨x, ty, a1, a2, a3, a4, a5, hq _ _ a6⟩)
  · exact Or.inr (Or.inr (Or.inl ⟨x, a1, a2, a3, a4, hq _ _ a5⟩))
  · exact Or.inr (Or.inr (Or.inr (Or.inl ⟨x, rt, a1, a2, a3, a4, a5, hq _ _ a6⟩)))
  · exact Or.inr (Or.inr (Or.inr (Or.inr (Or.inl ⟨a1, a2, a3, hq _ _ a4⟩))))
  · exact Or.inr (Or.inr (Or.inr (Or.inr (Or.inr ⟨E, a1, a2, Nat.le_trans a3 hb, Nat.le_trans a4 hs, a5, hq _ _ a6⟩))))
def ax_st0 (res : Option Value ⊕ String) : List Value := match res with
  | .inl (some v) => [v]
  | _ => []
def ax_pad (w n : Nat) (h : ax_H) : ax_H := h ++ List.replicate (n - w) (99, [])
noncomputable def ax_end1 (w i pc : Nat) (ins : Instr) (a : Nat) (st : List Value) (h : ax_H) (bc bs : Nat) (e : (Option Value ⊕ String) × ax_H) : Bool :=
  Nat.ble w h.length && (ax_les (ax_st0 e.1) st && (ax_leh (ax_pad w h.length e.2) h && (match ax_fin1 i pc ins a (ax_st0 e.1) (ax_pad w h.length e.2) 0 0 with
    | some (res, _, uc, us) => decide (res = e.1) && (Nat.ble uc bc && Nat.ble us bs)
    | none => false)))
/-- at an end: is it one of L? -/
noncomputable def ax_stq (w : Nat) (L : List ((Option Value ⊕ String) × ax_H)) (i pc : Nat) (st : List Value) (h : ax_H) (bc bs : Nat) : Option Bool := match ax_look i pc with
  | some (ins, (a, _, c), _, _) => (match ax_kind ins a c with
    | 2 => some (L.any (fun e => ax_end1 w i pc ins a st h bc bs e))
    | _ => none)
  | none => none
noncomputable def ax_xtq (w : Nat) (L : List ((Option Value ⊕ String) × ax_H)) (i : Nat) (E : String) (h : ax_H) : Bool := decide ((ax_mm i).2.2.2.2 = []) && L.any (fun e => decide (e.1 = .inr E) && (Nat.ble w h.length && ax_leh (ax_pad w h.length e.2) h))
section AXEN
variable {l : Launch} {r : ax_H} {w B i : Nat} {L : List ((Option Value ⊕ String) × ax_H)}
theorem AX.heapv {ns : ax_NS} {k : ax_M} {d pc bc bs : Nat} {P : ax_P} {X : ax_PX} {lv : List (Nat × Value)} {E : String} {h h' : ax_H} (hl : ax_leh h' h = true) (K : AX ns l k d r P X pc lv E h' bc bs) : AX ns l k d r P X pc lv E h bc bs := by
  intro D b o TC TS p e R s m args below meth c Z hX hP hXX lvc ls stc H locs cells slots q ce hG
  obtain ⟨g1, g2, g3, g4, g5, g6, g7⟩ := hG
  exact K D b o TC TS p e R s m args below meth c Z hX hP hXX lvc ls stc H locs cells slots q ce ⟨g1, g2, g3, ax_leh_ok hl g4, g5, g6, g7⟩
theorem ax_pad_len {n : Nat} {h : ax_H} (hw : h.length = w) (hn : w ≤ n) : (ax_pad w n h).length = n ∧ (ax_pad w n h).take w = h := by
  unfold ax_pad
  refine ⟨by rw [List.length_append, List.length_replicate]; omega, ?_⟩
  rw [List.take_append_of_le_length (by omega), ← hw, List.take_length]
theorem ax_stq_ok {d pc bc bs : Nat} {X : ax_PX} {lv : List (Nat × Value)} {st : List Value} {h : ax_H} (hL : ax_okN w B L = true) (hs : ax_stq w L i pc st h bc bs = some true) : AR ax_ns l (ax_mm i) d r (ax_PL w B i L) X pc lv st h bc bs := by
  unfold ax_stq at hs
  split at hs
  · rename_i ins a b c v ws hl
    split at hs
    · simp only [Option.some.injEq, List.any_eq_true] at hs
      obtain ⟨e, he, h1⟩ := hs
      have h2 := List.all_eq_true.mp hL e he
      simp only [Bool.and_eq_true] at h2
      obtain ⟨z1, z2, z3, z4⟩ := h2
      have z1 := Nat.eq_of_beq_eq_true z1
      simp only [ax_end1, Bool.and_eq_true] at h1
      obtain ⟨y1, y2, y3, y4⟩ := h1
      have y1 := Nat.le_of_ble_eq_true y1
      obtain ⟨p1, p2⟩ := ax_pad_len z1 y1
      split at y4
      · rename_i res h9 uc us hf
        simp only [Bool.and_eq_true, decide_eq_true_eq] at y4
        obtain ⟨u1, u2, u3⟩ := y4
        obtain ⟨-, -, hret⟩ := ax_fin1_ok (lv := []) hl hf
        have hh := ax_fin1_h hf
        have hq : ∀ res2 h2, ax_QR res h9 res2 h2 → ax_QL w L res2 h2 := fun res2 h2 hq => by
          obtain ⟨q1, q2⟩ := hq
          refine ⟨e, he, q1.trans u1, ?_⟩
          rcases hh with hh | hh
          · rw [q2, hh]
            exact ⟨by omega, p2⟩
          · rw [q2, hh]
            refine ⟨by rw [List.length_append]; omega, ?_⟩
            rw [List.take_append_of_le_length (by omega)]
            exact p2
        refine AR.less (lv' := []) (fun q hq => absurd hq List.not_mem_nil) y2 y3 (AR.at ⟨ax_ret_mono (by have := Nat.le_of_ble_eq_true u2; omega) (by have := Nat.le_of_ble_eq_true u3; omega) hq hret, by omega, by rw [p2]; exact z2, ?_, by rw [p2]; exact z3, ?_⟩)
        · obtain ⟨er, eh⟩ := e
          rcases er with (_ | v) | E
          · rfl
          · simp only [Bool.and_eq_true] at z4
            simp [ax_st0, z4.1]
          · rfl
        · obtain ⟨er, eh⟩ := e
          rcases er with (_ | v) | E
          · rfl
          · simp only [Bool.and_eq_true] at z4
            simp [ax_st0, z4.2]
          · rfl
      · cases y4
    · cases hs
  · cases hs
theorem ax_xtq_ok {d pc bc bs : Nat} {P : ax_P} {lv : List (Nat × Value)} {E : String} {h gs : ax_H} (hL : ax_okN w B L = true) (hs : ax_xtq w L i E h = true) : AX ax_ns l (ax_mm i) d r P (ax_XL w B i L) pc lv E (h ++ gs) bc bs := by
  simp only [ax_xtq, Bool.and_eq_true, List.any_eq_true, decide_eq_true_eq] at hs
  obtain ⟨h0, e, he, h1, h2, h3⟩ := hs
  have h2 := Nat.le_of_ble_eq_true h2
  have h4 := List.all_eq_true.mp hL e he
  simp only [Bool.and_eq_true] at h4
  obtain ⟨z1, z2, z3, z4⟩ := h4
  have z1 := Nat.eq_of_beq_eq_true z1
  obtain ⟨p1, p2⟩ := ax_pad_len z1 h2
  have happ : ∀ {x y : ax_H}, ax_leh x y = true → ax_leh (x ++ gs) (y ++ gs) = true := fun {x y} hxy => by
    induction x generalizing y with
    | nil =>
      cases y with
      | nil => exact ax_leh_refl gs
      | cons _ _ => cases hxy
    | cons a x ih =>
      cases y with
      | nil => cases hxy
      | cons b y =>
        simp only [ax_leh, Bool.and_eq_true] at hxy
        simp only [List.cons_append, ax_leh, hxy.1, ih hxy.2, Bool.and_self]
  have ht : (ax_pad w h.length e.2 ++ gs).take w = e.2 := by
    rw [List.take_append_of_le_length (by omega)]
    exact p2
  have hlen : w ≤ (ax_pad w h.length e.2 ++ gs).length := by rw [List.length_append]; omega
  exact AX.heapv (happ h3) (AX.out ⟨⟨h0, e, he, h1.symm, hlen, ht⟩, hlen, by rw [ht]; exact z2, by rw [ht]; exact z3⟩)
/-- a method whose ways (from the start to its ends) are all explored -/
theorem AM.explore {dy n bc bs N : Nat} {as : List Value} {h : ax_H} {call : Nat → List Value → ax_H → Option ax_Lo} (hl : l.stackTraces = false) (hi : ax_has i = true) (hlen : (lg_sl as).length ≤ (ax_mm i).2.2.1) (hw2 : 198 ≤ w) (hr : ax_lowh r = true) (hrl : r.length < 900) (hrn : ax_nn r = true) (hL : ax_okN w B L = true)
    (hc : ∀ a as h dc ds L, call a as h = some (dc, ds, L) → ∃ Q, AM ax_ns l (ax_mm a) dy r dc ds as h Q ∧ ∀ res h2, Q res h2 → ∃ e ∈ L, res = e.1 ∧ ∃ gs, h2 = e.2 ++ gs)
    (hs : ax_xp r w B call (fun pc _ st h bc bs => ax_stq w L i pc st h bc bs) (fun _ E h _ _ => ax_xtq w L i E h) i n 0 (lv_args 0 as) [] h bc bs N = true) : AM ax_ns l (ax_mm i) (dy + 1) r bc bs as h (ax_QL w L) :=
  AM.of (ax_mfacts hi).2.2.2.2.2.2 hl hlen (AR.post (ax_xp_ok hw2 hr hrl hrn (ax_PL_clo (L := L)) (ax_XL_clx (L := L)) hc (fun pc lv st h bc bs hs => ax_stq_ok hL hs) (fun pc lv E h bc bs hs gs => ax_xtq_ok hL hs) n 0 _ _ _ _ _ N hs) (fun _ _ _ _ _ _ hp => hp.1) (fun _ _ _ _ _ _ hp => hp.1))
end AXEN
