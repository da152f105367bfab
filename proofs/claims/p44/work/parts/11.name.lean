/-! NAMES: what holds of a named int holds of each -/
def ax_sb (n : UInt32) (i : Int32) (x : Value) : Value := match x with
  | .float m => if Nat.beq (m.toNat / 1000) (n.toNat / 1000) then .int i else .float m
  | x => x
/-- of this name it has this very mark -/
def ax_on (n : UInt32) (x : Value) : Bool := match x with
  | .float m => !(Nat.beq (m.toNat / 1000) (n.toNat / 1000)) || decide (m = n)
  | _ => true
def ax_onl (n : UInt32) (lv : List (Nat × Value)) : Bool := lv.all (fun q => ax_on n q.2)
def ax_onh (n : UInt32) (h : ax_H) : Bool := h.all (fun q => q.2.all (ax_on n))
def ax_sbl (n : UInt32) (i : Int32) (lv : List (Nat × Value)) : List (Nat × Value) := lv.map (fun q => (q.1, ax_sb n i q.2))
def ax_sbs (n : UInt32) (i : Int32) (st : List Value) : List Value := st.map (ax_sb n i)
def ax_sbh (n : UInt32) (i : Int32) (h : ax_H) : ax_H := h.map (fun q => (q.1, q.2.map (ax_sb n i)))
def ax_so (n : UInt32) (i : Int32) (o : Nat → Nat) : Nat → Nat := fun k => if k = ax_bs n then i.toBitVec.toNat else o k
theorem ax_ofN (i : Int32) : i = Int32.ofNat i.toBitVec.toNat := by
  apply Int32.toBitVec.inj
  simp
section AXN
variable {n : UInt32} {i : Int32} {D : va_G} {b : Nat} {o : Nat → Nat}
theorem ax_so_ne {k : Nat} (h : k ≠ ax_bs n) : ax_so n i o k = o k := by simp [ax_so, h]
theorem ax_bs_lt : ax_bs n < 1000000000 := by
  have := n.toNat_lt
  unfold ax_bs
  omega
theorem ax_so_G : ax_so n i o 999 = o 999 := ax_so_ne (by unfold ax_bs; omega)
theorem ax_so_pin {k : Nat} : ax_so n i o (1000000000 + 2 * k) = o (1000000000 + 2 * k) := ax_so_ne (by have := ax_bs_lt (n := n); omega)
theorem ax_so_of {k : Nat} : ax_of (ax_so n i o) k = ax_of o k := by
  unfold ax_of
  rw [ax_so_pin, ax_so_G]
theorem ax_so_ga {g a : Nat} : ax_ga b (ax_so n i o) g a ↔ ax_ga b o g a := by
  unfold ax_ga
  simp only [ax_so_of]
theorem ax_so_GE : ax_so n i o 998 = o 998 := ax_so_ne (by unfold ax_bs; omega)
theorem ax_so_pinE {k : Nat} : ax_so n i o (1000000001 + 2 * k) = o (1000000001 + 2 * k) := ax_so_ne (by have := ax_bs_lt (n := n); omega)
theorem ax_so_R0 {a : Nat} : ax_R0 (ax_so n i o) a ↔ ax_R0 o a := by
  unfold ax_R0
  simp only [ax_so_pinE, ax_so_GE]
theorem ax_so_RG : ax_RG b (ax_so n i o) = ax_RG b o := by
  funext q
  unfold ax_RG
  simp only [ax_so_R0]
theorem ax_so_W {k : Nat} : ax_W (ax_so n i o) k ↔ ax_W o k := by
  unfold ax_W
  simp only [ax_so_of, ax_so_pin, ax_so_G, ax_so_GE, ax_so_R0]
theorem ax_so_ad (hn : 1000 ≤ n.toNat) (a : Nat) : ax_ad b (ax_so n i o) a = ax_ad b o a := by
  unfold ax_ad
  split
  · rw [ax_so_of]
  · exact ax_so_ne (by unfold ax_bs; omega)
theorem ax_sb_to (hn : 1000 ≤ n.toNat) (hi : ax_md n i) {x v : Value} (hx : ax_on n x = true) (h : ax_v b o (ax_sb n i x) v) : ax_v b (ax_so n i o) x v := by
  cases x with
  | ref a => simp only [ax_sb, ax_v, ax_so_ad hn] at h ⊢; exact h
  | float m =>
    simp only [ax_sb] at h
    cases hm : Nat.beq (m.toNat / 1000) (n.toNat / 1000) with
    | true =>
      rw [hm] at h
      simp only [ax_on, hm, Bool.not_true, Bool.false_or, decide_eq_true_eq] at hx
      subst hx
      have h1 : v = .int i := h
      exact ⟨i, h1, hi, fun _ => by rw [show ax_so m i o (ax_bs m) = i.toBitVec.toNat from by simp [ax_so]]; exact ax_ofN i⟩
    | false =>
      rw [hm] at h
      obtain ⟨j, h1, h2, h3⟩ := (show ax_v b o (.float m) v from h)
      refine ⟨j, h1, h2, fun h4 => ?_⟩
      have hne : ax_bs m ≠ ax_bs n := by
        have := Nat.ne_of_beq_eq_false hm
        unfold ax_bs
        omega
      rw [ax_so_ne hne]
      exact h3 h4
  | int j => exact h
  | long j => exact h
  | double j => exact h
  | retAddr a => obtain ⟨c, h1, h2⟩ := h; exact ⟨c, h1, ax_so_ga.mpr h2⟩
  | null => exact h
theorem ax_sb_of (hn : 1000 ≤ n.toNat) {x v : Value} (h : ax_v b (ax_so n i o) x v) : ax_v b o (ax_sb n i x) v := by
  cases x with
  | ref a => simp only [ax_sb, ax_v, ax_so_ad hn] at h ⊢; exact h
  | float m =>
    obtain ⟨j, h1, h2, h3⟩ := h
    simp only [ax_sb]
    cases hm : Nat.beq (m.toNat / 1000) (n.toNat / 1000) with
    | true =>
      have e : m.toNat / 1000 = n.toNat / 1000 := Nat.eq_of_beq_eq_true hm
      have h4 := h3 (by omega)
      rw [show ax_so n i o (ax_bs m) = i.toBitVec.toNat from by simp [ax_so, ax_bs, e], ← ax_ofN] at h4
      subst h4
      exact h1
    | false =>
      refine ⟨j, h1, h2, fun h4 => ?_⟩
      have hne : ax_bs m ≠ ax_bs n := by
        have := Nat.ne_of_beq_eq_false hm
        unfold ax_bs
        omega
      have h5 := h3 h4
      rw [ax_so_ne hne] at h5
      exact h5
  | int j => exact h
  | long j => exact h
  | double j => exact h
  | retAddr a => obtain ⟨c, h1, h2⟩ := h; exact ⟨c, h1, ax_so_ga.mp h2⟩
  | null => exact h
theorem ax_sbs_to (hn : 1000 ≤ n.toNat) (hi : ax_md n i) : ∀ {xs vs : List Value}, xs.all (ax_on n) = true → ax_vs b o (ax_sbs n i xs) vs → ax_vs b (ax_so n i o) xs vs
  | [], vs, _, h => h
  | x :: xs, vs, hx, ⟨v, t, h1, h2, h3⟩ => by
    simp only [List.all_cons, Bool.and_eq_true] at hx
    exact ⟨v, t, h1, ax_sb_to hn hi hx.1 h2, ax_sbs_to hn hi hx.2 h3⟩
theorem ax_sbs_of (hn : 1000 ≤ n.toNat) : ∀ {xs vs : List Value}, ax_vs b (ax_so n i o) xs vs → ax_vs b o (ax_sbs n i xs) vs
  | [], vs, h => h
  | x :: xs, vs, ⟨v, t, h1, h2, h3⟩ => ⟨v, t, h1, ax_sb_of hn h2, ax_sbs_of hn h3⟩
theorem ax_sbl_to (hn : 1000 ≤ n.toNat) (hi : ax_md n i) : ∀ {xs vs : List (Nat × Value)}, ax_onl n xs = true → ax_ls b o (ax_sbl n i xs) vs → ax_ls b (ax_so n i o) xs vs
  | [], vs, _, h => h
  | x :: xs, vs, hx, ⟨v, t, h1, h2, h3⟩ => by
    simp only [ax_onl, List.all_cons, Bool.and_eq_true] at hx
    exact ⟨v, t, h1, ax_sb_to hn hi hx.1 h2, ax_sbl_to hn hi hx.2 h3⟩
theorem ax_sbl_of (hn : 1000 ≤ n.toNat) : ∀ {xs vs : List (Nat × Value)}, ax_ls b (ax_so n i o) xs vs → ax_ls b o (ax_sbl n i xs) vs
  | [], vs, h => h
  | x :: xs, vs, ⟨v, t, h1, h2, h3⟩ => ⟨v, t, h1, ax_sb_of hn h2, ax_sbl_of hn h3⟩
theorem ax_sb_get_to (hn : 1000 ≤ n.toNat) (hi : ax_md n i) {xs : List Value} {p : Nat → Value → Prop} (hx : xs.all (ax_on n) = true) (h : ∀ k x, (xs.map (ax_sb n i))[k]? = some x → ∃ v, p k v ∧ ax_v b o x v) : ∀ k x, xs[k]? = some x → ∃ v, p k v ∧ ax_v b (ax_so n i o) x v := by
  intro k x hk
  obtain ⟨v, h1, h2⟩ := h k (ax_sb n i x) (by rw [List.getElem?_map, hk]; rfl)
  exact ⟨v, h1, ax_sb_to hn hi (List.all_eq_true.mp hx x (List.mem_of_getElem? hk)) h2⟩
theorem ax_sb_get_of (hn : 1000 ≤ n.toNat) {xs : List Value} {p : Nat → Value → Prop} (h : ∀ k x, xs[k]? = some x → ∃ v, p k v ∧ ax_v b (ax_so n i o) x v) : ∀ k x, (xs.map (ax_sb n i))[k]? = some x → ∃ v, p k v ∧ ax_v b o x v := by
  intro k x hk
  rw [List.getElem?_map] at hk
  cases he : xs[k]? with
  | none => rw [he] at hk; cases hk
  | some y =>
    rw [he] at hk
    cases hk
    obtain ⟨v, h1, h2⟩ := h k y he
    exact ⟨v, h1, ax_sb_of hn h2⟩
theorem ax_sb_c_to (hn : 1000 ≤ n.toNat) (hi : ax_md n i) {q : Nat × List Value} {cell : Cell} (hx : q.2.all (ax_on n) = true) (h : ax_c D b o (q.1, q.2.map (ax_sb n i)) cell) : ax_c D b (ax_so n i o) q cell := by
  rcases h with h | ⟨h1, h2, h3, h4⟩
  · exact Or.inl h
  · exact Or.inr ⟨h1, h2, fun h => by rw [h3 h, List.length_map], ax_sb_get_to (p := fun k v => cell.slots[D.2 q.1 k]? = some v) hn hi hx h4⟩
theorem ax_sb_c_of (hn : 1000 ≤ n.toNat) {q : Nat × List Value} {cell : Cell} (h : ax_c D b (ax_so n i o) q cell) : ax_c D b o (q.1, q.2.map (ax_sb n i)) cell := by
  rcases h with h | ⟨h1, h2, h3, h4⟩
  · exact Or.inl h
  · exact Or.inr ⟨h1, h2, fun h => by rw [List.length_map]; exact h3 h, ax_sb_get_of (p := fun k v => cell.slots[D.2 q.1 k]? = some v) hn h4⟩
theorem ax_sbh_to (hn : 1000 ≤ n.toNat) (hi : ax_md n i) {h : ax_H} {H : Heap} (hx : ax_onh n h = true) (hR : ax_R D b o (ax_sbh n i h) H) : ax_R D b (ax_so n i o) h H := by
  obtain ⟨h1, h2, h9⟩ := hR
  have hl : (ax_sbh n i h).length = h.length := List.length_map _
  rw [hl] at h1 h9
  refine ⟨by rw [ax_so_G]; exact h1, fun k q hq => ?_, ax_so_W.mpr h9⟩
  rw [ax_so_of]
  obtain ⟨cell, a1, a2⟩ := h2 k (q.1, q.2.map (ax_sb n i)) (by unfold ax_sbh; rw [List.getElem?_map, hq]; rfl)
  exact ⟨cell, a1, ax_sb_c_to hn hi (List.all_eq_true.mp hx q (List.mem_of_getElem? hq)) a2⟩
theorem ax_sbh_of (hn : 1000 ≤ n.toNat) {h : ax_H} {H : Heap} (hR : ax_R D b (ax_so n i o) h H) : ax_R D b o (ax_sbh n i h) H := by
  obtain ⟨h1, h2, h9⟩ := hR
  have hl : (ax_sbh n i h).length = h.length := List.length_map _
  rw [ax_so_G] at h1
  refine ⟨by rw [hl]; exact h1, fun k q hq => ?_, by rw [hl]; exact ax_so_W.mp h9⟩
  unfold ax_sbh at hq
  rw [List.getElem?_map] at hq
  cases he : h[k]? with
  | none => rw [he] at hq; cases hq
  | some y =>
    rw [he] at hq
    cases hq
    obtain ⟨cell, a1, a2⟩ := h2 k y he
    rw [ax_so_of] at a1
    exact ⟨cell, a1, ax_sb_c_of hn a2⟩
theorem ax_sbO (hn : 1000 ≤ n.toNat) (hi : ax_md n i) {s : State} {r : ax_H} {H : Heap} (hx : ax_onh n r = true) (h : ax_O s b o (ax_sbh n i r) H) : ax_O s b (ax_so n i o) r H := by
  intro k q hq
  obtain ⟨a1, t, ty, cell, a2, a3, a4, a5, a6, a7, a8, a9⟩ := h k (q.1, q.2.map (ax_sb n i)) (by unfold ax_sbh; rw [List.getElem?_map, hq]; rfl)
  have hk : ax_so n i o k = o k := ax_so_ne (by unfold ax_bs; omega)
  simp only [List.length_map] at a7 a8
  refine ⟨by rw [hk]; exact a1, t, ty, cell, a2, a3, by rw [hk]; exact a4, a5, a6, a7, a8, ?_⟩
  exact ax_sb_get_to (p := fun k v => cell.slots[k]? = some v) hn hi (List.all_eq_true.mp hx q (List.mem_of_getElem? hq)) a9
theorem ax_sbT (hn : 1000 ≤ n.toNat) (hi : ax_md n i) {ns : ax_NS} {r : ax_H} {U : State} (hx : ax_onh n r = true) (h : ax_T ns (ax_sbh n i r) D b o U) : ax_T ns r D b (ax_so n i o) U := by
  obtain ⟨h1, h2, h3, h4, h5, h6, h7, h8, h10, h9, h11⟩ := h
  have hJ : ax_J b (ax_so n i o) U := by
    have e : ∀ k, k < 1000 → ax_so n i o k = o k := fun k hk => ax_so_ne (by unfold ax_bs; omega)
    have hs : ∀ q ∈ ax_sl, q.2.1 + 1 < 1000 := by decide
    refine ⟨fun q hq => ?_, ?_, h11.2.2⟩
    · rw [e _ (Nat.lt_of_succ_lt (hs q hq)), e _ (hs q hq)]
      exact h11.1 q hq
    · rw [e 14 (by decide)]
      exact h11.2.1
  refine ⟨h1, h2, h3, h4, h5, h6, fun q hq => ?_, ax_sbO hn hi hx h8, h10, h9, hJ⟩
  obtain ⟨v, hv, hZ⟩ := h7 q hq
  refine ⟨v, ?_, hZ⟩
  simp only [ax_stat, List.mem_cons, List.not_mem_nil, or_false] at hq
  rcases hq with rfl | rfl
  · exact ax_sb_to (x := .ref 1000000000) hn hi rfl hv
  · exact hv
end AXN
section AXN2
variable {ns : ax_NS} {l : Launch} {k : ax_M} {d : Nat} {r : ax_H} {P : ax_P} {X : ax_PX} {pc : Nat} {lv : List (Nat × Value)} {st : List Value} {h : ax_H} {bc bs : Nat}
theorem AR.name {n : UInt32} {i : Int32} (hn : 1000 ≤ n.toNat) (hi : ax_md n i) (hr : ax_onh n r = true) (hlv : ax_onl n lv = true) (hst : st.all (ax_on n) = true) (hh : ax_onh n h = true)
    (K : AR ns l k d r (fun pc lv st h bc bs => P pc (ax_sbl n i lv) (ax_sbs n i st) (ax_sbh n i h) bc bs) (fun pc lv E h bc bs => X pc (ax_sbl n i lv) E (ax_sbh n i h) bc bs) pc lv st h bc bs) :
    AR ns l k d (ax_sbh n i r) P X pc (ax_sbl n i lv) (ax_sbs n i st) (ax_sbh n i h) bc bs := by
  intro D b o TC TS p e R s m args below meth c Z hX hP hXX lvc ls stc H locs cells slots hG
  obtain ⟨x1, x2, x3, x4, x5, x6, x7⟩ := hX
  obtain ⟨g1, g2, g3, g4, g5, g6, g7⟩ := hG
  refine K D b (ax_so n i o) TC TS p e R s m args below meth c Z ⟨x1, x2, x3, x4, x5, ax_sbT hn hi hr x6, x7⟩ ?_ ?_ lvc ls stc H locs cells slots ⟨g1, ax_sbl_to hn hi hlv g2, ax_sbs_to hn hi hst g3, ax_sbh_to hn hi hh g4, by rw [ax_so_RG]; exact g5, g6, g7⟩
  · intro pc lv st h bc bs hp lvc ls stc H locs cells slots hG
    obtain ⟨g1, g2, g3, g4, g5, g6, g7⟩ := hG
    exact hP _ _ _ _ _ _ hp lvc ls stc H locs cells slots ⟨g1, ax_sbl_of hn g2, ax_sbs_of hn g3, ax_sbh_of hn g4, by rw [ax_so_RG] at g5; exact g5, g6, g7⟩
  · intro pc lv E h bc bs hp lvc ls stc H locs cells slots q ce hG
    obtain ⟨g1, g2, g3, g4, g5, g6, g7⟩ := hG
    exact hXX _ _ _ _ _ _ hp lvc ls stc H locs cells slots q ce ⟨g1, ax_sbl_of hn g2, ax_sbs_of (xs := []) hn g3, ax_sbh_of hn g4, by rw [ax_so_RG] at g5; exact g5, g6, g7⟩
/-! NARROWER: what a branch says of a named int -/
/-- another interval for all that have this name -/
def ax_re (m : UInt32) (x : Value) : Value := match x with
  | .float n => if Nat.beq (n.toNat / 1000) (m.toNat / 1000) then .float m else .float n
  | x => x
def ax_rel (m : UInt32) (lv : List (Nat × Value)) : List (Nat × Value) := lv.map (fun q => (q.1, ax_re m q.2))
def ax_reh (m : UInt32) (h : ax_H) : ax_H := h.map (fun q => if Nat.blt q.1 100 then (q.1, q.2.map (ax_re m)) else q)
section AXRE
variable {b : Nat} {o : Nat → Nat} {D : va_G} {m : UInt32}
theorem ax_re_ok (hn : 1000 ≤ m.toNat) (hm : ax_md m (Int32.ofNat (o (ax_bs m)))) {x v : Value} (h : ax_v b o x v) : ax_v b o (ax_re m x) v := by
  cases x with
  | float n =>
    obtain ⟨i, h1, h2, h3⟩ := h
    simp only [ax_re]
    cases he : Nat.beq (n.toNat / 1000) (m.toNat / 1000) with
    | true =>
      have e : n.toNat / 1000 = m.toNat / 1000 := Nat.eq_of_beq_eq_true he
      have h4 := h3 (by omega)
      have e2 : ax_bs n = ax_bs m := by unfold ax_bs; rw [e]
      rw [e2] at h4
      exact ⟨i, h1, by rw [h4]; exact hm, fun _ => h4⟩
    | false => exact ⟨i, h1, h2, h3⟩
  | int j => exact h
  | long j => exact h
  | double j => exact h
  | retAddr a => exact h
  | null => exact h
  | ref a => exact h
theorem ax_res_ok (hn : 1000 ≤ m.toNat) (hm : ax_md m (Int32.ofNat (o (ax_bs m)))) : ∀ {xs vs : List Value}, ax_vs b o xs vs → ax_vs b o (xs.map (ax_re m)) vs
  | [], vs, h => h
  | x :: xs, vs, ⟨v, t, h1, h2, h3⟩ => ⟨v, t, h1, ax_re_ok hn hm h2, ax_res_ok hn hm h3⟩
theorem ax_rel_ok (hn : 1000 ≤ m.toNat) (hm : ax_md m (Int32.ofNat (o (ax_bs m)))) : ∀ {xs vs : List (Nat × Value)}, ax_ls b o xs vs → ax_ls b o (ax_rel m xs) vs
  | [], vs, h => h
  | x :: xs, vs, ⟨v, t, h1, h2, h3⟩ => ⟨v, t, h1, ax_re_ok hn hm h2, ax_rel_ok hn hm h3⟩
theorem ax_reh_ok (hn : 1000 ≤ m.toNat) (hm : ax_md m (Int32.ofNat (o (ax_bs m)))) {h : ax_H} {H : Heap} (hR : ax_R D b o h H) : ax_R D b o (ax_reh m h) H := by
  obtain ⟨h1, h2, h9⟩ := hR
  have hl : (ax_reh m h).length = h.length := List.length_map _
  refine ⟨by rw [hl]; exact h1, fun k q hq => ?_, by rw [hl]; exact h9⟩
  unfold ax_reh at hq
  rw [List.getElem?_map] at hq
  cases he : h[k]? with
  | none => rw [he] at hq; cases hq
  | some y =>
    rw [he] at hq
    obtain ⟨cell, a1, a2⟩ := h2 k y he
    refine ⟨cell, a1, ?_⟩
    simp only [Option.map_some, Option.some.injEq] at hq
    split at hq
    · subst hq
      rcases a2 with a2 | ⟨c1, c2, c3, c4⟩
      · exact Or.inl a2
      · refine Or.inr ⟨c1, c2, fun h => by rw [List.length_map]; exact c3 h, fun j x hj => ?_⟩
        simp only [List.getElem?_map] at hj
        cases hy : y.2[j]? with
        | none => rw [hy] at hj; cases hj
        | some z =>
          rw [hy] at hj
          cases hj
          obtain ⟨v, d1, d2⟩ := c4 j z hy
          exact ⟨v, d1, ax_re_ok hn hm d2⟩
    · subst hq; exact a2
end AXRE
/-- a name to narrow, or none -/
def ax_nar (m : UInt32) (lv : List (Nat × Value)) : List (Nat × Value) := if Nat.blt m.toNat 1000 then lv else ax_rel m lv
def ax_nas (m : UInt32) (st : List Value) : List Value := if Nat.blt m.toNat 1000 then st else st.map (ax_re m)
def ax_nah (m : UInt32) (h : ax_H) : ax_H := if Nat.blt m.toNat 1000 then h else ax_reh m h
/-- this value's name (if it has one) may have that mark -/
def ax_may (m : UInt32) (x : Value) (i : Int32) : Prop := 1000 ≤ m.toNat → (∃ n, x = .float n ∧ n.toNat / 1000 = m.toNat / 1000) ∧ ax_md m i
theorem ax_may_ok {m : UInt32} {x : Value} {i : Int32} {b : Nat} {o : Nat → Nat} (hx : ax_v b o x (.int i)) (hm : ax_may m x i) (h : 1000 ≤ m.toNat) : ax_md m (Int32.ofNat (o (ax_bs m))) := by
  obtain ⟨⟨n, rfl, e⟩, h2⟩ := hm h
  obtain ⟨j, h3, h4, h5⟩ := hx
  cases h3
  have h6 := h5 (by omega)
  have e2 : ax_bs n = ax_bs m := by unfold ax_bs; rw [e]
  rw [← e2, ← h6]
  exact h2
/-- a step that looks at two ints: on by what each case says of them -/
theorem AR.cmp2 {x y : Value} {f : Int32 → Int32 → Bool} {pt pf : Nat} {m1 m2 m3 m4 : UInt32} (hx : ax_isI x = true) (hy : ax_isI y = true)
    (step : ∀ (i j : Int32) (lv : List (Nat × Value)) (st : List Value) (h : ax_H), AR ns l k d r P X (if f i j then pt else pf) lv st h bc bs → AR ns l k d r P X pc lv (.int j :: .int i :: st) h bc bs)
    (ht : ∀ i j, ax_vi x i → ax_vi y j → f i j = true → ax_may m1 x i ∧ ax_may m2 y j) (hf : ∀ i j, ax_vi x i → ax_vi y j → f i j = false → ax_may m3 x i ∧ ax_may m4 y j)
    (K1 : (∃ i j, ax_vi x i ∧ ax_vi y j ∧ f i j = true) → AR ns l k d r P X pt (ax_nar m2 (ax_nar m1 lv)) (ax_nas m2 (ax_nas m1 st)) (ax_nah m2 (ax_nah m1 h)) bc bs)
    (K2 : (∃ i j, ax_vi x i ∧ ax_vi y j ∧ f i j = false) → AR ns l k d r P X pf (ax_nar m4 (ax_nar m3 lv)) (ax_nas m4 (ax_nas m3 st)) (ax_nah m4 (ax_nah m3 h)) bc bs) : AR ns l k d r P X pc lv (y :: x :: st) h bc bs := by
  intro D b o TC TS p e R s m args below meth c Z hX hP hXX lvc ls stc H locs cells slots hG
  obtain ⟨g1, g2, ⟨v1, t1, rfl, hv1, v2, t2, rfl, hv2, hs2⟩, g4, g5, g6, g7⟩ := hG
  obtain ⟨i, hi, rfl⟩ : ∃ i, ax_vi x i ∧ v2 = .int i := by
    cases x <;> simp only [ax_isI] at hx
    case int i => exact ⟨i, rfl, hv2⟩
    case float n => obtain ⟨i, h1, h2, -⟩ := hv2; exact ⟨i, h2, h1⟩
    all_goals cases hx
  obtain ⟨j, hj, rfl⟩ : ∃ j, ax_vi y j ∧ v1 = .int j := by
    cases y <;> simp only [ax_isI] at hy
    case int i => exact ⟨i, rfl, hv1⟩
    case float n => obtain ⟨i, h1, h2, -⟩ := hv1; exact ⟨i, h2, h1⟩
    all_goals cases hy
  have go : ∀ (m : UInt32) (z : Value) (w : Int32), ax_v b o z (.int w) → ax_may m z w → ∀ lv st h, ax_ls b o lv lvc → ax_vs b o st t2 → ax_R D b o h H → ax_ls b o (ax_nar m lv) lvc ∧ ax_vs b o (ax_nas m st) t2 ∧ ax_R D b o (ax_nah m h) H := by
    intro m z w hz hm lv st h a1 a2 a3
    unfold ax_nar ax_nas ax_nah
    cases hb : Nat.blt m.toNat 1000 with
    | true => exact ⟨a1, a2, a3⟩
    | false =>
      have h1 : 1000 ≤ m.toNat := by
        rcases Nat.lt_or_ge m.toNat 1000 with q | q
        · have : Nat.blt m.toNat 1000 = true := Nat.ble_eq_true_of_le q
          rw [this] at hb; cases hb
        · exact q
      have h2 := ax_may_ok hz hm h1
      exact ⟨ax_rel_ok h1 h2 a1, ax_res_ok h1 h2 a2, ax_reh_ok h1 h2 a3⟩
  cases hc : f i j with
  | true =>
    obtain ⟨q1, q2⟩ := ht i j hi hj hc
    obtain ⟨a1, a2, a3⟩ := go m1 x i hv2 q1 lv st h g2 hs2 g4
    obtain ⟨b1, b2, b3⟩ := go m2 y j hv1 q2 _ _ _ a1 a2 a3
    exact step i j _ _ _ (by rw [hc]; exact K1 ⟨i, j, hi, hj, hc⟩) D b o TC TS p e R s m args below meth c Z hX hP hXX _ _ _ _ _ _ _ ⟨g1, b1, ⟨_, _, rfl, rfl, _, _, rfl, rfl, b2⟩, b3, g5, g6, g7⟩
  | false =>
    obtain ⟨q1, q2⟩ := hf i j hi hj hc
    obtain ⟨a1, a2, a3⟩ := go m3 x i hv2 q1 lv st h g2 hs2 g4
    obtain ⟨b1, b2, b3⟩ := go m4 y j hv1 q2 _ _ _ a1 a2 a3
    exact step i j _ _ _ (by rw [hc]; exact K2 ⟨i, j, hi, hj, hc⟩) D b o TC TS p e R s m args below meth c Z hX hP hXX _ _ _ _ _ _ _ ⟨g1, b1, ⟨_, _, rfl, rfl, _, _, rfl, rfl, b2⟩, b3, g5, g6, g7⟩
end AXN2
