/-! A NAME FOR AN INT OF A CELL -/
def ax_nob (n : UInt32) (x : Value) : Bool := match x with
  | .float m => !(Nat.beq (m.toNat / 1000) (n.toNat / 1000))
  | _ => true
theorem ax_nob_ok {n : UInt32} {x : Value} (h : ax_nob n x = true) : ∀ m, x = .float m → Nat.beq (m.toNat / 1000) (n.toNat / 1000) = false := fun m e => by
  subst e
  simpa [ax_nob] using h
theorem ax_nvb_nob {n : UInt32} {B : Nat} {x : Value} (hn : B ≤ n.toNat / 1000) (h : ax_nvb B x = true) : ax_nob n x = true := by
  cases x with
  | float m =>
    have h2 : m.toNat / 1000 + 1 ≤ B := Nat.le_of_ble_eq_true h
    simp only [ax_nob, Bool.not_eq_true']
    cases he : Nat.beq (m.toNat / 1000) (n.toNat / 1000) with
    | true => have := Nat.eq_of_beq_eq_true he; omega
    | false => rfl
  | _ => rfl
theorem ax_nv_nob {n : UInt32} {x : Value} (hn : 1000 ≤ n.toNat) (h : ax_nv x = true) : ax_nob n x = true := by
  cases x with
  | float m =>
    have h2 : m.toNat + 1 ≤ 1000 := Nat.le_of_ble_eq_true h
    simp only [ax_nob, Bool.not_eq_true']
    cases he : Nat.beq (m.toNat / 1000) (n.toNat / 1000) with
    | true => have := Nat.eq_of_beq_eq_true he; omega
    | false => rfl
  | _ => rfl
section AXFR
variable {b : Nat} {o : Nat → Nat} {n : UInt32} {i : Int32} {D : va_G}
theorem ax_so_vs (hn : 1000 ≤ n.toNat) : ∀ {xs vs : List Value}, xs.all (ax_nob n) = true → (ax_vs b (ax_so n i o) xs vs ↔ ax_vs b o xs vs)
  | [], vs, _ => Iff.rfl
  | x :: xs, vs, hx => by
    simp only [List.all_cons, Bool.and_eq_true] at hx
    simp only [ax_vs, ax_so_nob hn (ax_nob_ok hx.1), ax_so_vs hn hx.2]
theorem ax_so_ls (hn : 1000 ≤ n.toNat) : ∀ {xs vs : List (Nat × Value)}, xs.all (fun q => ax_nob n q.2) = true → (ax_ls b (ax_so n i o) xs vs ↔ ax_ls b o xs vs)
  | [], vs, _ => Iff.rfl
  | x :: xs, vs, hx => by
    simp only [List.all_cons, Bool.and_eq_true] at hx
    simp only [ax_ls, ax_so_nob hn (ax_nob_ok hx.1), ax_so_ls hn hx.2]
theorem ax_so_c {q : Nat × List Value} {cell : Cell} (hn : 1000 ≤ n.toNat) (hq : q.2.all (ax_nob n) = true) : ax_c D b (ax_so n i o) q cell ↔ ax_c D b o q cell := by
  unfold ax_c
  constructor
  · rintro (h | ⟨h1, h2, h3, h4⟩)
    · exact Or.inl h
    · refine Or.inr ⟨h1, h2, h3, fun k x hx => ?_⟩
      obtain ⟨v, a1, a2⟩ := h4 k x hx
      exact ⟨v, a1, (ax_so_nob hn (ax_nob_ok (List.all_eq_true.mp hq x (List.mem_of_getElem? hx)))).mp a2⟩
  · rintro (h | ⟨h1, h2, h3, h4⟩)
    · exact Or.inl h
    · refine Or.inr ⟨h1, h2, h3, fun k x hx => ?_⟩
      obtain ⟨v, a1, a2⟩ := h4 k x hx
      exact ⟨v, a1, (ax_so_nob hn (ax_nob_ok (List.all_eq_true.mp hq x (List.mem_of_getElem? hx)))).mpr a2⟩
theorem ax_so_rest {h' : ax_H} {H : Heap} {w B : Nat} (hn : 1000 ≤ n.toNat) (hB : B ≤ n.toNat / 1000) (hw : w ≤ h'.length) (hnn : ax_nnb B (h'.take w) = true) (hR : ax_R D b (ax_so n i o) h' H) : ax_R D b o (ax_rest w h' 0) H := by
  obtain ⟨r1, r2, r3⟩ := hR
  rw [ax_so_G] at r1
  have r3 := ax_so_W.mp r3
  have hlen : (ax_rest w h' 0).length = h'.length := by
    unfold ax_rest
    rw [List.length_append, List.length_take, List.length_replicate]
    omega
  refine ⟨by rw [r1, hlen], fun k q hq => ?_, by rw [hlen]; exact r3⟩
  have hk : k < h'.length := by
    rw [← hlen]
    exact (List.getElem?_eq_some_iff.mp hq).1
  unfold ax_rest at hq
  rcases (by omega : k < w ∨ w ≤ k) with h1 | h1
  · rw [List.getElem?_append_left (by rw [List.length_take]; omega)] at hq
    have hq2 : h'[k]? = some q := by
      rw [List.getElem?_take, if_pos h1] at hq
      exact hq
    obtain ⟨cell, a1, a2⟩ := r2 k q hq2
    rw [ax_so_of] at a1
    exact ⟨cell, a1, (ax_so_c hn (List.all_eq_true.mpr (fun x hx => ax_nvb_nob hB (List.all_eq_true.mp (List.all_eq_true.mp hnn q (List.mem_of_getElem? hq)) x hx)))).mp a2⟩
  · rw [List.getElem?_append_right (by rw [List.length_take]; omega)] at hq
    have hq3 : q = (99, []) := List.eq_of_mem_replicate (List.mem_of_getElem? hq)
    have h4 := r3.2.2.2.1 k hk
    have h5 : b + ax_of o k < H.size := by omega
    exact ⟨H[b + ax_of o k], Array.getElem?_eq_getElem h5, Or.inl (by rw [hq3])⟩
end AXFR
section AXFS
variable {ns : ax_NS} {l : Launch} {k : ax_M} {d : Nat} {r : ax_H} {P : ax_P} {X : ax_PX} {pc : Nat} {lv : List (Nat × Value)} {st : List Value} {h : ax_H} {bc bs w B : Nat}
theorem AR.fresh {n g : UInt32} {a j t : Nat} {vs : List Value} (hn : 1000 ≤ n.toNat) (hB : B ≤ n.toNat / 1000) (hrg : ax_rg n = ax_rg g) (ha : h[a]? = some (t, vs)) (hj : vs[j]? = some (.float g)) (ht : t ≠ 99)
    (hlv : lv.all (fun q => ax_nob n q.2) = true) (hst : st.all (ax_nob n) = true) (hh : h.all (fun q => q.2.all (ax_nob n)) = true) (hr : ax_nn r = true) (hP : ax_clo w B P) (hX : ax_clx w B X)
    (K : AR ns l k d r P X pc lv st (h.set a (t, vs.set j (.float n))) bc bs) : AR ns l k d r P X pc lv st h bc bs := by
  intro D b o TC TS p e R s m args below meth c Z hX0 hPa hXa lvc ls stc H locs cells slots hG
  obtain ⟨x1, x2, x3, x4, x5, x6, x7⟩ := hX0
  obtain ⟨g1, g2, g3, g4, g5, g6, g7⟩ := hG
  have hrn : ∀ q ∈ r, ∀ y ∈ q.2, ∀ m, y = .float m → Nat.beq (m.toNat / 1000) (n.toNat / 1000) = false := fun q hq y hy => ax_nob_ok (ax_nv_nob hn (List.all_eq_true.mp (List.all_eq_true.mp hr q hq) y hy))
  obtain ⟨cell, a1, a2⟩ := g4.2.1 a _ ha
  rcases a2 with a2 | ⟨c1, c2, c3, c4⟩
  · exact absurd a2 ht
  obtain ⟨v, e1, i, rfl, hi, -⟩ := c4 j _ hj
  have hal : a < h.length := (List.getElem?_eq_some_iff.mp ha).1
  have hjl : j < vs.length := (List.getElem?_eq_some_iff.mp hj).1
  refine K D b (ax_so n i o) TC TS p e R s m args below meth c Z ⟨x1, x2, x3, x4, x5, ax_so_T hn hrn x6, x7⟩ ?_ ?_ lvc ls stc H locs cells slots ⟨g1, (ax_so_ls hn hlv).mpr g2, (ax_so_vs hn hst).mpr g3, ?_, by rw [ax_so_RG]; exact g5, g6, g7⟩
  · intro pc lv' st' h' bc' bs' hp lvc' ls' stc' H' locs' cells' slots' hG'
    obtain ⟨g1, g2, g3, g4, g5, g6, g7⟩ := hG'
    obtain ⟨z1, z2, z3, z4, z5, z6⟩ := hP _ _ _ _ _ _ hp
    rw [ax_so_RG] at g5
    exact hPa _ _ _ _ _ _ (z4 0) [] ls' stc' H' locs' cells' slots' ⟨⟨g1.1, g1.2.1, fun q hq => absurd hq List.not_mem_nil⟩, rfl, (ax_so_vs hn (List.all_eq_true.mpr (fun x hx => ax_nvb_nob hB (List.all_eq_true.mp z6 x hx)))).mp g3, ax_so_rest hn hB z1 z5 g4, g5, g6, g7⟩
  · intro pc lv' E h' bc' bs' hp lvc' ls' stc' H' locs' cells' slots' q ce hG'
    obtain ⟨g1, g2, g3, g4, g5, g6, g7⟩ := hG'
    obtain ⟨z1, z2, z4, z5⟩ := hX _ _ _ _ _ _ hp
    rw [ax_so_RG] at g5
    exact hXa _ _ _ _ _ _ (z4 0) [] ls' stc' H' locs' cells' slots' q ce ⟨⟨g1.1, g1.2.1, fun q hq => absurd hq List.not_mem_nil⟩, rfl, rfl, ax_so_rest hn hB z1 z5 g4, g5, g6, g7⟩
  · obtain ⟨r1, r2, r3⟩ := g4
    refine ⟨by rw [ax_so_G, List.length_set]; exact r1, fun k' q hq => ?_, by rw [List.length_set]; exact ax_so_W.mpr r3⟩
    rw [ax_so_of]
    by_cases hka : k' = a
    · subst hka
      rw [List.getElem?_set_self hal] at hq
      cases hq
      refine ⟨cell, a1, Or.inr ⟨c1, c2, fun h9 => by rw [c3 h9]; exact (List.length_set ..).symm, fun y x hx => ?_⟩⟩
      have hx2 : (vs.set j (.float n))[y]? = some x := hx
      by_cases hyj : y = j
      · subst hyj
        rw [List.getElem?_set_self hjl] at hx2
        cases hx2
        exact ⟨.int i, e1, i, rfl, by unfold ax_md; rw [hrg]; exact hi, fun _ => by rw [show ax_so n i o (ax_bs n) = i.toBitVec.toNat from by simp [ax_so]]; exact ax_ofN i⟩
      · rw [List.getElem?_set_ne (Ne.symm hyj)] at hx2
        obtain ⟨v, f1, f2⟩ := c4 y x hx2
        exact ⟨v, f1, (ax_so_nob hn (ax_nob_ok (List.all_eq_true.mp (List.all_eq_true.mp hh _ (List.mem_of_getElem? ha)) x (List.mem_of_getElem? hx2)))).mpr f2⟩
    · rw [List.getElem?_set_ne (Ne.symm hka)] at hq
      obtain ⟨cell2, f1, f2⟩ := r2 k' q hq
      exact ⟨cell2, f1, (ax_so_c hn (List.all_eq_true.mp hh q (List.mem_of_getElem? hq))).mpr f2⟩
end AXFS
