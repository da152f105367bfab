/-! NAMES: what holds of a named int holds of each -/
def ax_sb (n : UInt32) (i : Int32) (x : Value) : Value := match x with
  | .float m => if m = n then .int i else .float m
  | x => x
def ax_sbl (n : UInt32) (i : Int32) (lv : List (Nat × Value)) : List (Nat × Value) := lv.map (fun q => (q.1, ax_sb n i q.2))
def ax_sbs (n : UInt32) (i : Int32) (st : List Value) : List Value := st.map (ax_sb n i)
def ax_sbh (n : UInt32) (i : Int32) (h : ax_H) : ax_H := h.map (fun q => (q.1, q.2.map (ax_sb n i)))
def ax_so (n : UInt32) (i : Int32) (o : Nat → Nat) : Nat → Nat := fun k => if k = n.toNat then i.toBitVec.toNat else o k
theorem ax_ofN (i : Int32) : i = Int32.ofNat i.toBitVec.toNat := by
  apply Int32.toBitVec.inj
  simp
section AXN
variable {n : UInt32} {i : Int32} {D : va_G} {b : Nat} {o : Nat → Nat}
theorem ax_so_ne {k : Nat} (h : k ≠ n.toNat) : ax_so n i o k = o k := by simp [ax_so, h]
theorem ax_so_ad (hn : 1000 ≤ n.toNat) (a : Nat) : ax_ad b (ax_so n i o) a = ax_ad b o a := by
  unfold ax_ad
  split
  · rfl
  · exact ax_so_ne (by omega)
theorem ax_sb_iff (hn : 1000 ≤ n.toNat) (hi : ax_md n i) {x v : Value} : ax_v b o (ax_sb n i x) v ↔ ax_v b (ax_so n i o) x v := by
  cases x with
  | ref a => simp only [ax_sb, ax_v, ax_so_ad hn]
  | float m =>
    by_cases hm : m = n
    · subst hm
      simp only [ax_sb, if_true, ax_v]
      constructor
      · intro h
        exact ⟨i, h, hi, fun _ => by rw [show ax_so m i o m.toNat = i.toBitVec.toNat from by simp [ax_so]]; exact ax_ofN i⟩
      · rintro ⟨j, h1, h2, h3⟩
        have h4 := h3 hn
        rw [show ax_so m i o m.toNat = i.toBitVec.toNat from by simp [ax_so], ← ax_ofN] at h4
        subst h4
        exact h1
    · have hne : m.toNat ≠ n.toNat := fun e => hm (UInt32.toNat_inj.mp e)
      simp only [ax_sb, if_neg hm, ax_v, ax_nm, ax_so_ne hne]
  | int j => simp only [ax_sb, ax_v]
  | long j => simp only [ax_sb, ax_v]
  | double j => simp only [ax_sb, ax_v]
  | retAddr a => simp only [ax_sb, ax_v]
  | null => simp only [ax_sb, ax_v]
theorem ax_sbs_iff (hn : 1000 ≤ n.toNat) (hi : ax_md n i) : ∀ {xs vs : List Value}, ax_vs b o (ax_sbs n i xs) vs ↔ ax_vs b (ax_so n i o) xs vs
  | [], vs => Iff.rfl
  | x :: xs, vs => by
    show (∃ v t, vs = v :: t ∧ ax_v b o (ax_sb n i x) v ∧ ax_vs b o (ax_sbs n i xs) t) ↔ (∃ v t, vs = v :: t ∧ ax_v b (ax_so n i o) x v ∧ ax_vs b (ax_so n i o) xs t)
    simp only [ax_sb_iff hn hi, ax_sbs_iff hn hi]
theorem ax_sbl_iff (hn : 1000 ≤ n.toNat) (hi : ax_md n i) : ∀ {xs vs : List (Nat × Value)}, ax_ls b o (ax_sbl n i xs) vs ↔ ax_ls b (ax_so n i o) xs vs
  | [], vs => Iff.rfl
  | x :: xs, vs => by
    show (∃ v t, vs = (x.1, v) :: t ∧ ax_v b o (ax_sb n i x.2) v ∧ ax_ls b o (ax_sbl n i xs) t) ↔ (∃ v t, vs = (x.1, v) :: t ∧ ax_v b (ax_so n i o) x.2 v ∧ ax_ls b (ax_so n i o) xs t)
    simp only [ax_sb_iff hn hi, ax_sbl_iff hn hi]
theorem ax_sb_get (hn : 1000 ≤ n.toNat) (hi : ax_md n i) {xs : List Value} {p : Nat → Value → Prop} : (∀ k x, (xs.map (ax_sb n i))[k]? = some x → ∃ v, p k v ∧ ax_v b o x v) ↔ (∀ k x, xs[k]? = some x → ∃ v, p k v ∧ ax_v b (ax_so n i o) x v) := by
  constructor
  · intro h k x hx
    obtain ⟨v, h1, h2⟩ := h k (ax_sb n i x) (by rw [List.getElem?_map, hx]; rfl)
    exact ⟨v, h1, (ax_sb_iff hn hi).mp h2⟩
  · intro h k x hx
    rw [List.getElem?_map] at hx
    cases he : xs[k]? with
    | none => rw [he] at hx; cases hx
    | some y =>
      rw [he] at hx
      cases hx
      obtain ⟨v, h1, h2⟩ := h k y he
      exact ⟨v, h1, (ax_sb_iff hn hi).mpr h2⟩
theorem ax_sb_c (hn : 1000 ≤ n.toNat) (hi : ax_md n i) {q : Nat × List Value} {cell : Cell} : ax_c D b o (q.1, q.2.map (ax_sb n i)) cell ↔ ax_c D b (ax_so n i o) q cell := by
  unfold ax_c
  simp only [List.length_map]
  rw [ax_sb_get (p := fun k v => cell.slots[D.2 q.1 k]? = some v) hn hi]
theorem ax_sbh_iff (hn : 1000 ≤ n.toNat) (hi : ax_md n i) {h : ax_H} {H : Heap} : ax_R D b o (ax_sbh n i h) H ↔ ax_R D b (ax_so n i o) h H := by
  unfold ax_R
  rw [show (ax_sbh n i h).length = h.length from List.length_map _]
  constructor
  · rintro ⟨h1, h2⟩
    refine ⟨h1, fun k q hq => ?_⟩
    obtain ⟨cell, a1, a2⟩ := h2 k (q.1, q.2.map (ax_sb n i)) (by unfold ax_sbh; rw [List.getElem?_map, hq]; rfl)
    exact ⟨cell, a1, (ax_sb_c hn hi).mp a2⟩
  · rintro ⟨h1, h2⟩
    refine ⟨h1, fun k q hq => ?_⟩
    unfold ax_sbh at hq
    rw [List.getElem?_map] at hq
    cases he : h[k]? with
    | none => rw [he] at hq; cases hq
    | some y =>
      rw [he] at hq
      cases hq
      obtain ⟨cell, a1, a2⟩ := h2 k y he
      exact ⟨cell, a1, (ax_sb_c hn hi).mpr a2⟩
theorem ax_sbO (hn : 1000 ≤ n.toNat) (hi : ax_md n i) {s : State} {r : ax_H} {H : Heap} (h : ax_O s b o (ax_sbh n i r) H) : ax_O s b (ax_so n i o) r H := by
  intro k q hq
  obtain ⟨a1, t, ty, cell, a2, a3, a4, a5, a6, a7, a8, a9⟩ := h k (q.1, q.2.map (ax_sb n i)) (by unfold ax_sbh; rw [List.getElem?_map, hq]; rfl)
  have hk : ax_so n i o k = o k := ax_so_ne (by omega)
  simp only [List.length_map] at a7 a8
  refine ⟨by rw [hk]; exact a1, t, ty, cell, a2, a3, by rw [hk]; exact a4, a5, a6, a7, a8, ?_⟩
  exact (ax_sb_get (p := fun k v => cell.slots[k]? = some v) hn hi).mp a9
theorem ax_sbT (hn : 1000 ≤ n.toNat) (hi : ax_md n i) {ns : ax_NS} {r : ax_H} {U : State} (h : ax_T ns (ax_sbh n i r) D b o U) : ax_T ns r D b (ax_so n i o) U := by
  obtain ⟨h1, h2, h3, h4, h5, h6, h7, h8, h10, h9⟩ := h
  refine ⟨h1, h2, h3, h4, h5, h6, fun q hq => ?_, ax_sbO hn hi h8, h10, h9⟩
  obtain ⟨v, hv, hZ⟩ := h7 q hq
  refine ⟨v, ?_, hZ⟩
  simp only [ax_stat, List.mem_cons, List.not_mem_nil, or_false] at hq
  rcases hq with rfl | rfl
  · exact (ax_sb_iff (x := .ref 1000000000) hn hi).mp hv
  · exact hv
end AXN
section AXN2
variable {ns : ax_NS} {l : Launch} {k : ax_M} {d : Nat} {r : ax_H} {P : ax_P} {X : ax_PX} {pc : Nat} {lv : List (Nat × Value)} {st : List Value} {h : ax_H} {bc bs : Nat}
theorem AR.name {n : UInt32} {i : Int32} (hn : 1000 ≤ n.toNat) (hi : ax_md n i)
    (K : AR ns l k d r (fun pc lv st h bc bs => P pc (ax_sbl n i lv) (ax_sbs n i st) (ax_sbh n i h) bc bs) (fun pc lv E h bc bs => X pc (ax_sbl n i lv) E (ax_sbh n i h) bc bs) pc lv st h bc bs) :
    AR ns l k d (ax_sbh n i r) P X pc (ax_sbl n i lv) (ax_sbs n i st) (ax_sbh n i h) bc bs := by
  intro D b o TC TS p e R s m args below meth c Z hX hP hXX lvc ls stc H locs cells slots hG
  obtain ⟨x1, x2, x3, x4, x5, x6, x7⟩ := hX
  obtain ⟨g1, g2, g3, g4, g5, g6, g7⟩ := hG
  refine K D b (ax_so n i o) TC TS p e R s m args below meth c Z ⟨x1, x2, x3, x4, x5, ax_sbT hn hi x6, x7⟩ ?_ ?_ lvc ls stc H locs cells slots ⟨g1, (ax_sbl_iff hn hi).mp g2, (ax_sbs_iff hn hi).mp g3, (ax_sbh_iff hn hi).mp g4, g5, g6, g7⟩
  · intro pc lv st h bc bs hp lvc ls stc H locs cells slots hG
    obtain ⟨g1, g2, g3, g4, g5, g6, g7⟩ := hG
    exact hP _ _ _ _ _ _ hp lvc ls stc H locs cells slots ⟨g1, (ax_sbl_iff hn hi).mpr g2, (ax_sbs_iff hn hi).mpr g3, (ax_sbh_iff hn hi).mpr g4, g5, g6, g7⟩
  · intro pc lv E h bc bs hp lvc ls stc H locs cells slots q ce hG
    obtain ⟨g1, g2, g3, g4, g5, g6, g7⟩ := hG
    exact hXX _ _ _ _ _ _ hp lvc ls stc H locs cells slots q ce ⟨g1, (ax_sbl_iff hn hi).mpr g2, (ax_sbs_iff (xs := []) hn hi).mpr g3, (ax_sbh_iff hn hi).mpr g4, g5, g6, g7⟩
end AXN2
