/-! A CONTRACT WITH NAMES serves for any ints in their place (an int, or one of the caller's names) -/
def ax_su (n : UInt32) (x y : Value) : Value := match y with
  | .float m => if Nat.beq (m.toNat / 1000) (n.toNat / 1000) then x else .float m
  | y => y
def ax_suh (n : UInt32) (x : Value) (h : ax_H) : ax_H := h.map (fun q => (q.1, q.2.map (ax_su n x)))
def ax_sur (n : UInt32) (x : Value) (res : Option Value ⊕ String) : Option Value ⊕ String := match res with
  | .inl (some v) => .inl (some (ax_su n x v))
  | res => res
/-- one int alone -/
def ax_sg1 (x : Value) : Bool := match x with
  | .int _ => true
  | .float m => Nat.ble 1000 m.toNat
  | _ => false
def ax_isn (n : UInt32) (y : Value) : Bool := match y with
  | .float m => decide (m = n)
  | _ => false
def ax_iv (o : Nat → Nat) (x : Value) : Int32 := match x with
  | .int j => j
  | .float m => Int32.ofNat (o (ax_bs m))
  | _ => 0
section AXSU
variable {b : Nat} {o : Nat → Nat} {n : UInt32} {x : Value} {D : va_G}
theorem ax_iv_ok (hx : ax_sg1 x = true) {v : Value} (h : ax_v b o x v) : v = .int (ax_iv o x) ∧ ax_vi x (ax_iv o x) := by
  cases x with
  | int j => exact ⟨h, rfl⟩
  | float m =>
    obtain ⟨i, h1, h2, h3⟩ := h
    have h4 := h3 (Nat.le_of_ble_eq_true hx)
    subst h4
    exact ⟨h1, h2⟩
  | _ => cases hx
theorem ax_so_nob {i : Int32} {y v : Value} (hn : 1000 ≤ n.toNat) (hy : ∀ m, y = .float m → Nat.beq (m.toNat / 1000) (n.toNat / 1000) = false) : ax_v b (ax_so n i o) y v ↔ ax_v b o y v := by
  cases y with
  | ref a => simp only [ax_v, ax_so_ad hn]
  | float m =>
    have hne : ax_bs m ≠ ax_bs n := by
      have := Nat.ne_of_beq_eq_false (hy m rfl)
      unfold ax_bs
      omega
    simp only [ax_v, ax_nm, ax_so_ne hne]
  | retAddr g => simp only [ax_v, ax_so_ga]
  | int j => exact Iff.rfl
  | long j => exact Iff.rfl
  | double j => exact Iff.rfl
  | null => exact Iff.rfl
theorem ax_su_to (hn : 1000 ≤ n.toNat) (hx : ax_sg1 x = true) (hr : ∀ i, ax_vi x i → ax_md n i) {y v : Value} (hy : ax_on n y = true) (h : ax_v b o (ax_su n x y) v) : ax_v b (ax_so n (ax_iv o x) o) y v := by
  cases y with
  | float m =>
    simp only [ax_su] at h
    cases hm : Nat.beq (m.toNat / 1000) (n.toNat / 1000) with
    | true =>
      rw [hm] at h
      simp only [ax_on, hm, Bool.not_true, Bool.false_or, decide_eq_true_eq] at hy
      subst hy
      obtain ⟨h1, h2⟩ := ax_iv_ok hx (show ax_v b o x v from h)
      exact ⟨_, h1, hr _ h2, fun _ => by rw [show ax_so m (ax_iv o x) o (ax_bs m) = (ax_iv o x).toBitVec.toNat from by simp [ax_so]]; exact ax_ofN _⟩
    | false =>
      rw [hm] at h
      exact (ax_so_nob hn (fun m2 e => by cases e; exact hm)).mpr h
  | _ => exact (ax_so_nob hn (fun m2 e => by cases e)).mpr h
theorem ax_su_of (hn : 1000 ≤ n.toNat) (hi : ax_v b o x (.int (ax_iv o x))) {y v : Value} (h : ax_v b (ax_so n (ax_iv o x) o) y v) : ax_v b o (ax_su n x y) v := by
  cases y with
  | float m =>
    simp only [ax_su]
    cases hm : Nat.beq (m.toNat / 1000) (n.toNat / 1000) with
    | true =>
      obtain ⟨j, h1, h2, h3⟩ := h
      have e : m.toNat / 1000 = n.toNat / 1000 := Nat.eq_of_beq_eq_true hm
      have h4 := h3 (by omega)
      rw [show ax_so n (ax_iv o x) o (ax_bs m) = (ax_iv o x).toBitVec.toNat from by simp [ax_so, ax_bs, e], ← ax_ofN] at h4
      subst h4
      rw [h1]
      exact hi
    | false => exact (ax_so_nob hn (fun m2 e => by cases e; exact hm)).mp h
  | _ => exact (ax_so_nob hn (fun m2 e => by cases e)).mp h
theorem ax_su_vs (hn : 1000 ≤ n.toNat) (hx : ax_sg1 x = true) (hr : ∀ i, ax_vi x i → ax_md n i) : ∀ {ys vs : List Value}, ys.all (ax_on n) = true → ax_vs b o (ys.map (ax_su n x)) vs → ax_vs b (ax_so n (ax_iv o x) o) ys vs
  | [], vs, _, h => h
  | y :: ys, vs, hy, ⟨v, t, h1, h2, h3⟩ => by
    simp only [List.all_cons, Bool.and_eq_true] at hy
    exact ⟨v, t, h1, ax_su_to hn hx hr hy.1 h2, ax_su_vs hn hx hr hy.2 h3⟩
theorem ax_su_R (hn : 1000 ≤ n.toNat) (hx : ax_sg1 x = true) (hr : ∀ i, ax_vi x i → ax_md n i) {h : ax_H} {H : Heap} (hh : ax_onh n h = true) (hR : ax_R D b o (ax_suh n x h) H) : ax_R D b (ax_so n (ax_iv o x) o) h H := by
  obtain ⟨h1, h2, h9⟩ := hR
  have hl : (ax_suh n x h).length = h.length := List.length_map _
  rw [hl] at h1 h9
  refine ⟨by rw [ax_so_G]; exact h1, fun k q hq => ?_, ax_so_W.mpr h9⟩
  rw [ax_so_of]
  obtain ⟨cell, a1, a2⟩ := h2 k (q.1, q.2.map (ax_su n x)) (by unfold ax_suh; rw [List.getElem?_map, hq]; rfl)
  refine ⟨cell, a1, ?_⟩
  rcases a2 with a2 | ⟨c1, c2, c3, c4⟩
  · exact Or.inl a2
  · refine Or.inr ⟨c1, c2, fun h => by rw [c3 h, List.length_map], fun j y hj => ?_⟩
    obtain ⟨v, e1, e2⟩ := c4 j (ax_su n x y) (by show (q.2.map _)[j]? = _; rw [List.getElem?_map, hj]; rfl)
    exact ⟨v, e1, ax_su_to hn hx hr (List.all_eq_true.mp (List.all_eq_true.mp hh q (List.mem_of_getElem? hq)) y (List.mem_of_getElem? hj)) e2⟩
theorem ax_su_Rof (hn : 1000 ≤ n.toNat) (hi : ax_v b o x (.int (ax_iv o x))) {h : ax_H} {H : Heap} (hR : ax_R D b (ax_so n (ax_iv o x) o) h H) : ax_R D b o (ax_suh n x h) H := by
  obtain ⟨h1, h2, h9⟩ := hR
  have hl : (ax_suh n x h).length = h.length := List.length_map _
  rw [ax_so_G] at h1
  refine ⟨by rw [hl]; exact h1, fun k q hq => ?_, by rw [hl]; exact ax_so_W.mp h9⟩
  unfold ax_suh at hq
  rw [List.getElem?_map] at hq
  cases he : h[k]? with
  | none => rw [he] at hq; cases hq
  | some y =>
    rw [he] at hq
    cases hq
    obtain ⟨cell, a1, a2⟩ := h2 k y he
    rw [ax_so_of] at a1
    refine ⟨cell, a1, ?_⟩
    rcases a2 with a2 | ⟨c1, c2, c3, c4⟩
    · exact Or.inl a2
    · refine Or.inr ⟨c1, c2, fun h => by rw [List.length_map]; exact c3 h, fun j z hj => ?_⟩
      have hj2 : (y.2.map (ax_su n x))[j]? = some z := hj
      rw [List.getElem?_map] at hj2
      cases hz : y.2[j]? with
      | none => rw [hz] at hj2; cases hj2
      | some u =>
        rw [hz] at hj2
        cases hj2
        obtain ⟨v, e1, e2⟩ := c4 j u hz
        exact ⟨v, e1, ax_su_of hn hi e2⟩
theorem ax_su_in {ys vs : List Value} (ha : ys.any (ax_isn n) = true) (h : ax_vs b o (ys.map (ax_su n x)) vs) : ∃ v, ax_v b o x v := by
  induction ys generalizing vs with
  | nil => cases ha
  | cons y ys ih =>
    obtain ⟨v, t, h1, h2, h3⟩ := h
    simp only [List.any_cons, Bool.or_eq_true] at ha
    rcases ha with ha | ha
    · cases y with
      | float m =>
        have e : m = n := of_decide_eq_true ha
        subst e
        refine ⟨v, ?_⟩
        have : ax_su m x (.float m) = x := by simp [ax_su]
        rw [this] at h2
        exact h2
      | _ => cases ha
    · exact ih ha h3
theorem ax_su_inh {h : ax_H} {H : Heap} (ha : h.any (fun q => !(Nat.beq q.1 99) && q.2.any (ax_isn n)) = true) (hR : ax_R D b o (ax_suh n x h) H) : ∃ v, ax_v b o x v := by
  simp only [List.any_eq_true, Bool.and_eq_true, Bool.not_eq_true'] at ha
  obtain ⟨q, h1, h0, y, h2, h3⟩ := ha
  obtain ⟨k, hk, hkq⟩ := List.mem_iff_getElem.mp h1
  obtain ⟨j, hj, hjy⟩ := List.mem_iff_getElem.mp h2
  obtain ⟨cell, a1, a2⟩ := hR.2.1 k (q.1, q.2.map (ax_su n x)) (by unfold ax_suh; rw [List.getElem?_map, List.getElem?_eq_getElem hk, hkq]; rfl)
  rcases a2 with a2 | ⟨c1, c2, c3, c4⟩
  · have e : q.1 = 99 := a2
    rw [e] at h0
    cases h0
  · cases y with
    | float m =>
      have e : m = n := of_decide_eq_true h3
      subst e
      have h4 : ax_su m x (.float m) = x := by simp [ax_su]
      obtain ⟨v, e1, e2⟩ := c4 j x (by show (q.2.map _)[j]? = _; rw [List.getElem?_map, List.getElem?_eq_getElem hj, hjy]; simp [h4])
      exact ⟨v, e2⟩
    | _ => cases h3
end AXSU
section AXSM
variable {ns : ax_NS} {l : Launch} {k : ax_M} {d : Nat} {r : ax_H} {mc ms : Nat} {as : List Value} {h : ax_H} {Q : ax_Q}
theorem ax_so_T {n : UInt32} {i : Int32} {D : va_G} {b : Nat} {o : Nat → Nat} {U : State} (hn : 1000 ≤ n.toNat) (hr : ∀ q ∈ r, ∀ y ∈ q.2, ∀ m, y = .float m → Nat.beq (m.toNat / 1000) (n.toNat / 1000) = false) (h : ax_T ns r D b o U) : ax_T ns r D b (ax_so n i o) U := by
  obtain ⟨h1, h2, h3, h4, h5, h6, h7, h8, h10, h9⟩ := h
  refine ⟨h1, h2, h3, h4, h5, h6, fun q hq => ?_, fun k q hq => ?_, h10, h9⟩
  · obtain ⟨v, hv, hZ⟩ := h7 q hq
    refine ⟨v, ?_, hZ⟩
    have hnf : ∀ q ∈ ax_stat, ∀ m, q.2.2.2 ≠ .float m := by
      intro q hq m
      simp only [ax_stat, List.mem_cons, List.not_mem_nil, or_false] at hq
      rcases hq with rfl | rfl <;> exact fun e => by cases e
    exact (ax_so_nob hn (fun m e => absurd e (hnf q hq m))).mpr hv
  · obtain ⟨a1, t, ty, cell, a2, a3, a4, a5, a6, a7, a8, a9⟩ := h8 k q hq
    have hk : ax_so n i o k = o k := ax_so_ne (by unfold ax_bs; omega)
    refine ⟨by rw [hk]; exact a1, t, ty, cell, a2, a3, by rw [hk]; exact a4, a5, a6, a7, a8, fun j x hx => ?_⟩
    obtain ⟨v, b1, b2⟩ := a9 j x hx
    exact ⟨v, b1, (ax_so_nob hn (hr q (List.mem_of_getElem? hq) x (List.mem_of_getElem? hx))).mpr b2⟩
theorem AM.inst {n : UInt32} {x : Value} (hn : 1000 ≤ n.toNat) (hx : ax_sg1 x = true) (hrg : ∀ i, ax_vi x i → ax_md n i) (has : as.all (ax_on n) = true) (hh : ax_onh n h = true) (hr : ax_nn r = true) (hin : (as.any (ax_isn n) || h.any (fun q => !(Nat.beq q.1 99) && q.2.any (ax_isn n))) = true)
    (K : AM ns l k d r mc ms as h Q) : AM ns l k d r mc ms (as.map (ax_su n x)) (ax_suh n x h) (fun res2 h2 => ∃ res h', Q res h' ∧ res2 = ax_sur n x res ∧ h2 = ax_suh n x h') := by
  intro D b o
  have hrn : ∀ q ∈ r, ∀ y ∈ q.2, ∀ m, y = .float m → Nat.beq (m.toNat / 1000) (n.toNat / 1000) = false := fun q hq y hy m e => by
    have h1 := List.all_eq_true.mp (List.all_eq_true.mp hr q hq) y hy
    rw [e] at h1
    have h2 : m.toNat + 1 ≤ 1000 := Nat.le_of_ble_eq_true h1
    cases hb : Nat.beq (m.toNat / 1000) (n.toNat / 1000) with
    | false => rfl
    | true => have := Nat.eq_of_beq_eq_true hb; omega
  have hocc : ∀ (ac : List Value) (H : Heap), ax_vs b o (as.map (ax_su n x)) ac → ax_R D b o (ax_suh n x h) H → ax_v b o x (.int (ax_iv o x)) := fun ac H e2 e3 => by
    simp only [Bool.or_eq_true] at hin
    rcases hin with h1 | h1
    · obtain ⟨v, hv⟩ := ax_su_in h1 e2
      rw [(ax_iv_ok hx hv).1] at hv
      exact hv
    · obtain ⟨v, hv⟩ := ax_su_inh h1 e3
      rw [(ax_iv_ok hx hv).1] at hv
      exact hv
  refine MetFree.mono (K D b (ax_so n (ax_iv o x) o)) (fun a U hp => ?_) (fun _ _ _ _ _ h9 => h9) (fun a s oc t hp hq => ?_)
  · obtain ⟨ac, e1, e2, e3, e4, e5⟩ := hp
    exact ⟨ac, e1, ax_su_vs hn hx hrg has e2, ax_su_R hn hx hrg hh e3, ax_so_T hn hrn e4, e5⟩
  · obtain ⟨ac, e1, e2, e3, e4, e5⟩ := hp
    have hi := hocc ac _ e2 e3
    rw [ax_so_RG] at hq
    rcases hq with ⟨⟨v, vc, h', hvc, hov, hq, hR, hF1⟩, L, hL1, hL2⟩ | ⟨q, ho, E, ce, L, ⟨h', hq, hR, hF1⟩, c2⟩
    · rw [ax_so_RG] at hF1
      refine Or.inl ⟨⟨v.map (ax_su n x), vc, ax_suh n x h', hvc, ?_, ⟨_, h', hq, ?_, rfl⟩, ax_su_Rof hn hi hR, hF1⟩, L, hL1, hL2⟩
      · cases v with
        | none => exact hov
        | some y =>
          obtain ⟨w, a1, a2⟩ := hov
          exact ⟨w, a1, ax_su_of hn hi a2⟩
      · cases v <;> rfl
    · rw [ax_so_RG] at hF1
      exact Or.inr ⟨q, ho, E, ce, L, ⟨ax_suh n x h', ⟨_, h', hq, rfl, rfl⟩, ax_su_Rof hn hi hR, hF1⟩, c2⟩
end AXSM
