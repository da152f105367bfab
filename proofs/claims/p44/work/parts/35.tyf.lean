/-! THE TYPED MACHINE, 4: stores, new cells, and what stays as it was -/
theorem ty_fd_set {h : ax_H} {q : Nat} {c : Nat × List Value} (hq : q < h.length) (q' j : Nat) : ty_fd (h.set q c) q' j = if q' = q then c.2[j]? else ty_fd h q' j := by
  unfold ty_fd
  by_cases e : q' = q
  · subst e
    rw [if_pos rfl, List.getElem?_set_self hq]
    rfl
  · rw [if_neg e, List.getElem?_set_ne (Ne.symm e)]
theorem ty_pv_eq {K : Int} {h h' : ax_H} {j : Nat} (h1 : ty_fd h' 181 8 = ty_fd h 181 8) (h2 : ty_fd h' 181 9 = ty_fd h 181 9) (h3 : ty_fd h' 181 14 = ty_fd h 181 14) (h4 : ∀ f, ty_fd h' 185 f = ty_fd h 185 f) : ty_pv K h' j = ty_pv K h j := by
  unfold ty_pv
  rw [h1, h2, h3]
  simp only [h4]
theorem ty_ps_eq {K : Int} {ρ : Nat → Int} {N : Nat} {h h' : ax_H} {j : Nat} {t : ty_V} (he : ty_pv K h' j = ty_pv K h j) (hr : ty_ps K ρ N h j t) : ty_ps K ρ N h' j t := by
  unfold ty_ps at hr ⊢
  rw [he]
  exact hr
theorem ty_gm_lt {g a : Nat} (h : ax_gm g a = true) : a < 198 := by
  unfold ax_gm at h
  simp only [List.any_eq_true, Bool.and_eq_true] at h
  obtain ⟨q, h1, h2, h3, h4⟩ := h
  have h2 := Nat.le_of_ble_eq_true h2
  have h3 := Nat.eq_of_beq_eq_true h3
  have h4 : (a - q.1) / q.2.1 < q.2.2 := Nat.le_of_ble_eq_true h4
  have key : ∀ r ∈ ax_grs.getD g [], ∀ i, i < r.2.2 → r.1 + i * r.2.1 < 198 ∧ 0 < r.2.1 := by
    rcases (by omega : g = 0 ∨ g = 1 ∨ g = 2 ∨ g = 3 ∨ g = 4 ∨ g = 5 ∨ 6 ≤ g) with rfl | rfl | rfl | rfl | rfl | rfl | hg
    · decide +kernel
    · decide +kernel
    · decide +kernel
    · decide +kernel
    · decide +kernel
    · decide +kernel
    · have : ax_grs.getD g [] = [] := by
        rw [List.getD_eq_getElem?_getD, List.getElem?_eq_none (by show 6 ≤ g; exact hg)]
        rfl
      rw [this]
      intro r hr
      cases hr
  obtain ⟨k1, k2⟩ := key q h1 _ h4
  have := Nat.div_add_mod (a - q.1) q.2.1
  rw [Nat.mul_comm] at this
  omega
theorem ty_Lo_refl (h : ax_H) : ty_Lo h h := fun _ c _ _ h1 h2 => ⟨c, h1, h2⟩
theorem ty_Lo.trans {h h' h'' : ax_H} (a : ty_Lo h h') (b : ty_Lo h' h'') : ty_Lo h h'' := fun k c t h1 h2 h3 => by
  obtain ⟨c', e1, e2⟩ := a k c t h1 h2 h3
  exact b k c' t h1 e1 e2
theorem ty_Lo_set {h : ax_H} {q : Nat} {c : Nat × List Value} (hq : q < 198) : ty_Lo h (h.set q c) := fun k c' t h1 h2 h3 => ⟨c', by rw [List.getElem?_set_ne (by omega)]; exact h2, h3⟩
theorem ty_Lo_push {h gs : ax_H} : ty_Lo h (h ++ gs) := fun k c t _ h2 h3 => ⟨c, by rw [List.getElem?_append_left (List.getElem?_eq_some_iff.mp h2).1]; exact h2, h3⟩
/-- the heap behind a store -/
theorem ty_H.set {K : Int} {ρ : Nat → Int} {N : Nat} {ov ov' : ty_O} {h : ax_H} {q i tag : Nat} {x : Value} {vs : List Value} (hH : ty_H K ρ N ov h) (hq : q < 198) (hg : h[q]? = some (tag, vs))
    (hlk : ∀ q' j', q' < 198 → (q' ≠ q ∨ j' ≠ i) → (ty_tl (ty_lk ov' q' j') (ty_lk ov q' j') = true ∨ ty_lk ov' q' j' = ty_lk ov q' j' ∨ (ty_mb q' = true ∧ ty_lk ov' q' j' = ty_tt q' j')))
    (hx : ty_r ρ N h (ty_lk ov' q i) x) (hm : ty_mb q = true → ty_r ρ N h (ty_tt q i) x) (hps : ∀ j, ty_ps K ρ N (h.set q (tag, vs.set i x)) j (ty_lk ov' 300 j)) : ty_H K ρ N ov' (h.set q (tag, vs.set i x)) := by
  obtain ⟨h1, h2, h3⟩ := hH
  have hL := ty_Lo_set (h := h) (c := (tag, vs.set i x)) hq
  have pick : ∀ q' j' y, q' < 198 → (q' ≠ q ∨ j' ≠ i) → (ty_r ρ N h (ty_lk ov q' j') y ∧ (ty_mb q' = true → ty_r ρ N h (ty_tt q' j') y)) → ty_r ρ N (h.set q (tag, vs.set i x)) (ty_lk ov' q' j') y ∧ (ty_mb q' = true → ty_r ρ N (h.set q (tag, vs.set i x)) (ty_tt q' j') y) := by
    intro q' j' y hq' hne hy
    refine ⟨?_, fun hm' => (hy.2 hm').mv hL⟩
    rcases hlk q' j' hq' hne with a | a | a
    · exact (ty_tl_ok a hy.1).mv hL
    · rw [a]; exact hy.1.mv hL
    · rw [a.2]; exact (hy.2 a.1).mv hL
  refine ⟨by rw [List.length_set]; exact h1, fun q' hq' => ?_, hps⟩
  obtain ⟨vs', e1, e2, e3⟩ := h2 q' hq'
  by_cases e : q' = q
  · subst e
    rw [hg] at e1
    cases e1
    refine ⟨vs.set i x, List.getElem?_set_self (by omega), by rw [List.length_set]; exact e2, fun j y hj => ?_⟩
    by_cases ej : j = i
    · subst ej
      have hl : j < vs.length := by
        have := (List.getElem?_eq_some_iff.mp hj).1
        rwa [List.length_set] at this
      rw [List.getElem?_set_self hl] at hj
      cases hj
      exact ⟨hx.mv hL, fun hm' => (hm hm').mv hL⟩
    · rw [List.getElem?_set_ne (Ne.symm ej)] at hj
      exact pick q' j y hq (Or.inr ej) (e3 j y hj)
  · refine ⟨vs', by rw [List.getElem?_set_ne (Ne.symm e)]; exact e1, e2, fun j y hj => pick q' j y hq' (Or.inl e) (e3 j y hj)⟩
/-- the heap, where the cells of old are as they were -/
theorem ty_H.far {K : Int} {ρ : Nat → Int} {N : Nat} {ov : ty_O} {h h' : ax_H} (hH : ty_H K ρ N ov h) (hL : ty_Lo h h') (hl : 198 ≤ h'.length) (he : ∀ q, q < 198 → h'[q]? = h[q]?) : ty_H K ρ N ov h' := by
  obtain ⟨h1, h2, h3⟩ := hH
  have hf : ∀ q j, q < 198 → ty_fd h' q j = ty_fd h q j := fun q j hq => by unfold ty_fd; rw [he q hq]
  refine ⟨hl, fun q hq => ?_, fun j => ty_ps_eq (ty_pv_eq (hf _ _ (by omega)) (hf _ _ (by omega)) (hf _ _ (by omega)) (fun f => hf _ _ (by omega))) (h3 j)⟩
  obtain ⟨vs, e1, e2, e3⟩ := h2 q hq
  exact ⟨vs, by rw [he q hq]; exact e1, e2, fun j x hx => ⟨(e3 j x hx).1.mv hL, fun hm => ((e3 j x hx).2 hm).mv hL⟩⟩
theorem ty_lc_set {t i : Nat} {c : Nat × List Value} {z : Int32} (hc : ty_lc t c) (h1 : (ty_lt t).2.2.1 ≤ z.toInt) (h2 : z.toInt ≤ (ty_lt t).2.2.2) : ty_lc t (c.1, c.2.set i (.int z)) := by
  obtain ⟨a1, a2, a3⟩ := hc
  refine ⟨a1, by rw [List.length_set]; exact a2, fun y hy => ?_⟩
  rcases List.mem_or_eq_of_mem_set hy with q | q
  · exact a3 y q
  · exact ⟨z, q, h1, h2⟩
/-- kinds of arrays made on the way differ in type or length -/
def ty_lk3 (t : Nat) : Nat := match t with
  | 0 => 0
  | 1 => 1
  | _ => 2
theorem ty_lc_same {s t : Nat} {c : Nat × List Value} (h1 : ty_lc s c) (h2 : ty_lc t c) : ty_lt s = ty_lt t := by
  have a : (ty_lt s).1 = (ty_lt t).1 := h1.1.symm.trans h2.1
  have b : (ty_lt s).2.1 = (ty_lt t).2.1 := h1.2.1.symm.trans h2.2.1
  rcases s with _ | _ | s <;> rcases t with _ | _ | t <;> first | rfl | (cases a; done) | (cases b; done)
theorem ty_Lo_loc {h : ax_H} {k t i : Nat} {c : Nat × List Value} {z : Int32} (hk : h[k]? = some c) (hc : ty_lc t c) (h1 : (ty_lt t).2.2.1 ≤ z.toInt) (h2 : z.toInt ≤ (ty_lt t).2.2.2) : ty_Lo h (h.set k (c.1, c.2.set i (.int z))) := by
  intro k' c' t' a1 a2 a3
  by_cases e : k' = k
  · subst e
    rw [hk] at a2
    cases a2
    have et := ty_lc_same hc a3
    refine ⟨_, List.getElem?_set_self (List.getElem?_eq_some_iff.mp hk).1, ty_lc_set a3 (by rw [← et]; exact h1) (by rw [← et]; exact h2)⟩
  · exact ⟨c', by rw [List.getElem?_set_ne (Ne.symm e)]; exact a2, a3⟩
/-! the frame -/
theorem ty_F.Lo {W : Nat} {h h' : ax_H} (hF : ty_F W h h') : ty_Lo h h' := hF.2.2.1
theorem ty_F_refl (W : Nat) (h : ax_H) : ty_F W h h := ⟨Nat.le_refl _, fun _ _ _ _ _ => rfl, ty_Lo_refl h, fun _ _ _ q => q⟩
theorem ty_F.trans {W : Nat} {h h' h'' : ax_H} (a : ty_F W h h') (b : ty_F W h' h'') : ty_F W h h'' :=
  ⟨Nat.le_trans a.1 b.1, fun q j h1 h2 h3 => (b.2.1 q j h1 h2 h3).trans (a.2.1 q j h1 h2 h3), ty_Lo.trans a.2.2.1 b.2.2.1, fun hw k bs hk => b.2.2.2 hw k bs (a.2.2.2 hw k bs hk)⟩
/-- W' within W -/
def ty_sub (W' W : Nat) : Bool := Nat.beq (W' &&& W) W'
theorem ty_sub_ok {W' W : Nat} (h : ty_sub W' W = true) (i : Nat) (hi : W.testBit i = false) : W'.testBit i = false := by
  have e := Nat.eq_of_beq_eq_true h
  rw [← e, Nat.testBit_and, hi, Bool.and_false]
theorem ty_F.sub {W' W : Nat} {h h' : ax_H} (hs : ty_sub W' W = true) (a : ty_F W' h h') : ty_F W h h' :=
  ⟨a.1, fun q j h1 h2 h3 => a.2.1 q j h1 h2 (ty_sub_ok hs _ h3), a.2.2.1, fun hw k bs hk => a.2.2.2 (ty_sub_ok hs _ hw) k bs hk⟩
/-- may (q, j) be written? -/
def ty_wr (W q j : Nat) : Bool := Nat.beq (ty_tab q).2.2.1 0 || W.testBit (ty_ky q j)
theorem ty_F.set {W q i tag : Nat} {h : ax_H} {x : Value} {vs : List Value} (hq : q < 198) (hl : 198 ≤ h.length) (hg : h[q]? = some (tag, vs)) (ht : tag ≠ 103) (hw : ty_wr W q i = true) : ty_F W h (h.set q (tag, vs.set i x)) := by
  refine ⟨by rw [List.length_set]; exact Nat.le_refl _, fun q' j' h1 h2 h3 => ?_, ty_Lo_set hq, fun hw k bs hk => ?_⟩
  · rw [ty_fd_set (by omega)]
    by_cases e : q' = q
    · subst e
      rw [if_pos rfl]
      have hne : j' ≠ i := by
        rintro rfl
        simp only [ty_wr, Bool.or_eq_true] at hw
        rcases hw with a | a
        · exact h2 (Nat.eq_of_beq_eq_true a)
        · rw [a] at h3; cases h3
      unfold ty_fd
      rw [hg]
      exact List.getElem?_set_ne (Ne.symm hne)
    · rw [if_neg e]
  · by_cases e : k = q
    · subst e
      rw [hg] at hk
      cases hk
      exact absurd rfl ht
    · rw [List.getElem?_set_ne (Ne.symm e)]
      exact hk
theorem ty_F.setA {W q i tag : Nat} {h : ax_H} {x : Value} {vs : List Value} (hq : q < 198) (hl : 198 ≤ h.length) (hg : h[q]? = some (tag, vs)) (ht : tag ≠ 103) (ha : ty_ar q = true) (hw : ty_wr W q 0 = true) : ty_F W h (h.set q (tag, vs.set i x)) := by
  refine ty_F.set hq hl hg ht ?_
  unfold ty_wr ty_ky at hw ⊢
  rw [ha] at hw ⊢
  exact hw
theorem ty_F.loc {W k t i : Nat} {h : ax_H} {c : Nat × List Value} {z : Int32} (hk198 : 198 ≤ k) (hk : h[k]? = some c) (hc : ty_lc t c) (h1 : (ty_lt t).2.2.1 ≤ z.toInt) (h2 : z.toInt ≤ (ty_lt t).2.2.2) : ty_F W h (h.set k (c.1, c.2.set i (.int z))) := by
  refine ⟨by rw [List.length_set]; exact Nat.le_refl _, fun q' j' a1 a2 a3 => ?_, ty_Lo_loc hk hc h1 h2, fun hw k' bs hk' => ?_⟩
  · unfold ty_fd
    rw [List.getElem?_set_ne (by omega)]
  · by_cases e : k' = k
    · subst e
      rw [hk] at hk'
      cases hk'
      have := hc.1
      unfold ty_lt at this
      split at this <;> cases this
    · rw [List.getElem?_set_ne (Ne.symm e)]
      exact hk'
theorem ty_F.push {W : Nat} {h gs : ax_H} (hl : 198 ≤ h.length) : ty_F W h (h ++ gs) := by
  refine ⟨by rw [List.length_append]; omega, fun q' j' a1 a2 a3 => ?_, ty_Lo_push, fun hw k bs hk => ?_⟩
  · unfold ty_fd
    rw [List.getElem?_append_left (by omega)]
  · rw [List.getElem?_append_left (List.getElem?_eq_some_iff.mp hk).1]
    exact hk
/-- numbers of fields that no row here writes -/
def ty_IK : Nat := 2 ^ 31 + 2 ^ 32 + 2 ^ 33 + 2 ^ 34 + 2 ^ 84 + 2 ^ 87 + 2 ^ 91 + 2 ^ 95 + 2 ^ 103 + 2 ^ 104 + 2 ^ 108 + 2 ^ 109
/-- a property of the heap that hangs on those alone (and on arrays of bytes) -/
def ty_Ik (I : ax_H → Prop) : Prop := ∀ h h' : ax_H, (∀ q j, q < 198 → (ty_tab q).2.2.1 ≠ 0 → ty_IK.testBit (ty_ky q j) = true → ty_fd h' q j = ty_fd h q j) → (∀ (k : Nat) (bs : List Value), h[k]? = some (103, bs) → h'[k]? = some (103, bs)) → I h → I h'
/-- what may be written here: W without those -/
def ty_W0 (W : Nat) : Nat := W - (W &&& ty_IK)
theorem ty_Ik.go {I : ax_H → Prop} (hI : ty_Ik I) {W : Nat} {h h' : ax_H} (hW : Nat.beq (W &&& ty_IK) 0 = true) (hF : ty_F W h h') (hi : I h) : I h' := by
  have e := Nat.eq_of_beq_eq_true hW
  have no : ∀ i, ty_IK.testBit i = true → W.testBit i = false := fun i h1 => by
    have h2 : (W &&& ty_IK).testBit i = false := by rw [e]; exact Nat.zero_testBit i
    rw [Nat.testBit_and, h1, Bool.and_true] at h2
    exact h2
  exact hI h h' (fun q j h1 h2 h3 => hF.2.1 q j h1 h2 (no _ h3)) (hF.2.2.2 (no 31 (by decide +kernel))) hi
