section AXMF
variable {ns : ax_NS} {l : Launch} {k : ax_M} {d : Nat} {r : ax_H} {mc ms : Nat} {as : List Value} {h : ax_H} {Q : ax_Q} {js : List Nat}
theorem ax_oc_trs {b : Nat} {o : Nat → Nat} {n : Nat} (hj : ∀ j ∈ js, 198 ≤ j ∧ j < 1000000000) (hjl : js.length < 900000000) : ∀ {xs vs : List Value}, xs.all (ax_trk js) = true → ax_vs b o xs vs → ax_vs b (ax_oc o n js) (xs.map (ax_tr js)) vs
  | [], vs, _, h => h
  | x :: xs, vs, hx, ⟨v, t, h1, h2, h3⟩ => by
    simp only [List.all_cons, Bool.and_eq_true] at hx
    exact ⟨v, t, h1, ax_oc_tr hx.1 hj hjl h2, ax_oc_trs hj hjl hx.2 h3⟩
/-- a contract over a less precise heap -/
theorem AM.lessH {h' : ax_H} (h3 : ax_leh h' h = true) (K : AM ns l k d r mc ms as h' Q) : AM ns l k d r mc ms as h Q := by
  intro D b o
  refine MetFree.mono (K D b o) (fun a U hp => ?_) (fun _ _ _ _ _ h9 => h9) (fun _ _ _ _ _ hq => hq)
  obtain ⟨ac, e1, e2, e3, e4, e5⟩ := hp
  exact ⟨ac, e1, e2, ax_leh_ok h3 e3, e4, e5⟩
/-- a contract for the cells 0 to 197 and some more, used where there are others -/
theorem AM.frame (hn : 198 ≤ h.length) (hj : ∀ j ∈ js, 198 ≤ j ∧ j < h.length) (hd : js.Nodup) (hl : 198 + js.length ≤ h.length) (hlt : h.length < 900000000) (hlow : ax_lowh (ax_hc h js) = true) (hr : ax_lowh r = true) (hrl : r.length < 900) (has : as.all (ax_trk js) = true)
    (hQ : ∀ res h', Q res h' → 198 + js.length ≤ h'.length ∧ ax_lowh (h'.take (198 + js.length)) = true ∧ ∀ v, res = .inl (some v) → ax_low v = true)
    (K : AM ns l k d r mc ms (as.map (ax_tr js)) (ax_hc h js) Q) : AM ns l k d r mc ms as h (fun res h2 => ∃ h', Q res h' ∧ h2 = ax_back h js h') := by
  intro D b o
  refine MetFree.mono (K D b (ax_oc o h.length js)) (fun a U hp => ?_) (fun _ _ _ _ _ h9 => h9) (fun a s oc t hp hq => ?_)
  · obtain ⟨ac, e1, e2, e3, e4, e5⟩ := hp
    exact ⟨ac, e1, ax_oc_trs (fun j h1 => ⟨(hj j h1).1, by have := (hj j h1).2; omega⟩) (by omega) has e2, ax_oc_R hn hj hd hl hlow e3, ax_oc_T hr hrl e4, e5⟩
  · obtain ⟨ac, e1, e2, e3, e4, e5⟩ := hp
    have hF : ∀ t : State, va_F (ax_RG b (ax_oc o h.length js)) s t → va_F (ax_RG b o) s t := fun t h9 => ⟨h9.1, fun q h1 h2 => h9.2 q h1 (fun z => h2 (ax_oc_RG hn e3.2.2 hj z))⟩
    rcases hq with ⟨⟨v, vc, h', hvc, hov, hq, hR, hF1⟩, L, hL1, hL2⟩ | ⟨q, ho, E, ce, L, ⟨h', hq, hR, hF1⟩, c2, c3, c4, c5, c6, c7⟩
    · obtain ⟨z1, z2, z3⟩ := hQ _ _ hq
      refine Or.inl ⟨⟨v, vc, ax_back h js h', hvc, ?_, ⟨h', hq, rfl⟩, ax_back_R hn hj hl z1 z2 e3 hR hF1, hF t hF1⟩, L, hL1, fun q hq => ax_oc_RG hn e3.2.2 hj (hL2 q hq)⟩
      cases v with
      | none => exact hov
      | some x =>
        obtain ⟨w, a1, a2⟩ := hov
        exact ⟨w, a1, (ax_oc_v (z3 x rfl)).mp a2⟩
    · obtain ⟨z1, z2, -⟩ := hQ _ _ hq
      exact Or.inr ⟨q, ho, E, ce, L, ⟨ax_back h js h', ⟨h', hq, rfl⟩, ax_back_R hn hj hl z1 z2 e3 hR hF1, hF t hF1⟩, c2, c3, c4, c5, c6, fun z hz => ax_oc_RG hn e3.2.2 hj (c7 z hz)⟩
end AXMF
/-! WHAT IS NO MORE USED goes into the gap: of m cells the first n stay -/
def ax_oq (o : Nat → Nat) (n m : Nat) : Nat → Nat := fun k =>
  if k = 999 then o 999 + (m - n) else
  if k < 1000000396 then o k else
  if k % 2 = 0 then (if (k - 1000000000) / 2 < n then ax_of o ((k - 1000000000) / 2) + 1 else 0) else o k
section AXOQ
variable {b : Nat} {o : Nat → Nat} {n m : Nat} {D : va_G}
theorem ax_oq_lo {k : Nat} (h : k < 1000000396) (h1 : k ≠ 999) : ax_oq o n m k = o k := by
  unfold ax_oq
  rw [if_neg h1, if_pos h]
theorem ax_oq_G : ax_oq o n m 999 = o 999 + (m - n) := rfl
theorem ax_oq_pinE {k : Nat} : ax_oq o n m (1000000001 + 2 * k) = o (1000000001 + 2 * k) := by
  unfold ax_oq
  rw [if_neg (by omega)]
  split
  · rfl
  · rw [if_neg (by omega)]
theorem ax_oq_pin {k : Nat} (hk : 198 ≤ k) : ax_oq o n m (1000000000 + 2 * k) = if k < n then ax_of o k + 1 else 0 := by
  unfold ax_oq
  rw [if_neg (by omega), if_neg (by omega), if_pos (by omega)]
  rw [show (1000000000 + 2 * k - 1000000000) / 2 = k from by omega]
theorem ax_oq_of {k : Nat} (hk : k < n) : ax_of (ax_oq o n m) k = ax_of o k := by
  rcases (by omega : k < 198 ∨ 198 ≤ k) with h | h
  · unfold ax_of
    rw [ax_oq_lo (by omega) (by omega)]
    cases o (1000000000 + 2 * k) with
    | zero => show (if k < 198 then k else _) = (if k < 198 then k else _); rw [if_pos h, if_pos h]
    | succ p => rfl
  · have e : ax_of (ax_oq o n m) k = match ax_oq o n m (1000000000 + 2 * k) with | 0 => (if k < 198 then k else k + ax_oq o n m 999) | q + 1 => q := rfl
    rw [e, ax_oq_pin h, if_pos hk]
theorem ax_oq_of_hi {k : Nat} (hn : 198 ≤ n) (hk : n ≤ k) : ax_of (ax_oq o n m) k = k + (o 999 + (m - n)) := by
  have e : ax_of (ax_oq o n m) k = match ax_oq o n m (1000000000 + 2 * k) with | 0 => (if k < 198 then k else k + ax_oq o n m 999) | q + 1 => q := rfl
  rw [e, ax_oq_pin (by omega), if_neg (by omega)]
  show (if k < 198 then k else k + ax_oq o n m 999) = _
  rw [if_neg (by omega), ax_oq_G]
theorem ax_oq_R0 {a : Nat} : ax_R0 (ax_oq o n m) a ↔ ax_R0 o a := by
  unfold ax_R0
  rw [ax_oq_lo (k := 998) (by omega) (by omega)]
  simp only [ax_oq_pinE]
theorem ax_oq_RG : ax_RG b (ax_oq o n m) = ax_RG b o := by
  funext q
  unfold ax_RG
  simp only [ax_oq_R0]
theorem ax_oq_W (hn : 198 ≤ n) (hm : n ≤ m) (hW : ax_W o m) : ax_W (ax_oq o n m) n := by
  obtain ⟨w1, w2, w3, w4, w5, w6, w7, w8⟩ := hW
  refine ⟨fun h => by omega, fun k hk => ?_, fun i j hi hj he => ?_, fun i hi => ?_, fun k hk => ?_, fun k hk => ?_, fun _ => ?_, fun i hi => ?_⟩
  · rw [ax_oq_pin (by omega), if_neg (by omega)]
  · rw [ax_oq_of hi, ax_oq_of hj] at he
    exact w3 i j (by omega) (by omega) he
  · rw [ax_oq_of hi, ax_oq_G]
    have := w4 i (by omega)
    omega
  · rw [ax_oq_of (by omega)]
    exact w5 k hk
  · rcases (by omega : k < n ∨ n ≤ k) with h | h
    · rw [ax_oq_of h]
      exact w6 k hk
    · rw [ax_oq_of_hi hn h]
      omega
  · rw [ax_oq_G, ax_oq_lo (k := 998) (by omega) (by omega)]
    have := w7 (by omega)
    omega
  · rw [ax_oq_of hi]
    exact ax_oq_R0.mpr (w8 i (by omega))
/-- no cell from n on -/
def ax_unda (n a : Nat) : Bool := Nat.blt a n || (Nat.ble 1000000000 a && Nat.blt a 1000000900)
def ax_und (n : Nat) (x : Value) : Bool := match x with
  | .ref a => ax_unda n a
  | _ => true
theorem ax_oq_ad {a : Nat} (hn : 198 ≤ n) (hn2 : n < 1000000000) (hx : ax_unda n a = true) : ax_ad b (ax_oq o n m) a = ax_ad b o a := by
  simp only [ax_unda, Bool.or_eq_true, Bool.and_eq_true] at hx
  unfold ax_ad
  rcases hx with hx | ⟨h1, h2⟩
  · have h3 : a + 1 ≤ n := Nat.le_of_ble_eq_true hx
    rw [if_pos (by omega), if_pos (by omega), ax_oq_of (by omega)]
  · have h3 := Nat.le_of_ble_eq_true h1
    have h4 : a + 1 ≤ 1000000900 := Nat.le_of_ble_eq_true h2
    rw [if_neg (by omega), if_neg (by omega), ax_oq_lo (by omega) (by omega)]
theorem ax_lowa_unda {a : Nat} (hn : 198 ≤ n) (h : ax_lowa a = true) : ax_unda n a = true := by
  simp only [ax_lowa, Bool.or_eq_true] at h
  simp only [ax_unda, Bool.or_eq_true]
  rcases h with h | h
  · have h3 : a + 1 ≤ 198 := Nat.le_of_ble_eq_true h
    exact Or.inl (Nat.ble_eq_true_of_le (by omega))
  · exact Or.inr h
theorem ax_oq_v {x v : Value} (hn : 198 ≤ n) (hn2 : n < 1000000000) (hx : ax_und n x = true) : ax_v b (ax_oq o n m) x v ↔ ax_v b o x v := by
  cases x with
  | ref a =>
    have e : ax_ad b (ax_oq o n m) a = ax_ad b o a := ax_oq_ad hn hn2 hx
    simp only [ax_v, e]
  | float q =>
    have e : ax_oq o n m (ax_bs q) = o (ax_bs q) := ax_oq_lo (by have := ax_bs_lt (n := q); omega) (by unfold ax_bs; omega)
    simp only [ax_v, ax_nm, e]
  | retAddr g =>
    have e : ∀ a, ax_ga b (ax_oq o n m) g a ↔ ax_ga b o g a := fun a => by
      unfold ax_ga
      constructor
      · rintro (h | ⟨c, h1, h2, h3⟩)
        · exact Or.inl h
        · have h4 := ax_gm_lt h3
          rw [ax_oq_of (by omega)] at h1
          exact Or.inr ⟨c, h1, h2, h3⟩
      · rintro (h | ⟨c, h1, h2, h3⟩)
        · exact Or.inl h
        · have h4 := ax_gm_lt h3
          refine Or.inr ⟨c, ?_, h2, h3⟩
          rw [ax_oq_of (by omega)]
          exact h1
    simp only [ax_v, e]
  | int j => exact Iff.rfl
  | long j => exact Iff.rfl
  | double j => exact Iff.rfl
  | null => exact Iff.rfl
theorem ax_oq_c {q : Nat × List Value} {cell : Cell} (hn : 198 ≤ n) (hn2 : n < 1000000000) (hq : q.2.all (ax_und n) = true) : ax_c D b (ax_oq o n m) q cell ↔ ax_c D b o q cell := by
  unfold ax_c
  constructor
  · rintro (h | ⟨h1, h2, h3, h4⟩)
    · exact Or.inl h
    · refine Or.inr ⟨h1, h2, h3, fun k x hx => ?_⟩
      obtain ⟨v, a1, a2⟩ := h4 k x hx
      exact ⟨v, a1, (ax_oq_v hn hn2 (List.all_eq_true.mp hq x (List.mem_of_getElem? hx))).mp a2⟩
  · rintro (h | ⟨h1, h2, h3, h4⟩)
    · exact Or.inl h
    · refine Or.inr ⟨h1, h2, h3, fun k x hx => ?_⟩
      obtain ⟨v, a1, a2⟩ := h4 k x hx
      exact ⟨v, a1, (ax_oq_v hn hn2 (List.all_eq_true.mp hq x (List.mem_of_getElem? hx))).mpr a2⟩
theorem ax_oq_vs (hn : 198 ≤ n) (hn2 : n < 1000000000) : ∀ {xs vs : List Value}, xs.all (ax_und n) = true → (ax_vs b (ax_oq o n m) xs vs ↔ ax_vs b o xs vs)
  | [], vs, _ => Iff.rfl
  | x :: xs, vs, hx => by
    simp only [List.all_cons, Bool.and_eq_true] at hx
    simp only [ax_vs, ax_oq_v hn hn2 hx.1, ax_oq_vs hn hn2 hx.2]
theorem ax_oq_ls (hn : 198 ≤ n) (hn2 : n < 1000000000) : ∀ {xs vs : List (Nat × Value)}, xs.all (fun q => ax_und n q.2) = true → (ax_ls b (ax_oq o n m) xs vs ↔ ax_ls b o xs vs)
  | [], vs, _ => Iff.rfl
  | x :: xs, vs, hx => by
    simp only [List.all_cons, Bool.and_eq_true] at hx
    simp only [ax_ls, ax_oq_v hn hn2 hx.1, ax_oq_ls hn hn2 hx.2]
theorem ax_low_und {x : Value} (hn : 198 ≤ n) (h : ax_low x = true) : ax_und n x = true := by
  cases x with
  | ref a =>
    exact ax_lowa_unda hn h
  | _ => rfl
theorem ax_oq_O {s : State} {r : ax_H} {H : Heap} (hn : 198 ≤ n) (hn2 : n < 1000000000) (hr : ax_lowh r = true) (hl : r.length < 900) (h : ax_O s b o r H) : ax_O s b (ax_oq o n m) r H := by
  intro k q hq
  obtain ⟨a1, t, ty, cell, a2, a3, a4, a5, a6, a7, a8, a9⟩ := h k q hq
  have hk := (List.getElem?_eq_some_iff.mp hq).1
  have e : ax_oq o n m k = o k := ax_oq_lo (by omega) (by omega)
  refine ⟨by rw [e]; exact a1, t, ty, cell, a2, a3, by rw [e]; exact a4, a5, a6, a7, a8, fun j x hx => ?_⟩
  obtain ⟨v, b1, b2⟩ := a9 j x hx
  exact ⟨v, b1, (ax_oq_v hn hn2 (ax_low_und hn (List.all_eq_true.mp (List.all_eq_true.mp hr q (List.mem_of_getElem? hq)) x (List.mem_of_getElem? hx)))).mpr b2⟩
theorem ax_oq_T {ns : ax_NS} {r : ax_H} {U : State} (hn : 198 ≤ n) (hn2 : n < 1000000000) (hr : ax_lowh r = true) (hl : r.length < 900) (h : ax_T ns r D b o U) : ax_T ns r D b (ax_oq o n m) U := by
  obtain ⟨h1, h2, h3, h4, h5, h6, h7, h8, h10, h9⟩ := h
  refine ⟨h1, h2, h3, h4, h5, h6, fun q hq => ?_, ax_oq_O hn hn2 hr hl h8, h10, h9⟩
  obtain ⟨v, hv, hZ⟩ := h7 q hq
  refine ⟨v, ?_, hZ⟩
  have hlow : ∀ q ∈ ax_stat, ax_low q.2.2.2 = true := by decide
  exact (ax_oq_v hn hn2 (ax_low_und hn (hlow q hq))).mpr hv
/-- the first n cells, where the rest is in the gap -/
theorem ax_oq_R {h gs : ax_H} {H : Heap} (hn : 198 ≤ h.length) (hn2 : h.length < 1000000000) (hu : h.all (fun q => q.2.all (ax_und h.length)) = true) (hR : ax_R D b o (h ++ gs) H) : ax_R D b (ax_oq o h.length (h ++ gs).length) h H := by
  obtain ⟨r1, r2, r3⟩ := hR
  have hl : h.length ≤ (h ++ gs).length := by rw [List.length_append]; omega
  refine ⟨by rw [r1, ax_oq_G]; omega, fun k q hq => ?_, ax_oq_W hn hl r3⟩
  have hk := (List.getElem?_eq_some_iff.mp hq).1
  obtain ⟨cell, a1, a2⟩ := r2 k q (by rw [List.getElem?_append_left hk]; exact hq)
  exact ⟨cell, by rw [ax_oq_of hk]; exact a1, (ax_oq_c hn hn2 (List.all_eq_true.mp hu q (List.mem_of_getElem? hq))).mpr a2⟩
/-- back: the first w cells of what came of it; the rest is of no use -/
def ax_rest (w : Nat) (h' : ax_H) (t : Nat) : ax_H := h'.take w ++ List.replicate (h'.length - w + t) (99, [])
theorem ax_oq_back {h' : ax_H} {H : Heap} {w : Nat} (hn : 198 ≤ n) (hn2 : n < 1000000000) (hm : n ≤ m) (hw : w ≤ n) (hw2 : w ≤ h'.length) (h198 : 198 ≤ h'.length) (hW : ax_W o m) (hu : (h'.take w).all (fun q => q.2.all ax_low) = true) (hR : ax_R D b (ax_oq o n m) h' H) : ax_R D b o (ax_rest w h' (m - n)) H := by
  obtain ⟨r1, r2, r3⟩ := hR
  rw [ax_oq_G] at r1
  have hlen : (ax_rest w h' (m - n)).length = h'.length + (m - n) := by
    unfold ax_rest
    rw [List.length_append, List.length_take, List.length_replicate]
    omega
  have hln : n ≤ h'.length := by
    rcases Nat.lt_or_ge h'.length n with h1 | h1
    · have h2 := r3.2.1 (n - 1) (by omega)
      rw [ax_oq_pin (by omega), if_pos (by omega)] at h2
      cases h2
    · exact h1
  have hWl : ax_W o (h'.length + (m - n)) := by
    rw [show h'.length + (m - n) = m + (h'.length - n) from by omega]
    exact hW.add
  refine ⟨by rw [r1, hlen]; omega, fun k q hq => ?_, by rw [hlen]; exact hWl⟩
  have hk : k < h'.length + (m - n) := by
    rw [← hlen]
    exact (List.getElem?_eq_some_iff.mp hq).1
  unfold ax_rest at hq
  rcases (by omega : k < w ∨ w ≤ k) with h1 | h1
  · rw [List.getElem?_append_left (by rw [List.length_take]; omega)] at hq
    have hq2 : h'[k]? = some q := by
      rw [List.getElem?_take, if_pos h1] at hq
      exact hq
    obtain ⟨cell, a1, a2⟩ := r2 k q hq2
    rw [ax_oq_of (by omega)] at a1
    exact ⟨cell, a1, (ax_oq_c hn hn2 (List.all_eq_true.mpr (fun x hx => ax_low_und hn (List.all_eq_true.mp (List.all_eq_true.mp hu q (List.mem_of_getElem? hq)) x hx)))).mp a2⟩
  · rw [List.getElem?_append_right (by rw [List.length_take]; omega)] at hq
    have hq3 : q = (99, []) := List.eq_of_mem_replicate (List.mem_of_getElem? hq)
    have h4 := hWl.2.2.2.1 k hk
    have h5 : b + ax_of o k < H.size := by omega
    exact ⟨H[b + ax_of o k], Array.getElem?_eq_getElem h5, Or.inl (by rw [hq3])⟩
end AXOQ
section AXCO
variable {ns : ax_NS} {l : Launch} {k : ax_M} {d : Nat} {r : ax_H} {P : ax_P} {X : ax_PX} {pc : Nat} {lv : List (Nat × Value)} {st : List Value} {h gs : ax_H} {bc bs w B : Nat}
/-- no name from B on -/
def ax_nvb (B : Nat) (x : Value) : Bool := match x with
  | .float n => Nat.blt (n.toNat / 1000) B
  | _ => true
def ax_nnb (B : Nat) (h : ax_H) : Bool := h.all (fun q => q.2.all (ax_nvb B))
/-- what a place's end says holds whatever lies behind the first w cells, and whatever the names from B on are -/
def ax_clo (w B : Nat) (P : ax_P) : Prop := ∀ pc lv st h bc bs, P pc lv st h bc bs → w ≤ h.length ∧ (h.take w).all (fun q => q.2.all ax_low) = true ∧ st.all ax_low = true ∧ (∀ t, P pc [] st (ax_rest w h t) bc bs) ∧ ax_nnb B (h.take w) = true ∧ st.all (ax_nvb B) = true
def ax_clx (w B : Nat) (X : ax_PX) : Prop := ∀ pc lv E h bc bs, X pc lv E h bc bs → w ≤ h.length ∧ (h.take w).all (fun q => q.2.all ax_low) = true ∧ (∀ t, X pc [] E (ax_rest w h t) bc bs) ∧ ax_nnb B (h.take w) = true
theorem ax_all_und {n : Nat} (hn : 198 ≤ n) {st : List Value} (h : st.all ax_low = true) : st.all (ax_und n) = true := List.all_eq_true.mpr (fun x hx => ax_low_und hn (List.all_eq_true.mp h x hx))
theorem AR.collect (hn : 198 ≤ h.length) (hn2 : h.length < 1000000000) (hw : w ≤ h.length) (hw2 : 198 ≤ w) (hlv : lv.all (fun q => ax_und h.length q.2) = true) (hst : st.all (ax_und h.length) = true) (hu : h.all (fun q => q.2.all (ax_und h.length)) = true) (hr : ax_lowh r = true) (hrl : r.length < 900) (hP : ax_clo w B P) (hX : ax_clx w B X)
    (K : AR ns l k d r P X pc lv st h bc bs) : AR ns l k d r P X pc lv st (h ++ gs) bc bs := by
  intro D b o TC TS p e R s m args below meth c Z hX0 hPa hXa lvc ls stc H locs cells slots hG
  obtain ⟨x1, x2, x3, x4, x5, x6, x7⟩ := hX0
  obtain ⟨g1, g2, g3, g4, g5, g6, g7⟩ := hG
  have hm : h.length ≤ (h ++ gs).length := by rw [List.length_append]; omega
  have hW := g4.2.2
  refine K D b (ax_oq o h.length (h ++ gs).length) TC TS p e R s m args below meth c Z ⟨x1, x2, x3, x4, x5, ax_oq_T hn hn2 hr hrl x6, x7⟩ ?_ ?_ lvc ls stc H locs cells slots ⟨g1, (ax_oq_ls hn hn2 hlv).mpr g2, (ax_oq_vs hn hn2 hst).mpr g3, ax_oq_R hn hn2 hu g4, by rw [ax_oq_RG]; exact g5, g6, g7⟩
  · intro pc lv' st' h' bc' bs' hp lvc' ls' stc' H' locs' cells' slots' hG'
    obtain ⟨g1, g2, g3, g4, g5, g6, g7⟩ := hG'
    obtain ⟨z1, z2, z3, z4, -⟩ := hP _ _ _ _ _ _ hp
    rw [ax_oq_RG] at g5
    exact hPa _ _ _ _ _ _ (z4 _) [] ls' stc' H' locs' cells' slots' ⟨⟨g1.1, g1.2.1, fun q hq => absurd hq List.not_mem_nil⟩, rfl, (ax_oq_vs hn hn2 (ax_all_und hn z3)).mp g3, ax_oq_back hn hn2 hm hw z1 (by omega) hW z2 g4, g5, g6, g7⟩
  · intro pc lv' E h' bc' bs' hp lvc' ls' stc' H' locs' cells' slots' q ce hG'
    obtain ⟨g1, g2, g3, g4, g5, g6, g7⟩ := hG'
    obtain ⟨z1, z2, z4, -⟩ := hX _ _ _ _ _ _ hp
    rw [ax_oq_RG] at g5
    exact hXa _ _ _ _ _ _ (z4 _) [] ls' stc' H' locs' cells' slots' q ce ⟨⟨g1.1, g1.2.1, fun q hq => absurd hq List.not_mem_nil⟩, rfl, rfl, ax_oq_back hn hn2 hm hw z1 (by omega) hW z2 g4, g5, g6, g7⟩
/-- what a contract says: one of these ends, whatever more lies on the heap -/
def ax_QL (w : Nat) (L : List ((Option Value ⊕ String) × ax_H)) : ax_Q := fun res h => ∃ e ∈ L, res = e.1 ∧ w ≤ h.length ∧ h.take w = e.2
def ax_okL (w : Nat) (L : List ((Option Value ⊕ String) × ax_H)) : Bool := L.all (fun e => Nat.beq e.2.length w && (e.2.all (fun q => q.2.all ax_low) && (match e.1 with | .inl (some v) => ax_low v | _ => true)))
theorem ax_rest_take {h' : ax_H} {t : Nat} (hw : w ≤ h'.length) : w ≤ (ax_rest w h' t).length ∧ (ax_rest w h' t).take w = h'.take w := by
  unfold ax_rest
  have hl : (h'.take w).length = w := by rw [List.length_take]; omega
  refine ⟨by rw [List.length_append, hl]; omega, ?_⟩
  rw [List.take_append_of_le_length (by omega), List.take_take, Nat.min_self]
theorem ax_QL_rest {L : List ((Option Value ⊕ String) × ax_H)} {res : Option Value ⊕ String} {h' : ax_H} {t : Nat} (h : ax_QL w L res h') : ax_QL w L res (ax_rest w h' t) := by
  obtain ⟨e, h1, h2, h3, h4⟩ := h
  obtain ⟨a1, a2⟩ := ax_rest_take (t := t) h3
  exact ⟨e, h1, h2, a1, by rw [a2]; exact h4⟩
theorem ax_QL_low {L : List ((Option Value ⊕ String) × ax_H)} {res : Option Value ⊕ String} {h' : ax_H} (hL : ax_okL w L = true) (h : ax_QL w L res h') : w ≤ h'.length ∧ (h'.take w).all (fun q => q.2.all ax_low) = true ∧ ∀ v, res = .inl (some v) → ax_low v = true := by
  obtain ⟨e, h1, h2, h3, h4⟩ := h
  have h5 := List.all_eq_true.mp hL e h1
  simp only [Bool.and_eq_true] at h5
  refine ⟨h3, by rw [h4]; exact h5.2.1, fun v hv => ?_⟩
  have h6 := h5.2.2
  rw [← h2, hv] at h6
  exact h6
end AXCO
