/-! A CONTRACT FOR LITTLE SERVES WHERE THERE IS MORE: the cells 0 to 197 and some of the caller's others (js) are the callee's heap; the rest stays -/
def ax_oc (o : Nat → Nat) (n : Nat) (js : List Nat) : Nat → Nat := fun k =>
  if k = 999 then n + o 999 - 198 - js.length else
  if k = 998 then n + o 999 - 198 else
  if k < 1000000000 then o k else
  if k % 2 = 0 then (if k < 1000000396 then o k else match js[(k - 1000000396) / 2]? with | some j => ax_of o j + 1 | none => 0)
  else match js[(k - 1000000001) / 2]? with | some j => ax_of o j + 1 | none => 0
/-- no cell from 198 on -/
def ax_lowa (a : Nat) : Bool := Nat.blt a 198 || (Nat.ble 1000000000 a && Nat.blt a 1000000900)
theorem ax_lowa_ok {a : Nat} (h : ax_lowa a = true) : (a < 198 ∨ 1000000000 ≤ a) ∧ (a - 1000000000) % 1000 ≠ 999 ∧ (a - 1000000000) % 1000 ≠ 998 := by
  simp only [ax_lowa, Bool.or_eq_true, Bool.and_eq_true] at h
  rcases h with h | ⟨h1, h2⟩
  · have h3 : a + 1 ≤ 198 := Nat.le_of_ble_eq_true h
    omega
  · have h3 := Nat.le_of_ble_eq_true h1
    have h4 : a + 1 ≤ 1000000900 := Nat.le_of_ble_eq_true h2
    omega
/-- a value that names none of them -/
def ax_low (x : Value) : Bool := match x with
  | .ref a => ax_lowa a
  | _ => true
def ax_lowh (h : ax_H) : Bool := h.all (fun q => q.2.all ax_low)
/-- the caller's value, as the callee has it -/
def ax_tr (js : List Nat) (x : Value) : Value := match x with
  | .ref a => if ax_lowa a then .ref a else .ref (198 + js.idxOf a)
  | x => x
def ax_trk (js : List Nat) (x : Value) : Bool := match x with
  | .ref a => ax_lowa a || js.any (fun j => Nat.beq j a)
  | _ => true
theorem ax_gm_lt {g a : Nat} (h : ax_gm g a = true) : a < 198 := by
  unfold ax_gm at h
  simp only [List.any_eq_true, Bool.and_eq_true] at h
  obtain ⟨q, h1, h2, h3, h4⟩ := h
  have h2 := Nat.le_of_ble_eq_true h2
  have h3 := Nat.eq_of_beq_eq_true h3
  have h4 : (a - q.1) / q.2.1 + 1 ≤ q.2.2 := Nat.le_of_ble_eq_true h4
  have key : ∀ L ∈ ax_grs, ∀ q ∈ L, (q.2.1 = 1 ∨ q.2.1 = 2) ∧ q.1 + q.2.1 * (q.2.2 - 1) < 198 := by decide
  have hL : ax_grs.getD g [] ∈ ax_grs ∨ ax_grs.getD g [] = [] := by
    rw [List.getD_eq_getElem?_getD]
    cases he : ax_grs[g]? with
    | none => exact Or.inr rfl
    | some L => exact Or.inl (List.mem_of_getElem? he)
  rcases hL with hL | hL
  · obtain ⟨k1, k2⟩ := key _ hL q h1
    rcases k1 with k1 | k1 <;> rw [k1] at h3 h4 k2 <;> omega
  · rw [hL] at h1
    exact absurd h1 List.not_mem_nil
section AXOC
variable {o : Nat → Nat} {n : Nat} {js : List Nat}
theorem ax_oc_G : ax_oc o n js 999 = n + o 999 - 198 - js.length := rfl
theorem ax_oc_GE : ax_oc o n js 998 = n + o 999 - 198 := rfl
theorem ax_oc_lo {k : Nat} (h : k < 1000000000) (h1 : k ≠ 999) (h2 : k ≠ 998) : ax_oc o n js k = o k := by
  unfold ax_oc
  rw [if_neg h1, if_neg h2, if_pos h]
theorem ax_oc_pinl {k : Nat} (h : k < 198) : ax_oc o n js (1000000000 + 2 * k) = o (1000000000 + 2 * k) := by
  unfold ax_oc
  rw [if_neg (by omega), if_neg (by omega), if_neg (by omega), if_pos (by omega), if_pos (by omega)]
theorem ax_oc_pin {p : Nat} : ax_oc o n js (1000000000 + 2 * (198 + p)) = match js[p]? with | some j => ax_of o j + 1 | none => 0 := by
  unfold ax_oc
  rw [if_neg (by omega), if_neg (by omega), if_neg (by omega), if_pos (by omega), if_neg (by omega)]
  rw [show (1000000000 + 2 * (198 + p) - 1000000396) / 2 = p from by omega]
theorem ax_oc_pinE {p : Nat} : ax_oc o n js (1000000001 + 2 * p) = match js[p]? with | some j => ax_of o j + 1 | none => 0 := by
  unfold ax_oc
  rw [if_neg (by omega), if_neg (by omega), if_neg (by omega), if_neg (by omega)]
  rw [show (1000000001 + 2 * p - 1000000001) / 2 = p from by omega]
theorem ax_oc_of_lt {k : Nat} (h : k < 198) : ax_of (ax_oc o n js) k = ax_of o k := by
  unfold ax_of
  rw [ax_oc_pinl h]
  cases o (1000000000 + 2 * k) with
  | zero => show (if k < 198 then k else _) = (if k < 198 then k else _); rw [if_pos h, if_pos h]
  | succ p => rfl
theorem ax_oc_of_js {p j : Nat} (h : js[p]? = some j) : ax_of (ax_oc o n js) (198 + p) = ax_of o j := by
  have e : ax_of (ax_oc o n js) (198 + p) = match ax_oc o n js (1000000000 + 2 * (198 + p)) with | 0 => (if 198 + p < 198 then 198 + p else 198 + p + ax_oc o n js 999) | q + 1 => q := rfl
  rw [e, ax_oc_pin, h]
theorem ax_oc_of_hi {p : Nat} (h : js[p]? = none) : ax_of (ax_oc o n js) (198 + p) = 198 + p + (n + o 999 - 198 - js.length) := by
  have e : ax_of (ax_oc o n js) (198 + p) = match ax_oc o n js (1000000000 + 2 * (198 + p)) with | 0 => (if 198 + p < 198 then 198 + p else 198 + p + ax_oc o n js 999) | q + 1 => q := rfl
  rw [e, ax_oc_pin, h]
  show (if 198 + p < 198 then 198 + p else 198 + p + ax_oc o n js 999) = _
  rw [if_neg (by omega), ax_oc_G]
theorem ax_oc_W (hn : 198 ≤ n) (hW : ax_W o n) (hj : ∀ j ∈ js, 198 ≤ j ∧ j < n) (hd : js.Nodup) (hl : 198 + js.length ≤ n) : ax_W (ax_oc o n js) (198 + js.length) := by
  obtain ⟨w1, w2, w3, w4, w5, w6, w7, w8⟩ := hW
  have get : ∀ p, p < js.length → ∃ j, js[p]? = some j ∧ 198 ≤ j ∧ j < n := fun p hp => by
    refine ⟨js[p], List.getElem?_eq_getElem hp, hj _ (List.getElem_mem hp)⟩
  have lt : ∀ k, k < 198 → ax_of (ax_oc o n js) k = k := fun k hk => (ax_oc_of_lt hk).trans (w5 k hk)
  have js6 : ∀ p j, js[p]? = some j → 198 ≤ ax_of (ax_oc o n js) (198 + p) ∧ ax_of (ax_oc o n js) (198 + p) < n + o 999 := fun p j hp => by
    have h1 := hj j (List.mem_of_getElem? hp)
    rw [ax_oc_of_js hp]
    exact ⟨w6 j h1.1, w4 j h1.2⟩
  refine ⟨fun h => by omega, fun k hk => ?_, fun i k hi hk he => ?_, fun i hi => ?_, lt, fun k hk => ?_, fun _ => ?_, fun i hi => ?_⟩
  · obtain ⟨p, rfl⟩ : ∃ p, k = 198 + p := ⟨k - 198, by omega⟩
    rw [ax_oc_pin, List.getElem?_eq_none (by omega)]
  · rcases (by omega : i < 198 ∨ 198 ≤ i) with h1 | h1 <;> rcases (by omega : k < 198 ∨ 198 ≤ k) with h2 | h2
    · rw [lt i h1, lt k h2] at he
      exact he
    · obtain ⟨p, rfl⟩ : ∃ p, k = 198 + p := ⟨k - 198, by omega⟩
      obtain ⟨j, q1, -⟩ := get p (by omega)
      have := (js6 p j q1).1
      rw [lt i h1] at he
      omega
    · obtain ⟨p, rfl⟩ : ∃ p, i = 198 + p := ⟨i - 198, by omega⟩
      obtain ⟨j, q1, -⟩ := get p (by omega)
      have := (js6 p j q1).1
      rw [lt k h2] at he
      omega
    · obtain ⟨p, rfl⟩ : ∃ p, i = 198 + p := ⟨i - 198, by omega⟩
      obtain ⟨q, rfl⟩ : ∃ q, k = 198 + q := ⟨k - 198, by omega⟩
      obtain ⟨j1, a1, a2, a3⟩ := get p (by omega)
      obtain ⟨j2, b1, b2, b3⟩ := get q (by omega)
      rw [ax_oc_of_js a1, ax_oc_of_js b1] at he
      have e := w3 j1 j2 a3 b3 he
      subst e
      have hpl : p < js.length := by omega
      have := (List.getElem?_inj hpl hd).mp (a1.trans b1.symm)
      omega
  · rw [ax_oc_G]
    rcases (by omega : i < 198 ∨ 198 ≤ i) with h1 | h1
    · rw [lt i h1]
      omega
    · obtain ⟨p, rfl⟩ : ∃ p, i = 198 + p := ⟨i - 198, by omega⟩
      obtain ⟨j, q1, -⟩ := get p (by omega)
      have := (js6 p j q1).2
      omega
  · obtain ⟨p, rfl⟩ : ∃ p, k = 198 + p := ⟨k - 198, by omega⟩
    cases hp : js[p]? with
    | some j => exact (js6 p j hp).1
    | none => rw [ax_oc_of_hi hp]; omega
  · rw [ax_oc_G, ax_oc_GE]
    omega
  · rintro ⟨q1, q2, q3⟩
    rcases (by omega : i < 198 ∨ 198 ≤ i) with h1 | h1
    · rw [lt i h1] at q1
      omega
    · obtain ⟨p, rfl⟩ : ∃ p, i = 198 + p := ⟨i - 198, by omega⟩
      obtain ⟨j, r1, -⟩ := get p (by omega)
      refine q3 p ?_
      rw [ax_oc_pinE, r1, ax_oc_of_js r1]
theorem ax_oc_RG {b q : Nat} (hn : 198 ≤ n) (hW : ax_W o n) (hj : ∀ j ∈ js, 198 ≤ j ∧ j < n) (h : ax_RG b (ax_oc o n js) q) : ax_RG b o q := by
  obtain ⟨w1, w2, w3, w4, w5, w6, w7, w8⟩ := hW
  obtain ⟨h1, h2⟩ := h
  refine ⟨h1, fun h3 => h2 ?_⟩
  obtain ⟨a1, a2, a3⟩ := id h3
  have := w7 hn
  refine ⟨a1, by rw [ax_oc_GE]; omega, fun k => ?_⟩
  rw [ax_oc_pinE]
  cases hp : js[k]? with
  | none => show (0 : Nat) ≠ _; omega
  | some j =>
    intro e
    have e2 : ax_of o j = q - b := by
      have : ax_of o j + 1 = q - b + 1 := e
      omega
    have := w8 j (hj j (List.mem_of_getElem? hp)).2
    rw [e2] at this
    exact this h3
theorem ax_oc_not {b k : Nat} (hn : 198 ≤ n) (hW : ax_W o n) (hj : ∀ j ∈ js, 198 ≤ j ∧ j < n) (hk : 198 ≤ k) (hk2 : k < n) (hk3 : k ∉ js) : ¬ ax_RG b (ax_oc o n js) (b + ax_of o k) := by
  obtain ⟨w1, w2, w3, w4, w5, w6, w7, w8⟩ := hW
  rintro ⟨-, h⟩
  rw [Nat.add_sub_cancel_left] at h
  refine h ⟨w6 k hk, by rw [ax_oc_GE]; have := w4 k hk2; omega, fun p e => ?_⟩
  rw [ax_oc_pinE] at e
  cases hp : js[p]? with
  | none => rw [hp] at e; cases e
  | some j =>
    rw [hp] at e
    have e2 : ax_of o j = ax_of o k := by
      have : ax_of o j + 1 = ax_of o k + 1 := e
      omega
    have hm := List.mem_of_getElem? hp
    exact hk3 (by rw [← w3 j k (hj j hm).2 hk2 e2]; exact hm)
theorem ax_oc_nm {m : UInt32} {i : Int32} : ax_nm (ax_oc o n js) m i ↔ ax_nm o m i := by
  unfold ax_nm
  constructor
  · intro h h1
    rw [← ax_oc_lo (o := o) (n := n) (js := js) ax_bs_lt (by unfold ax_bs; omega) (by unfold ax_bs; omega)]
    exact h h1
  · intro h h1
    rw [ax_oc_lo ax_bs_lt (by unfold ax_bs; omega) (by unfold ax_bs; omega)]
    exact h h1
theorem ax_oc_ga {b g a : Nat} : ax_ga b (ax_oc o n js) g a ↔ ax_ga b o g a := by
  unfold ax_ga
  constructor
  · rintro (h | ⟨c, h1, h2, h3⟩)
    · exact Or.inl h
    · exact Or.inr ⟨c, by rw [← ax_oc_of_lt (o := o) (n := n) (js := js) (ax_gm_lt h3)]; exact h1, h2, h3⟩
  · rintro (h | ⟨c, h1, h2, h3⟩)
    · exact Or.inl h
    · exact Or.inr ⟨c, by rw [ax_oc_of_lt (ax_gm_lt h3)]; exact h1, h2, h3⟩
theorem ax_oc_ad {b a : Nat} (h : a < 198 ∨ 1000000000 ≤ a) (h2 : (a - 1000000000) % 1000 ≠ 999) (h3 : (a - 1000000000) % 1000 ≠ 998) : ax_ad b (ax_oc o n js) a = ax_ad b o a := by
  unfold ax_ad
  split
  · rw [ax_oc_of_lt (by omega)]
  · exact ax_oc_lo (by omega) h2 h3
end AXOC
section AXOV
variable {b : Nat} {o : Nat → Nat} {n : Nat} {js : List Nat} {D : va_G}
theorem ax_oc_v {x v : Value} (hx : ax_low x = true) : ax_v b (ax_oc o n js) x v ↔ ax_v b o x v := by
  cases x with
  | ref a =>
    obtain ⟨h1, h2, h3⟩ := ax_lowa_ok hx
    simp only [ax_v, ax_oc_ad h1 h2 h3]
  | float m => simp only [ax_v, ax_oc_nm]
  | retAddr g => simp only [ax_v, ax_oc_ga]
  | int j => exact Iff.rfl
  | long j => exact Iff.rfl
  | double j => exact Iff.rfl
  | null => exact Iff.rfl
theorem ax_oc_tr {x v : Value} (hx : ax_trk js x = true) (hj : ∀ j ∈ js, 198 ≤ j ∧ j < 1000000000) (hjl : js.length < 900000000) (h : ax_v b o x v) : ax_v b (ax_oc o n js) (ax_tr js x) v := by
  cases x with
  | ref a =>
    simp only [ax_tr]
    cases hl : ax_lowa a with
    | true =>
      rw [if_pos rfl]
      exact (ax_oc_v (x := .ref a) hl).mpr h
    | false =>
      rw [if_neg (by simp)]
      simp only [ax_trk, hl, Bool.false_or, List.any_eq_true] at hx
      obtain ⟨j, h1, h2⟩ := hx
      have e := Nat.eq_of_beq_eq_true h2
      subst e
      have hi : js.idxOf j < js.length := List.idxOf_lt_length_of_mem h1
      have hg : js[js.idxOf j]? = some j := by
        rw [List.getElem?_eq_getElem hi, List.getElem_idxOf]
      have h3 : v = .ref (ax_ad b o j) := h
      show v = .ref (ax_ad b (ax_oc o n js) (198 + js.idxOf j))
      rw [h3, ax_ad_lt (hj j h1).2]
      have hb : 198 + js.idxOf j < 1000000000 ∨ ¬ 198 + js.idxOf j < 1000000000 := by omega
      unfold ax_ad
      rcases hb with hb | hb
      · rw [if_pos hb, ax_oc_of_js hg]
      · exfalso
        omega
  | float m => exact (ax_oc_v (x := .float m) rfl).mpr h
  | retAddr g => exact (ax_oc_v (x := .retAddr g) rfl).mpr h
  | int j => exact h
  | long j => exact h
  | double j => exact h
  | null => exact h
theorem ax_oc_c {q : Nat × List Value} {cell : Cell} (hq : q.2.all ax_low = true) : ax_c D b (ax_oc o n js) q cell ↔ ax_c D b o q cell := by
  unfold ax_c
  constructor
  · rintro (h | ⟨h1, h2, h3, h4⟩)
    · exact Or.inl h
    · refine Or.inr ⟨h1, h2, h3, fun k x hx => ?_⟩
      obtain ⟨v, a1, a2⟩ := h4 k x hx
      exact ⟨v, a1, (ax_oc_v (List.all_eq_true.mp hq x (List.mem_of_getElem? hx))).mp a2⟩
  · rintro (h | ⟨h1, h2, h3, h4⟩)
    · exact Or.inl h
    · refine Or.inr ⟨h1, h2, h3, fun k x hx => ?_⟩
      obtain ⟨v, a1, a2⟩ := h4 k x hx
      exact ⟨v, a1, (ax_oc_v (List.all_eq_true.mp hq x (List.mem_of_getElem? hx))).mpr a2⟩
theorem ax_oc_O {s : State} {r : ax_H} {H : Heap} (hr : ax_lowh r = true) (hl : r.length < 900) (h : ax_O s b o r H) : ax_O s b (ax_oc o n js) r H := by
  intro k q hq
  obtain ⟨a1, t, ty, cell, a2, a3, a4, a5, a6, a7, a8, a9⟩ := h k q hq
  have hk := (List.getElem?_eq_some_iff.mp hq).1
  have e : ax_oc o n js k = o k := ax_oc_lo (by omega) (by omega) (by omega)
  refine ⟨by rw [e]; exact a1, t, ty, cell, a2, a3, by rw [e]; exact a4, a5, a6, a7, a8, fun j x hx => ?_⟩
  obtain ⟨v, b1, b2⟩ := a9 j x hx
  exact ⟨v, b1, (ax_oc_v (List.all_eq_true.mp (List.all_eq_true.mp hr q (List.mem_of_getElem? hq)) x (List.mem_of_getElem? hx))).mpr b2⟩
theorem ax_oc_T {ns : ax_NS} {r : ax_H} {U : State} (hr : ax_lowh r = true) (hl : r.length < 900) (h : ax_T ns r D b o U) : ax_T ns r D b (ax_oc o n js) U := by
  obtain ⟨h1, h2, h3, h4, h5, h6, h7, h8, h10, h9⟩ := h
  refine ⟨h1, h2, h3, h4, h5, h6, fun q hq => ?_, ax_oc_O hr hl h8, h10, h9⟩
  obtain ⟨v, hv, hZ⟩ := h7 q hq
  refine ⟨v, ?_, hZ⟩
  have hlow : ∀ q ∈ ax_stat, ax_low q.2.2.2 = true := by decide
  exact (ax_oc_v (hlow q hq)).mpr hv
/-- the callee's heap -/
def ax_hc (h : ax_H) (js : List Nat) : ax_H := h.take 198 ++ js.map (fun j => h.getD j (99, []))
theorem ax_oc_R {h : ax_H} {H : Heap} (hn : 198 ≤ h.length) (hj : ∀ j ∈ js, 198 ≤ j ∧ j < h.length) (hd : js.Nodup) (hl : 198 + js.length ≤ h.length) (hlow : ax_lowh (ax_hc h js) = true) (hR : ax_R D b o h H) : ax_R D b (ax_oc o h.length js) (ax_hc h js) H := by
  obtain ⟨r1, r2, r3⟩ := hR
  have hlen : (ax_hc h js).length = 198 + js.length := by
    unfold ax_hc
    rw [List.length_append, List.length_take, List.length_map]
    omega
  refine ⟨by rw [r1, hlen, ax_oc_G]; omega, fun k q hq => ?_, by rw [hlen]; exact ax_oc_W hn r3 hj hd hl⟩
  have hql := List.all_eq_true.mp hlow q (List.mem_of_getElem? hq)
  rcases (by omega : k < 198 ∨ 198 ≤ k) with hk | hk
  · have hq2 : h[k]? = some q := by
      unfold ax_hc at hq
      rw [List.getElem?_append_left (by rw [List.length_take]; omega), List.getElem?_take, if_pos hk] at hq
      exact hq
    obtain ⟨cell, a1, a2⟩ := r2 k q hq2
    exact ⟨cell, by rw [ax_oc_of_lt hk]; exact a1, (ax_oc_c hql).mpr a2⟩
  · obtain ⟨p, rfl⟩ : ∃ p, k = 198 + p := ⟨k - 198, by omega⟩
    unfold ax_hc at hq
    rw [List.getElem?_append_right (by rw [List.length_take]; omega), List.length_take, show 198 + p - min 198 h.length = p from by omega, List.getElem?_map] at hq
    cases hp : js[p]? with
    | none => rw [hp] at hq; cases hq
    | some j =>
      rw [hp] at hq
      simp only [Option.map_some, Option.some.injEq] at hq
      have hjl := (hj j (List.mem_of_getElem? hp)).2
      have hq2 : h[j]? = some q := by
        rw [List.getD_eq_getElem?_getD, List.getElem?_eq_getElem hjl] at hq
        rw [List.getElem?_eq_getElem hjl]
        exact congrArg some hq
      obtain ⟨cell, a1, a2⟩ := r2 j q hq2
      exact ⟨cell, by rw [ax_oc_of_js hp]; exact a1, (ax_oc_c hql).mpr a2⟩
/-- the caller's heap behind the call: what the callee had is as it left it, the rest as it was; what else it made is of no use -/
def ax_bk (h : ax_H) (js : List Nat) (h' : ax_H) (k : Nat) : Nat × List Value :=
  if k < 198 then h'.getD k (99, []) else if k < h.length then (match js.idxOf? k with | some p => h'.getD (198 + p) (99, []) | none => h.getD k (99, [])) else (99, [])
def ax_back (h : ax_H) (js : List Nat) (h' : ax_H) : ax_H := (List.range (h.length + (h'.length - 198 - js.length))).map (ax_bk h js h')
theorem ax_W.add {n : Nat} : ∀ {m : Nat}, ax_W o n → ax_W o (n + m)
  | 0, h => h
  | m + 1, h => (ax_W.add (m := m) h).succ
theorem ax_back_R {h h' : ax_H} {H H' : Heap} (hn : 198 ≤ h.length) (hj : ∀ j ∈ js, 198 ≤ j ∧ j < h.length) (hl : 198 + js.length ≤ h.length) (hl2 : 198 + js.length ≤ h'.length) (hlow : ax_lowh (h'.take (198 + js.length)) = true) (hR : ax_R D b o h H) (hR' : ax_R D b (ax_oc o h.length js) h' H')
    (hF : H.size ≤ H'.size ∧ ∀ q : Nat, q < H.size → ¬ ax_RG b (ax_oc o h.length js) q → H'[q]? = H[q]?) : ax_R D b o (ax_back h js h') H' := by
  obtain ⟨r1, r2, r3⟩ := hR
  obtain ⟨s1, s2, s3⟩ := hR'
  rw [ax_oc_G] at s1
  have hlen : (ax_back h js h').length = h.length + (h'.length - 198 - js.length) := by
    unfold ax_back
    rw [List.length_map, List.length_range]
  refine ⟨by rw [s1, hlen]; omega, fun k q hq => ?_, by rw [hlen]; exact r3.add⟩
  have hk : k < h.length + (h'.length - 198 - js.length) := by
    rw [← hlen]
    exact (List.getElem?_eq_some_iff.mp hq).1
  have hq2 : q = ax_bk h js h' k := by
    unfold ax_back at hq
    rw [List.getElem?_map, List.getElem?_range hk] at hq
    simp only [Option.map_some, Option.some.injEq] at hq
    exact hq.symm
  have lowk : ∀ i q, i < 198 + js.length → h'[i]? = some q → q.2.all ax_low = true := fun i q hi h1 => by
    refine List.all_eq_true.mp hlow q (List.mem_of_getElem? (i := i) ?_)
    rw [List.getElem?_take, if_pos hi]
    exact h1
  unfold ax_bk at hq2
  by_cases h1 : k < 198
  · rw [if_pos h1] at hq2
    have h2 : h'[k]? = some q := by
      rw [hq2, List.getD_eq_getElem?_getD, List.getElem?_eq_getElem (by omega)]
      rfl
    obtain ⟨cell, a1, a2⟩ := s2 k q h2
    exact ⟨cell, by rw [← ax_oc_of_lt (o := o) (n := h.length) (js := js) h1]; exact a1, (ax_oc_c (lowk k q (by omega) h2)).mp a2⟩
  · rw [if_neg h1] at hq2
    by_cases h2 : k < h.length
    · rw [if_pos h2] at hq2
      cases hi : js.idxOf? k with
      | some p =>
        rw [hi] at hq2
        have hp : js[p]? = some k := by
          obtain ⟨a1, a2, -⟩ := List.idxOf?_eq_some_iff.mp hi
          rw [List.getElem?_eq_getElem a1]
          exact congrArg some (by simpa using a2)
        have hpl := (List.getElem?_eq_some_iff.mp hp).1
        have hq3 : q = h'.getD (198 + p) (99, []) := hq2
        have h3 : h'[198 + p]? = some q := by
          rw [hq3, List.getD_eq_getElem?_getD, List.getElem?_eq_getElem (by omega)]
          rfl
        obtain ⟨cell, a1, a2⟩ := s2 _ q h3
        rw [ax_oc_of_js hp] at a1
        exact ⟨cell, a1, (ax_oc_c (lowk _ q (by omega) h3)).mp a2⟩
      | none =>
        rw [hi] at hq2
        have hq3 : q = h.getD k (99, []) := hq2
        have h3 : h[k]? = some q := by
          rw [hq3, List.getD_eq_getElem?_getD, List.getElem?_eq_getElem h2]
          rfl
        obtain ⟨cell, a1, a2⟩ := r2 k q h3
        refine ⟨cell, ?_, a2⟩
        rw [hF.2 _ (Array.getElem?_eq_some_iff.mp a1).1 (ax_oc_not hn r3 hj (by omega) h2 (List.idxOf?_eq_none_iff.mp hi))]
        exact a1
    · rw [if_neg h2] at hq2
      have h3 : ax_of o k = k + o 999 := by
        obtain ⟨w1, w2, -⟩ := r3
        unfold ax_of
        rw [w2 k (by omega)]
        show (if k < 198 then k else k + o 999) = _
        rw [if_neg h1]
      have h4 : b + ax_of o k < H'.size := by omega
      exact ⟨H'[b + ax_of o k], Array.getElem?_eq_getElem h4, Or.inl (by rw [hq2])⟩
end AXOV
