/-! A CONTRACT FOR LITTLE SERVES WHERE THERE IS MORE: the cells 0 to 197 and some of the caller's others (js) are the callee's heap; the rest stays -/
def ax_oc (o : Nat → Nat) (n : Nat) (js : List Nat) : Nat → Nat := fun k =>
  if k = 999 then n + o 999 - 198 - js.length else
  if k = 998 then n + o 999 - 198 else
  if k < 1000000000 then o k else
  if k % 2 = 0 then (if k < 1000000396 then o k else match js[(k - 1000000396) / 2]? with | some j => ax_of o j + 1 | none => 0)
  else match js[(k - 1000000001) / 2]? with | some j => ax_of o j + 1 | none => 0
/-- no cell from 198 on -/
def ax_lowa (a : Nat) : Bool := Nat.blt a 198 || (Nat.ble 1000000000 a && Nat.blt a 1000000900)
theorem ax_lowa_ok {a : Nat} (h : ax_lowa a = true) : (a < 198 ∨ 1000000000 ≤ a) ∧ (a - 1000000000) % 1000 ≠ 999 ∧ (a - 1000000000) % 1000 ≠ 998 := by
  simp only [ax_lowa, Bool.or_eq_true, Bool.and_eq_true] at h
  rcases h with h | ⟨h1, h2⟩
  · have h3 : a + 1 ≤ 198 := Nat.le_of_ble_eq_true h
    omega
  · have h3 := Nat.le_of_ble_eq_true h1
    have h4 : a + 1 ≤ 1000000900 := Nat.le_of_ble_eq_true h2
    omega
/-- a value that names none of them -/
def ax_low (x : Value) : Bool := match x with
  | .ref a => ax_lowa a
  | _ => true
def ax_lowh (h : ax_H) : Bool := h.all (fun q => q.2.all ax_low)
/-- the caller's value, as the callee has it -/
def ax_tr (js : List Nat) (x : Value) : Value := match x with
  | .ref a => if ax_lowa a then .ref a else .ref (198 + js.idxOf a)
  | x => x
def ax_trk (js : List Nat) (x : Value) : Bool := match x with
  | .ref a => ax_lowa a || js.any (fun j => Nat.beq j a)
  | _ => true
theorem ax_gm_lt {g a : Nat} (h : ax_gm g a = true) : a < 198 := by
  unfold ax_gm at h
  simp only [List.any_eq_true, Bool.and_eq_true] at h
  obtain ⟨q, h1, h2, h3, h4⟩ := h
  have h2 := Nat.le_of_ble_eq_true h2
  have h3 := Nat.eq_of_beq_eq_true h3
  have h4 : (a - q.1) / q.2.1 + 1 ≤ q.2.2 := Nat.le_of_ble_eq_true h4
  have key : ∀ L ∈ ax_grs, ∀ q ∈ L, (q.2.1 = 1 ∨ q.2.1 = 2) ∧ q.1 + q.2.1 * (q.2.2 - 1) < 198 := by decide
  have hL : ax_grs.getD g [] ∈ ax_grs ∨ ax_grs.getD g [] = [] := by
    rw [List.getD_eq_getElem?_getD]
    cases he : ax_grs[g]? with
    | none => exact Or.inr rfl
    | some L => exact Or.inl (List.mem_of_getElem? he)
  rcases hL with hL | hL
  · obtain ⟨k1, k2⟩ := key _ hL q h1
    rcases k1 with k1 | k1 <;> rw [k1] at h3 h4 k2 <;> omega
  · rw [hL] at h1
    exact absurd h1 List.not_mem_nil
section AXOC
variable {o : Nat → Nat} {n : Nat} {js : List Nat}
theorem ax_oc_G : ax_oc o n js 999 = n + o 999 - 198 - js.length := rfl
theorem ax_oc_GE : ax_oc o n js 998 = n + o 999 - 198 := rfl
theorem ax_oc_lo {k : Nat} (h : k < 1000000000) (h1 : k ≠ 999) (h2 : k ≠ 998) : ax_oc o n js k = o k := by
  unfold ax_oc
  rw [if_neg h1, if_neg h2, if_pos h]
theorem ax_oc_pinl {k : Nat} (h : k < 198) : ax_oc o n js (1000000000 + 2 * k) = o (1000000000 + 2 * k) := by
  unfold ax_oc
  rw [if_neg (by omega), if_neg (by omega), if_neg (by omega), if_pos (by omega), if_pos (by omega)]
theorem ax_oc_pin {p : Nat} : ax_oc o n js (1000000000 + 2 * (198 + p)) = match js[p]? with | some j => ax_of o j + 1 | none => 0 := by
  unfold ax_oc
  rw [if_neg (by omega), if_neg (by omega), if_neg (by omega), if_pos (by omega), if_neg (by omega)]
  rw [show (1000000000 + 2 * (198 + p) - 1000000396) / 2 = p from by omega]
theorem ax_oc_pinE {p : Nat} : ax_oc o n js (1000000001 + 2 * p) = match js[p]? with | some j => ax_of o j + 1 | none => 0 := by
  unfold ax_oc
  rw [if_neg (by omega), if_neg (by omega), if_neg (by omega), if_neg (by omega)]
  rw [show (1000000001 + 2 * p - 1000000001) / 2 = p from by omega]
theorem ax_oc_of_lt {k : Nat} (h : k < 198) : ax_of (ax_oc o n js) k = ax_of o k := by
  unfold ax_of
  rw [ax_oc_pinl h]
  cases o (1000000000 + 2 * k) with
  | zero => show (if k < 198 then k else _) = (if k < 198 then k else _); rw [if_pos h, if_pos h]
  | succ p => rfl
theorem ax_oc_of_js {p j : Nat} (h : js[p]? = some j) : ax_of (ax_oc o n js) (198 + p) = ax_of o j := by
  have e : ax_of (ax_oc o n js) (198 + p) = match ax_oc o n js (1000000000 + 2 * (198 + p)) with | 0 => (if 198 + p < 198 then 198 + p else 198 + p + ax_oc o n js 999) | q + 1 => q := rfl
  rw [e, ax_oc_pin, h]
theorem ax_oc_of_hi {p : Nat} (h : js[p]? = none) : ax_of (ax_oc o n js) (198 + p) = 198 + p + (n + o 999 - 198 - js.length) := by
  have e : ax_of (ax_oc o n js) (198 + p) = match ax_oc o n js (1000000000 + 2 * (198 + p)) with | 0 => (if 198 + p < 198 then 198 + p else 198 + p + ax_oc o n js 999) | q + 1 => q := rfl
  rw [e, ax_oc_pin, h]
  show (if 198 + p < 198 then 198 + p else 198 + p + ax_oc o n js 999) = _
  rw [if_neg (by omega), ax_oc_G]
theorem ax_oc_W (hn : 198 ≤ n) (hW : ax_W o n) (hj : ∀ j ∈ js, 198 ≤ j ∧ j < n) (hd : js.Nodup) (hl : 198 + js.length ≤ n) : ax_W (ax_oc o n js) (198 + js.length) := by
  obtain ⟨w1, w2, w3, w4, w5, w6, w7, w8⟩ := hW
  have get : ∀ p, p < js.length → ∃ j, js[p]? = some j ∧ 198 ≤ j ∧ j < n := fun p hp => by
    refine ⟨js[p], List.getElem?_eq_getElem hp, hj _ (List.getElem_mem hp)⟩
  have lt : ∀ k, k < 198 → ax_of (ax_oc o n js) k = k := fun k hk => (ax_oc_of_lt hk).trans (w5 k hk)
  have js6 : ∀ p j, js[p]? = some j → 198 ≤ ax_of (ax_oc o n js) (198 + p) ∧ ax_of (ax_oc o n js) (198 + p) < n + o 999 := fun p j hp => by
    have h1 := hj j (List.mem_of_getElem? hp)
    rw [ax_oc_of_js hp]
    exact ⟨w6 j h1.1, w4 j h1.2⟩
  refine ⟨fun h => by omega, fun k hk => ?_, fun i k hi hk he => ?_, fun i hi => ?_, lt, fun k hk => ?_, fun _ => ?_, fun i hi => ?_⟩
  · obtain ⟨p, rfl⟩ : ∃ p, k = 198 + p := ⟨k - 198, by omega⟩
    rw [ax_oc_pin, List.getElem?_eq_none (by omega)]
  · rcases (by omega : i < 198 ∨ 198 ≤ i) with h1 | h1 <;> rcases (by omega : k < 198 ∨ 198 ≤ k) with h2 | h2
    · rw [lt i h1, lt k h2] at he
      exact he
    · obtain ⟨p, rfl⟩ : ∃ p, k = 198 + p := ⟨k - 198, by omega⟩
      obtain ⟨j, q1, -⟩ := get p (by omega)
      have := (js6 p j q1).1
      rw [lt i h1] at he
      omega
    · obtain ⟨p, rfl⟩ : ∃ p, i = 198 + p := ⟨i - 198, by omega⟩
      obtain ⟨j, q1, -⟩ := get p (by omega)
      have := (js6 p j q1).1
      rw [lt k h2] at he
      omega
    · obtain ⟨p, rfl⟩ : ∃ p, i = 198 + p := ⟨i - 198, by omega⟩
      obtain ⟨q, rfl⟩ : ∃ q, k = 198 + q := ⟨k - 198, by omega⟩
      obtain ⟨j1, a1, a2, a3⟩ := get p (by omega)
      obtain ⟨j2, b1, b2, b3⟩ := get q (by omega)
      rw [ax_oc_of_js a1, ax_oc_of_js b1] at he
      have e := w3 j1 j2 a3 b3 he
      subst e
      have hpl : p < js.length := by omega
      have := (List.getElem?_inj hpl hd).mp (a1.trans b1.symm)
      omega
  · rw [ax_oc_G]
    rcases (by omega : i < 198 ∨ 198 ≤ i) with h1 | h1
    · rw [lt i h1]
      omega
    · obtain ⟨p, rfl⟩ : ∃ p, i = 198 + p := ⟨i - 198, by omega⟩
      obtain ⟨j, q1, -⟩ := get p (by omega)
      have := (js6 p j q1).2
      omega
  · obtain ⟨p, rfl⟩ : ∃ p, k = 198 + p := ⟨k - 198, by omega⟩
    cases hp : js[p]? with
    | some j => exact (js6 p j hp).1
    | none => rw [ax_oc_of_hi hp]; omega
  · rw [ax_oc_G, ax_oc_GE]
    omega
  · rintro ⟨q1, q2, q3⟩
    rcases (by omega : i < 198 ∨ 198 ≤ i) with h1 | h1
    · rw [lt i h1] at q1
      omega
    · obtain ⟨p, rfl⟩ : ∃ p, i = 198 + p := ⟨i - 198, by omega⟩
      obtain ⟨j, r1, -⟩ := get p (by omega)
      refine q3 p ?_
      rw [ax_oc_pinE, r1, ax_oc_of_js r1]
theorem ax_oc_RG {b q : Nat} (hn : 198 ≤ n) (hW : ax_W o n) (hj : ∀ j ∈ js, 198 ≤ j ∧ j < n) (h : ax_RG b (ax_oc o n js) q) : ax_RG b o q := by
  obtain ⟨w1, w2, w3, w4, w5, w6, w7, w8⟩ := hW
  obtain ⟨h1, h2⟩ := h
  refine ⟨h1, fun h3 => h2 ?_⟩
  obtain ⟨a1, a2, a3⟩ := id h3
  have := w7 hn
  refine ⟨a1, by rw [ax_oc_GE]; omega, fun k => ?_⟩
  rw [ax_oc_pinE]
  cases hp : js[k]? with
  | none => show (0 : Nat) ≠ _; omega
  | some j =>
    intro e
    have e2 : ax_of o j = q - b := by
      have : ax_of o j + 1 = q - b + 1 := e
      omega
    have := w8 j (hj j (List.mem_of_getElem? hp)).2
    rw [e2] at this
    exact this h3
theorem ax_oc_not {b k : Nat} (hn : 198 ≤ n) (hW : ax_W o n) (hj : ∀ j ∈ js, 198 ≤ j ∧ j < n) (hk : 198 ≤ k) (hk2 : k < n) (hk3 : k ∉ js) : ¬ ax_RG b (ax_oc o n js) (b + ax_of o k) := by
  obtain ⟨w1, w2, w3, w4, w5, w6, w7, w8⟩ := hW
  rintro ⟨-, h⟩
  rw [Nat.add_sub_cancel_left] at h
  refine h ⟨w6 k hk, by rw [ax_oc_GE]; have := w4 k hk2; omega, fun p e => ?_⟩
  rw [ax_oc_pinE] at e
  cases hp : js[p]? with
  | none => rw [hp] at e; cases e
  | some j =>
    rw [hp] at e
    have e2 : ax_of o j = ax_of o k := by
      have : ax_of o j + 1 = ax_of o k + 1 := e
      omega
    have hm := List.mem_of_getElem? hp
    exact hk3 (by rw [← w3 j k (hj j hm).2 hk2 e2]; exact hm)
theorem ax_oc_nm {m : UInt32} {i : Int32} : ax_nm (ax_oc o n js) m i ↔ ax_nm o m i := by
  unfold ax_nm
  constructor
  · intro h h1
    rw [← ax_oc_lo (o := o) (n := n) (js := js) ax_bs_lt (by unfold ax_bs; omega) (by unfold ax_bs; omega)]
    exact h h1
  · intro h h1
    rw [ax_oc_lo ax_bs_lt (by unfold ax_bs; omega) (by unfold ax_bs; omega)]
    exact h h1
theorem ax_oc_ga {b g a : Nat} : ax_ga b (ax_oc o n js) g a ↔ ax_ga b o g a := by
  unfold ax_ga
  constructor
  · rintro (h | ⟨c, h1, h2, h3⟩)
    · exact Or.inl h
    · exact Or.inr ⟨c, by rw [← ax_oc_of_lt (o := o) (n := n) (js := js) (ax_gm_lt h3)]; exact h1, h2, h3⟩
  · rintro (h | ⟨c, h1, h2, h3⟩)
    · exact Or.inl h
    · exact Or.inr ⟨c, by rw [ax_oc_of_lt (ax_gm_lt h3)]; exact h1, h2, h3⟩
theorem ax_oc_ad {b a : Nat} (h : a < 198 ∨ 1000000000 ≤ a) (h2 : (a - 1000000000) % 1000 ≠ 999) (h3 : (a - 1000000000) % 1000 ≠ 998) : ax_ad b (ax_oc o n js) a = ax_ad b o a := by
  unfold ax_ad
  split
  · rw [ax_oc_of_lt (by omega)]
  · exact ax_oc_lo (by omega) h2 h3
end AXOC
