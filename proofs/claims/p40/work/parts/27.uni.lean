/-! INDICES KNOWN BY THEIR INTERVAL, REFERENCES KNOWN BY THEIR GROUP -/
theorem ax_le_refl (x : Value) : ax_le x x = true := by
  cases x <;> simp [ax_le]
theorem ax_les_refl : ∀ xs : List Value, ax_les xs xs = true
  | [] => rfl
  | x :: xs => by simp only [ax_les, ax_le_refl, ax_les_refl xs, Bool.and_self]
theorem ax_leh_refl : ∀ h : ax_H, ax_leh h h = true
  | [] => rfl
  | q :: h => by simp [ax_leh, ax_lec, ax_les_refl, ax_leh_refl h]
theorem ax_les_set : ∀ {vs : List Value} {j : Nat} {x y : Value}, vs[j]? = some y → ax_le y x = true → ax_les vs (vs.set j x) = true
  | [], j, x, y, h, _ => by simp at h
  | v :: vs, 0, x, y, h, hl => by
    cases h
    simp only [List.set_cons_zero, ax_les, hl, ax_les_refl, Bool.and_self]
  | v :: vs, j + 1, x, y, h, hl => by
    simp only [List.set_cons_succ, ax_les, ax_le_refl, ax_les_set (vs := vs) (j := j) h hl, Bool.and_self]
theorem ax_leh_set : ∀ {h : ax_H} {a t : Nat} {vs ws : List Value}, h[a]? = some (t, vs) → ax_les vs ws = true → ax_leh h (h.set a (t, ws)) = true
  | [], a, t, vs, ws, h, _ => by simp at h
  | q :: hh, 0, t, vs, ws, h, hl => by
    cases h
    simp [ax_leh, ax_lec, hl, ax_leh_refl]
  | q :: hh, a + 1, t, vs, ws, h, hl => by
    have h1 := ax_leh_set (h := hh) (a := a) h hl
    simp [ax_leh, ax_lec, ax_les_refl, h1]
/-- the members of a group -/
def ax_gl (g : Nat) : List Nat := (ax_grs.getD g []).flatMap (fun q => (List.range q.2.2).map (fun k => q.1 + q.2.1 * k))
theorem ax_gm_in {g c : Nat} (h : ax_gm g c = true) : c ∈ ax_gl g := by
  unfold ax_gm at h
  simp only [List.any_eq_true, Bool.and_eq_true] at h
  obtain ⟨q, h1, h2, h3, h4⟩ := h
  have h2 := Nat.le_of_ble_eq_true h2
  have h3 := Nat.eq_of_beq_eq_true h3
  have h4 : (c - q.1) / q.2.1 + 1 ≤ q.2.2 := Nat.le_of_ble_eq_true h4
  refine List.mem_flatMap.mpr ⟨q, h1, List.mem_map.mpr ⟨(c - q.1) / q.2.1, List.mem_range.mpr h4, ?_⟩⟩
  have := Nat.div_add_mod (c - q.1) q.2.1
  omega
section AXUN
variable {ns : ax_NS} {l : Launch} {k : ax_M} {d : Nat} {r : ax_H} {P : ax_P} {X : ax_PX} {pc : Nat} {lv : List (Nat × Value)} {st pre : List Value} {h : ax_H} {bc bs : Nat}
/-- of a value of the stack: for each that it may be -/
theorem AR.each {x : Value} {S : Value → Prop} (hx : ∀ b o v, ax_v b o x v → ∃ y, S y ∧ ax_v b o y v) (K : ∀ y, S y → AR ns l k d r P X pc lv (pre ++ y :: st) h bc bs) : AR ns l k d r P X pc lv (pre ++ x :: st) h bc bs := by
  intro D b o TC TS p e R s m args below meth c Z hX hP hXX lvc ls stc H locs cells slots hG
  obtain ⟨g1, g2, g3, g4, g5, g6, g7⟩ := hG
  obtain ⟨v1, v2, rfl, hv1, v, t, rfl, hv, ht⟩ := ax_vs_split g3
  obtain ⟨y, hy, hv'⟩ := hx b o v hv
  exact K y hy D b o TC TS p e R s m args below meth c Z hX hP hXX lvc ls _ H locs cells slots ⟨g1, g2, ax_vs_app hv1 ⟨v, t, rfl, hv', ht⟩, g4, g5, g6, g7⟩
theorem AR.eachI {x : Value} (hx : ax_isI x = true) (K : ∀ i, ax_vi x i → AR ns l k d r P X pc lv (pre ++ .int i :: st) h bc bs) : AR ns l k d r P X pc lv (pre ++ x :: st) h bc bs := by
  refine AR.each (S := fun y => ∃ i, y = .int i ∧ ax_vi x i) (fun b o v hv => ?_) (fun y hy => by obtain ⟨i, rfl, hi⟩ := hy; exact K i hi)
  cases x <;> simp only [ax_isI] at hx
  case int i => exact ⟨_, ⟨i, rfl, rfl⟩, hv⟩
  case float n => obtain ⟨i, h1, h2, -⟩ := hv; exact ⟨_, ⟨i, rfl, h2⟩, h1⟩
  all_goals cases hx
theorem AR.eachG {g : Nat} (K : ∀ c ∈ ax_gl g, c < 198 → AR ns l k d r P X pc lv (pre ++ .ref c :: st) h bc bs) : AR ns l k d r P X pc lv (pre ++ .retAddr (g + 1) :: st) h bc bs := by
  refine AR.each (S := fun y => ∃ c, y = .ref c ∧ ax_gm g c = true) (fun b o v hv => ?_) (fun y hy => by obtain ⟨c, rfl, hc⟩ := hy; exact K c (ax_gm_in hc) (ax_gm_lt hc))
  obtain ⟨a, rfl, h1 | ⟨c, h1, h2, h3⟩⟩ := hv
  · exact absurd h1 (Nat.succ_ne_zero g)
  · exact ⟨.ref c, ⟨c, rfl, h3⟩, by show Value.ref a = .ref (ax_ad b o c); rw [ax_ad_lt h2, h1]⟩
theorem AR.topv {x y : Value} (hl : ax_le x y = true) (K : AR ns l k d r P X pc lv (x :: st) h bc bs) : AR ns l k d r P X pc lv (y :: st) h bc bs := AR.top (fun _ _ _ hv => ax_le_ok hl hv) K
theorem AR.heapv {h' : ax_H} (hl : ax_leh h' h = true) (K : AR ns l k d r P X pc lv st h' bc bs) : AR ns l k d r P X pc lv st h bc bs := by
  intro D b o TC TS p e R s m args below meth c Z hX hP hXX lvc ls stc H locs cells slots hG
  obtain ⟨g1, g2, g3, g4, g5, g6, g7⟩ := hG
  exact K D b o TC TS p e R s m args below meth c Z hX hP hXX lvc ls stc H locs cells slots ⟨g1, g2, g3, ax_leh_ok hl g4, g5, g6, g7⟩
theorem ax_idx {x : Value} {p : Int × Int} {n : Nat} {i : Int32} (hx : ax_rn x = some p) (h0 : 0 ≤ p.1) (h1 : p.2 < n) (hi : ax_vi x i) : ¬ i < 0 ∧ i.toNatClampNeg < n := by
  have h2 := ax_rn_ok hi hx
  have z0 : (0 : Int32).toInt = 0 := by decide
  refine ⟨fun h3 => ?_, ?_⟩
  · rw [Int32.lt_iff_toInt_lt, z0] at h3
    omega
  · show i.toInt.toNat < n
    omega
/-- all of an array's values say this much -/
def ax_uni (z : Value) (vs : List Value) : Bool := vs.all (fun y => ax_le z y)
theorem AR.ialoadU {a : Nat} {x z : Value} {p : Int × Int} {vs : List Value} (hd : decode k.2.1 pc = .ok (.iaload, 1)) (hg : ax_get r h a = some (100, vs)) (hx : ax_rn x = some p) (h0 : 0 ≤ p.1) (h1 : p.2 < vs.length) (hu : ax_uni z vs = true) (K : AR ns l k d r P X (pc + 1) lv (z :: st) h bc bs) : AR ns l k d r P X pc lv (x :: .ref a :: st) h bc bs :=
  AR.split (ax_rn_I hx) (fun i hi => by
    obtain ⟨q1, q2⟩ := ax_idx hx h0 h1 hi
    exact AR.iaload hd hg q1 (List.getElem?_eq_getElem q2) (AR.topv (List.all_eq_true.mp hu _ (List.getElem_mem q2)) K))
theorem AR.laloadU {a : Nat} {x z : Value} {p : Int × Int} {vs : List Value} (hd : decode k.2.1 pc = .ok (.laload, 1)) (hg : ax_get r h a = some (101, vs)) (hx : ax_rn x = some p) (h0 : 0 ≤ p.1) (h1 : p.2 < vs.length) (hu : ax_uni z vs = true) (K : AR ns l k d r P X (pc + 1) lv (z :: st) h bc bs) : AR ns l k d r P X pc lv (x :: .ref a :: st) h bc bs :=
  AR.split (ax_rn_I hx) (fun i hi => by
    obtain ⟨q1, q2⟩ := ax_idx hx h0 h1 hi
    exact AR.laload hd hg q1 (List.getElem?_eq_getElem q2) (AR.topv (List.all_eq_true.mp hu _ (List.getElem_mem q2)) K))
theorem AR.zaloadU {a : Nat} {x z : Value} {p : Int × Int} {vs : List Value} (hd : decode k.2.1 pc = .ok (.baload, 1)) (hg : ax_get r h a = some (102, vs)) (hx : ax_rn x = some p) (h0 : 0 ≤ p.1) (h1 : p.2 < vs.length) (hu : ax_uni z vs = true) (K : AR ns l k d r P X (pc + 1) lv (z :: st) h bc bs) : AR ns l k d r P X pc lv (x :: .ref a :: st) h bc bs :=
  AR.split (ax_rn_I hx) (fun i hi => by
    obtain ⟨q1, q2⟩ := ax_idx hx h0 h1 hi
    exact AR.zaload hd hg q1 (List.getElem?_eq_getElem q2) (AR.topv (List.all_eq_true.mp hu _ (List.getElem_mem q2)) K))
theorem AR.aaloadU {a t : Nat} {ty : FieldType} {x z : Value} {p : Int × Int} {vs : List Value} (hd : decode k.2.1 pc = .ok (.aaload, 1)) (ht : ax_tys[t]? = some ty) (hr : ty.isReference = true) (hg : ax_get r h a = some (100 + t, vs)) (hx : ax_rn x = some p) (h0 : 0 ≤ p.1) (h1 : p.2 < vs.length) (hu : ax_uni z vs = true) (K : AR ns l k d r P X (pc + 1) lv (z :: st) h bc bs) : AR ns l k d r P X pc lv (x :: .ref a :: st) h bc bs :=
  AR.split (ax_rn_I hx) (fun i hi => by
    obtain ⟨q1, q2⟩ := ax_idx hx h0 h1 hi
    exact AR.aaload hd ht hr hg q1 (List.getElem?_eq_getElem q2) (AR.topv (List.all_eq_true.mp hu _ (List.getElem_mem q2)) K))
/-- a value that fits whatever is said of each -/
def ax_unw (vs : List Value) (v : Value) : Bool := vs.all (fun y => ax_le y v)
theorem ax_unw_set {vs : List Value} {v : Value} {a t j : Nat} (ha : h[a]? = some (t, vs)) (hj : j < vs.length) (hu : ax_unw vs v = true) : ax_leh h (h.set a (t, vs.set j v)) = true :=
  ax_leh_set ha (ax_les_set (List.getElem?_eq_getElem hj) (List.all_eq_true.mp hu _ (List.getElem_mem hj)))
theorem AR.iastoreU {a : Nat} {v x : Value} {p : Int × Int} {vs : List Value} (hd : decode k.2.1 pc = .ok (.iastore, 1)) (ha : a < 1000000000) (hg : h[a]? = some (100, vs)) (hx : ax_rn x = some p) (h0 : 0 ≤ p.1) (h1 : p.2 < vs.length) (ht : ax_isI v = true) (hu : ax_unw vs v = true) (K : AR ns l k d r P X (pc + 1) lv st h bc bs) : AR ns l k d r P X pc lv (v :: x :: .ref a :: st) h bc bs :=
  AR.eachI (pre := [v]) (ax_rn_I hx) (fun i hi => by
    obtain ⟨q1, q2⟩ := ax_idx hx h0 h1 hi
    exact AR.iastore hd ha hg q1 q2 ht (AR.heapv (ax_unw_set hg q2 hu) K))
theorem AR.lastoreU {a : Nat} {v x : Value} {p : Int × Int} {vs : List Value} (hd : decode k.2.1 pc = .ok (.lastore, 1)) (ha : a < 1000000000) (hg : h[a]? = some (101, vs)) (hx : ax_rn x = some p) (h0 : 0 ≤ p.1) (h1 : p.2 < vs.length) (ht : ax_isL v = true) (hu : ax_unw vs v = true) (K : AR ns l k d r P X (pc + 1) lv st h bc bs) : AR ns l k d r P X pc lv (v :: x :: .ref a :: st) h bc bs :=
  AR.eachI (pre := [v]) (ax_rn_I hx) (fun i hi => by
    obtain ⟨q1, q2⟩ := ax_idx hx h0 h1 hi
    exact AR.lastore hd ha hg q1 q2 ht (AR.heapv (ax_unw_set hg q2 hu) K))
theorem AR.zastoreU {a : Nat} {v x : Value} {p : Int × Int} {vs : List Value} (hd : decode k.2.1 pc = .ok (.bastore, 1)) (ha : a < 1000000000) (hg : h[a]? = some (102, vs)) (hx : ax_rn x = some p) (h0 : 0 ≤ p.1) (h1 : p.2 < vs.length) (ht : ax_fit .boolean v = true) (hu : ax_unw vs v = true) (K : AR ns l k d r P X (pc + 1) lv st h bc bs) : AR ns l k d r P X pc lv (v :: x :: .ref a :: st) h bc bs :=
  AR.eachI (pre := [v]) (ax_rn_I hx) (fun i hi => by
    obtain ⟨q1, q2⟩ := ax_idx hx h0 h1 hi
    exact AR.zastore hd ha hg q1 q2 ht (AR.heapv (ax_unw_set hg q2 hu) K))
/-- a field of whichever of a group -/
theorem AR.getfieldG {ci j i g : Nat} {q : ax_Cl} {z : Value} (hd : decode k.2.1 pc = .ok (.getfield i, 3)) (hq : ax_cls[ci]? = some q) (hj : j < q.2.2.1) (hw : Cond.fieldLink k.1.cls i (q.2.1 j).1 (q.2.1 j).2.1 (q.2.1 j).2.2.1 ∈ ax_tb)
    (hu : (ax_gl g).all (fun c => match h[c]? with | some (t, vs) => Nat.beq t ci && (match vs[j]? with | some y => ax_le z y | none => false) | none => false) = true) (K : AR ns l k d r P X (pc + 3) lv (z :: st) h bc bs) : AR ns l k d r P X pc lv (.retAddr (g + 1) :: st) h bc bs :=
  AR.eachG (pre := []) (fun c hc hlt => by
    have h1 := List.all_eq_true.mp hu c hc
    cases he : h[c]? with
    | none => rw [he] at h1; cases h1
    | some tv =>
      obtain ⟨t, vs⟩ := tv
      rw [he] at h1
      simp only [Bool.and_eq_true] at h1
      have ht := Nat.eq_of_beq_eq_true h1.1
      subst ht
      cases hv : vs[j]? with
      | none => rw [hv] at h1; cases h1.2
      | some y =>
        rw [hv] at h1
        exact AR.getfield hd hq hj hw (by rw [ax_get_lt (by omega)]; exact he) hv (AR.topv h1.2 K))
/-- into a field of whichever of a group: what fits all of them leaves the heap as it is -/
theorem AR.putfieldG {ci j i g : Nat} {q : ax_Cl} {x : Value} (hd : decode k.2.1 pc = .ok (.putfield i, 3)) (hq : ax_cls[ci]? = some q) (hj : j < q.2.2.1) (hw : Cond.fieldLink k.1.cls i (q.2.1 j).1 (q.2.1 j).2.1 (q.2.1 j).2.2.1 ∈ ax_tb) (hfin : (q.2.1 j).2.2.2 = false) (hf : ax_fit (q.2.2.2 j) x = true)
    (hu : (ax_gl g).all (fun c => match h[c]? with | some (t, vs) => Nat.beq t ci && (Nat.beq vs.length q.2.2.1 && (match vs[j]? with | some y => ax_le y x | none => false)) | none => false) = true) (K : AR ns l k d r P X (pc + 3) lv st h bc bs) : AR ns l k d r P X pc lv (x :: .retAddr (g + 1) :: st) h bc bs :=
  AR.eachG (pre := [x]) (fun c hc hlt => by
    have h1 := List.all_eq_true.mp hu c hc
    cases he : h[c]? with
    | none => rw [he] at h1; cases h1
    | some tv =>
      obtain ⟨t, vs⟩ := tv
      rw [he] at h1
      simp only [Bool.and_eq_true] at h1
      have ht := Nat.eq_of_beq_eq_true h1.1
      subst ht
      cases hv : vs[j]? with
      | none => rw [hv] at h1; cases h1.2.2
      | some y =>
        rw [hv] at h1
        exact AR.putfield hd hq hj hw (Or.inl hfin) (by omega) he (Nat.eq_of_beq_eq_true h1.2.1) hf (AR.heapv (ax_leh_set he (ax_les_set hv h1.2.2)) K))
end AXUN
