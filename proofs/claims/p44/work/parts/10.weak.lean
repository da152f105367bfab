/-! LESS PRECISE STATES -/
/-- x says no more than y -/
def ax_le (x y : Value) : Bool := match x, y with
  | .float n, .int i => decide (n.toNat < 1000) && (decide ((ax_rg n).1 ≤ i.toInt) && decide (i.toInt ≤ (ax_rg n).2))
  | .float n, .float m => decide (n = m) || ((decide (n.toNat < 1000) || decide (n.toNat / 1000 = m.toNat / 1000)) && (decide ((ax_rg n).1 ≤ (ax_rg m).1) && decide ((ax_rg m).2 ≤ (ax_rg n).2)))
  | .double n, .long i => decide ((ax_lr n).1 ≤ i.toInt) && decide (i.toInt ≤ (ax_lr n).2)
  | .double n, .double m => decide (n = m) || (decide ((ax_lr n).1 ≤ (ax_lr m).1) && decide ((ax_lr m).2 ≤ (ax_lr n).2))
  | .retAddr g, .ref a => Nat.beq g 0 || (Nat.blt a 1000000000 && ax_gm (g - 1) a)
  | .retAddr g, .retAddr k => Nat.beq g 0 || Nat.beq g k
  | .int i, .int j => decide (i = j)
  | .long i, .long j => decide (i = j)
  | .ref i, .ref j => decide (i = j)
  | .null, .null => true
  | _, _ => false
theorem ax_le_ok {b : Nat} {o : Nat → Nat} {x y v : Value} (h : ax_le x y = true) (hv : ax_v b o y v) : ax_v b o x v := by
  unfold ax_le at h
  split at h
  · simp only [Bool.and_eq_true, decide_eq_true_eq] at h
    cases hv
    exact ⟨_, rfl, h.2, ax_nml h.1 _ _⟩
  · simp only [Bool.and_eq_true, Bool.or_eq_true, decide_eq_true_eq] at h
    rcases h with h | ⟨h0, h⟩
    · subst h; exact hv
    · obtain ⟨i, rfl, ⟨h1, h2⟩, h3⟩ := hv
      refine ⟨i, rfl, ⟨by omega, by omega⟩, fun h4 => ?_⟩
      rcases h0 with h0 | h0
      · omega
      · have h5 := h3 (by omega)
        rw [h5]
        unfold ax_bs
        rw [h0]
  · simp only [Bool.and_eq_true, decide_eq_true_eq] at h
    cases hv
    exact ⟨_, rfl, h⟩
  · simp only [Bool.and_eq_true, Bool.or_eq_true, decide_eq_true_eq] at h
    rcases h with h | h
    · subst h; exact hv
    · obtain ⟨i, rfl, h1, h2⟩ := hv
      exact ⟨i, rfl, by omega, by omega⟩
  · simp only [Bool.and_eq_true, Bool.or_eq_true] at h
    cases hv
    refine ⟨_, rfl, ?_⟩
    rcases h with h | ⟨h1, h2⟩
    · exact Or.inl (Nat.eq_of_beq_eq_true h)
    · have h3 := Nat.le_of_ble_eq_true h1
      exact Or.inr ⟨_, ax_ad_lt h3, h3, h2⟩
  · simp only [Bool.or_eq_true] at h
    rcases h with h | h
    · obtain ⟨a, rfl, -⟩ := hv
      exact ⟨a, rfl, Or.inl (Nat.eq_of_beq_eq_true h)⟩
    · have e := Nat.eq_of_beq_eq_true h
      subst e
      exact hv
  · cases of_decide_eq_true h; exact hv
  · cases of_decide_eq_true h; exact hv
  · cases of_decide_eq_true h; exact hv
  · exact hv
  · cases h
def ax_les : List Value → List Value → Bool
  | [], [] => true
  | x :: xs, y :: ys => ax_le x y && ax_les xs ys
  | _, _ => false
theorem ax_les_ok {b : Nat} {o : Nat → Nat} : ∀ {xs ys vs : List Value}, ax_les xs ys = true → ax_vs b o ys vs → ax_vs b o xs vs
  | [], [], _, _, h => h
  | x :: xs, y :: ys, vs, hl, h => by
    simp only [ax_les, Bool.and_eq_true] at hl
    obtain ⟨v, t, rfl, h1, h2⟩ := h
    exact ⟨v, t, rfl, ax_le_ok hl.1 h1, ax_les_ok hl.2 h2⟩
  | [], _ :: _, _, hl, _ => by simp [ax_les] at hl
  | _ :: _, [], _, hl, _ => by simp [ax_les] at hl
theorem ax_les_len : ∀ {xs ys : List Value}, ax_les xs ys = true → xs.length = ys.length
  | [], [], _ => rfl
  | x :: xs, y :: ys, hl => by
    simp only [ax_les, Bool.and_eq_true] at hl
    simp [ax_les_len hl.2]
  | [], _ :: _, hl => by simp [ax_les] at hl
  | _ :: _, [], hl => by simp [ax_les] at hl
theorem ax_les_get : ∀ {xs ys : List Value} {k : Nat} {x : Value}, ax_les xs ys = true → xs[k]? = some x → ∃ y, ys[k]? = some y ∧ ax_le x y = true
  | [], [], k, x, _, h => by simp at h
  | x :: xs, y :: ys, 0, z, hl, h => by
    simp only [ax_les, Bool.and_eq_true] at hl
    cases h
    exact ⟨y, rfl, hl.1⟩
  | x :: xs, y :: ys, k + 1, z, hl, h => by
    simp only [ax_les, Bool.and_eq_true] at hl
    exact ax_les_get (k := k) hl.2 h
  | [], _ :: _, _, _, hl, _ => by simp [ax_les] at hl
  | _ :: _, [], _, _, hl, _ => by simp [ax_les] at hl
def ax_lec (p q : Nat × List Value) : Bool := Nat.beq p.1 99 || (Nat.beq p.1 q.1 && ax_les p.2 q.2)
def ax_leh : ax_H → ax_H → Bool
  | [], [] => true
  | p :: ps, q :: qs => ax_lec p q && ax_leh ps qs
  | _, _ => false
theorem ax_leh_len : ∀ {xs ys : ax_H}, ax_leh xs ys = true → xs.length = ys.length
  | [], [], _ => rfl
  | x :: xs, y :: ys, hl => by
    simp only [ax_leh, Bool.and_eq_true] at hl
    simp [ax_leh_len hl.2]
  | [], _ :: _, hl => by simp [ax_leh] at hl
  | _ :: _, [], hl => by simp [ax_leh] at hl
theorem ax_leh_get : ∀ {xs ys : ax_H} {k : Nat} {x : Nat × List Value}, ax_leh xs ys = true → xs[k]? = some x → ∃ y, ys[k]? = some y ∧ ax_lec x y = true
  | [], [], k, x, _, h => by simp at h
  | x :: xs, y :: ys, 0, z, hl, h => by
    simp only [ax_leh, Bool.and_eq_true] at hl
    cases h
    exact ⟨y, rfl, hl.1⟩
  | x :: xs, y :: ys, k + 1, z, hl, h => by
    simp only [ax_leh, Bool.and_eq_true] at hl
    exact ax_leh_get (k := k) hl.2 h
  | [], _ :: _, _, _, hl, _ => by simp [ax_leh] at hl
  | _ :: _, [], _, _, hl, _ => by simp [ax_leh] at hl
theorem ax_lec_ok {D : va_G} {b : Nat} {o : Nat → Nat} {p q : Nat × List Value} {cell : Cell} (hl : ax_lec p q = true) (h : ax_c D b o q cell) : ax_c D b o p cell := by
  simp only [ax_lec, Bool.or_eq_true, Bool.and_eq_true] at hl
  rcases hl with h1 | ⟨h1, h2⟩
  · exact Or.inl (Nat.eq_of_beq_eq_true h1)
  · have e := Nat.eq_of_beq_eq_true h1
    rcases h with h | ⟨a1, a2, a3, a4⟩
    · exact Or.inl (e.trans h)
    · refine Or.inr ⟨a1, by rw [e]; exact a2, fun h9 => by rw [ax_les_len h2]; exact a3 (by omega), fun k x hx => ?_⟩
      obtain ⟨y, hy, hxy⟩ := ax_les_get h2 hx
      obtain ⟨v, b1, b2⟩ := a4 k y hy
      exact ⟨v, by rw [e]; exact b1, ax_le_ok hxy b2⟩
theorem ax_leh_ok {D : va_G} {b : Nat} {o : Nat → Nat} {h h' : ax_H} {H : Heap} (hl : ax_leh h' h = true) (hR : ax_R D b o h H) : ax_R D b o h' H := by
  refine ⟨by rw [ax_leh_len hl]; exact hR.1, fun k q hq => ?_, by rw [ax_leh_len hl]; exact hR.2.2⟩
  obtain ⟨y, hy, hxy⟩ := ax_leh_get hl hq
  obtain ⟨cell, c1, c2⟩ := hR.2.1 k y hy
  exact ⟨cell, c1, ax_lec_ok hxy c2⟩
/-- locals: each of the less precise ones is said by one of the others -/
theorem ax_ls_mem {b : Nat} {o : Nat → Nat} : ∀ {lv lvc : List (Nat × Value)} {q : Nat × Value}, ax_ls b o lv lvc → q ∈ lv → ∃ v, (q.1, v) ∈ lvc ∧ ax_v b o q.2 v
  | [], _, _, _, h => absurd h List.not_mem_nil
  | x :: xs, lvc, q, hl, h => by
    obtain ⟨v, t, rfl, h3, h4⟩ := hl
    rcases List.mem_cons.mp h with rfl | h
    · exact ⟨v, List.mem_cons_self, h3⟩
    · obtain ⟨w, h5, h6⟩ := ax_ls_mem h4 h
      exact ⟨w, List.mem_cons_of_mem _ h5, h6⟩
theorem ax_ls_pick {b : Nat} {o : Nat → Nat} {lv lvc : List (Nat × Value)} (hl : ax_ls b o lv lvc) : ∀ {lv' : List (Nat × Value)}, (∀ q ∈ lv', ∃ y, (q.1, y) ∈ lv ∧ ax_le q.2 y = true) → ∃ lvc', ax_ls b o lv' lvc' ∧ ∀ q ∈ lvc', q ∈ lvc
  | [], _ => ⟨[], rfl, fun _ h => absurd h List.not_mem_nil⟩
  | x :: xs, h => by
    obtain ⟨y, h1, h2⟩ := h x List.mem_cons_self
    obtain ⟨v, h3, h4⟩ := ax_ls_mem hl h1
    obtain ⟨t, h5, h6⟩ := ax_ls_pick hl (lv' := xs) (fun q hq => h q (List.mem_cons_of_mem _ hq))
    refine ⟨(x.1, v) :: t, ⟨v, t, rfl, ax_le_ok h2 h4, h5⟩, fun q hq => ?_⟩
    rcases List.mem_cons.mp hq with rfl | hq
    · exact h3
    · exact h6 q hq
theorem ax_v_of {b : Nat} {o : Nat → Nat} {x v : Value} {i : Int32} (h : ax_vk x i) (hv : ax_v b o (.int i) v) : ax_v b o x v := by
  cases hv
  cases x <;> simp only [ax_vk] at h
  · subst h; rfl
  · exact ⟨i, rfl, h.2, ax_nml h.1 _ _⟩
/-- the narrowest mark for these ints -/
def ax_mkl : List UInt32 := []
/-- the last end below that isn't above, the first end above that isn't below -/
def ax_loi (lo : Int) : List Int → Nat → Nat → Nat
  | [], _, k => k
  | x :: t, j, k => if x ≤ lo then ax_loi lo t (j + 1) j else k
def ax_hii (hi : Int) : List Int → Nat → Nat
  | [], j => j - 1
  | x :: t, j => if hi ≤ x then j else ax_hii hi t (j + 1)
def ax_mkc (lo hi : Int) : UInt32 := UInt32.ofNat (100 + 45 * ax_loi lo ax_los 0 0 + ax_hii hi ax_his 0)
def ax_mkx (lo hi : Int) : UInt32 := if decide ((ax_rg (ax_mkc lo hi)).1 ≤ lo) && (decide (hi ≤ (ax_rg (ax_mkc lo hi)).2) && decide ((ax_mkc lo hi).toNat < 1000)) then ax_mkc lo hi else 0
theorem ax_mkx_ok {lo hi : Int} {i : Int32} (h1 : lo ≤ i.toInt) (h2 : i.toInt ≤ hi) : (ax_mkx lo hi).toNat < 1000 ∧ ax_md (ax_mkx lo hi) i := by
  unfold ax_mkx
  split
  · rename_i h
    simp only [Bool.and_eq_true, decide_eq_true_eq] at h
    exact ⟨h.2.2, by show (ax_rg _).1 ≤ _; omega, by show _ ≤ (ax_rg _).2; omega⟩
  · exact ⟨by decide, ax_md0 i⟩
def ax_mkd (lo hi : Int) : UInt32 := (ax_mkl.find? (fun n => decide ((ax_rg n).1 ≤ lo) && decide (hi ≤ (ax_rg n).2))).getD (ax_mkx lo hi)
theorem ax_mkd_ok {lo hi : Int} {i : Int32} (h1 : lo ≤ i.toInt) (h2 : i.toInt ≤ hi) : ax_vk (.float (ax_mkd lo hi)) i := by
  unfold ax_mkd
  cases hf : ax_mkl.find? (fun n => decide ((ax_rg n).1 ≤ lo) && decide (hi ≤ (ax_rg n).2)) with
  | none => exact ax_mkx_ok h1 h2
  | some n =>
    have h3 := List.find?_some hf
    have h4 := List.mem_of_find?_eq_some hf
    simp only [Bool.and_eq_true, decide_eq_true_eq] at h3
    refine ⟨?_, by show (ax_rg n).1 ≤ _; omega, by show _ ≤ (ax_rg n).2; omega⟩
    have h5 : ∀ m ∈ ax_mkl, m.toNat < 1000 := by decide
    exact h5 n h4
theorem ax_and_le {i j : Int32} (hj : 0 ≤ j.toInt) : 0 ≤ (i &&& j).toInt ∧ (i &&& j).toInt ≤ j.toInt := by
  have hjm : j.toBitVec.toNat < 2147483648 := by
    rcases Nat.lt_or_ge j.toBitVec.toNat 2147483648 with h | h
    · exact h
    · exfalso
      have : j.toInt = (j.toBitVec.toNat : Int) - 4294967296 := by
        show j.toBitVec.toInt = _
        rw [BitVec.toInt_eq_toNat_cond, if_neg (by omega)]
        rfl
      have := j.toBitVec.isLt
      omega
  have ej : j.toInt = (j.toBitVec.toNat : Int) := by
    show j.toBitVec.toInt = _
    rw [BitVec.toInt_eq_toNat_cond, if_pos (by omega)]
  have hle : (i &&& j).toBitVec.toNat ≤ j.toBitVec.toNat := by
    rw [Int32.toBitVec_and, BitVec.toNat_and]
    exact Nat.and_le_right
  have ei : (i &&& j).toInt = ((i &&& j).toBitVec.toNat : Int) := by
    show (i &&& j).toBitVec.toInt = _
    rw [BitVec.toInt_eq_toNat_cond, if_pos (by omega)]
  omega
/-- and: by what is known of one of the two -/
def ax_and (x y : Value) : Option Value := match x, y with
  | .int i, .int j => some (.int (i &&& j))
  | .float _, .int j => some (if j = 0 then .int 0 else if 0 ≤ j.toInt then .float (ax_mkd 0 j.toInt) else .float 0)
  | .int i, .float _ => some (if i = 0 then .int 0 else if 0 ≤ i.toInt then .float (ax_mkd 0 i.toInt) else .float 0)
  | .float n, .float _ => some (if 0 ≤ (ax_rg n).1 then .float (ax_mkd 0 (ax_rg n).2) else .float 0)
  | _, _ => none
theorem ax_and_comm (i j : Int32) : i &&& j = j &&& i := by
  apply Int32.toBitVec.inj
  simp [BitVec.and_comm]
theorem ax_and_ok {x y z : Value} (h : ax_and x y = some z) : ax_isI x = true ∧ ax_isI y = true ∧ ∀ i j, ax_vi x i → ax_vi y j → ax_vk z (i &&& j) := by
  unfold ax_and at h
  split at h
  · cases h
    refine ⟨rfl, rfl, fun i j hi hj => ?_⟩
    cases hi; cases hj; rfl
  · refine ⟨rfl, rfl, fun i j hi hj => ?_⟩
    cases hj
    split at h
    · rename_i h0; cases h; subst h0
      show _ = _
      apply Int32.toBitVec.inj; simp
    · split at h
      · rename_i h0; cases h
        have := ax_and_le (i := i) h0
        exact ax_mkd_ok this.1 this.2
      · cases h; exact ⟨by decide, ax_md0 _⟩
  · refine ⟨rfl, rfl, fun i j hi hj => ?_⟩
    cases hi
    rw [ax_and_comm]
    split at h
    · rename_i h0; cases h; subst h0
      show _ = _
      apply Int32.toBitVec.inj; simp
    · split at h
      · rename_i h0; cases h
        have := ax_and_le (i := j) h0
        exact ax_mkd_ok this.1 this.2
      · cases h; exact ⟨by decide, ax_md0 _⟩
  · refine ⟨rfl, rfl, fun i j hi hj => ?_⟩
    rw [ax_and_comm]
    split at h
    · rename_i h0; cases h
      have hi1 : (ax_rg _).1 ≤ i.toInt := hi.1
      have hi2 : i.toInt ≤ (ax_rg _).2 := hi.2
      have := ax_and_le (i := j) (j := i) (by omega)
      exact ax_mkd_ok this.1 (by omega)
    · cases h; exact ⟨by decide, ax_md0 _⟩
  · cases h
/-- times nothing -/
def ax_mul (x y : Value) : Option Value := match x, y with
  | .float _, .int j => some (if j = 0 then .int 0 else .float 0)
  | .int i, .float _ => some (if i = 0 then .int 0 else .float 0)
  | x, y => ax_b2 (fun i j => i * j) x y
theorem ax_b2_vk {f : Int32 → Int32 → Int32} {x y z : Value} (h : ax_b2 f x y = some z) : ax_isI x = true ∧ ax_isI y = true ∧ ∀ i j, ax_vi x i → ax_vi y j → ax_vk z (f i j) := by
  unfold ax_b2 at h
  split at h
  · cases h
    refine ⟨rfl, rfl, fun i j hi hj => ?_⟩
    cases hi; cases hj; rfl
  · split at h
    next hc =>
      cases h
      simp only [Bool.and_eq_true] at hc
      exact ⟨hc.1, hc.2, fun i j _ _ => ⟨by decide, ax_md0 _⟩⟩
    next => cases h
theorem ax_mul_ok {x y z : Value} (h : ax_mul x y = some z) : ax_isI x = true ∧ ax_isI y = true ∧ ∀ i j, ax_vi x i → ax_vi y j → ax_vk z (i * j) := by
  unfold ax_mul at h
  split at h
  · refine ⟨rfl, rfl, fun i j hi hj => ?_⟩
    cases hj
    split at h
    · rename_i h0; cases h; subst h0
      show _ = _
      exact Int32.mul_zero
    · cases h; exact ⟨by decide, ax_md0 _⟩
  · refine ⟨rfl, rfl, fun i j hi hj => ?_⟩
    cases hi
    split at h
    · rename_i h0; cases h; subst h0
      show _ = _
      exact Int32.zero_mul
    · cases h; exact ⟨by decide, ax_md0 _⟩
  · exact ax_b2_vk h
/-- plus: where it can't be too great -/
def ax_add (x y : Value) : Option Value := match x, y with
  | .int i, .int j => some (.int (i + j))
  | x, y => match ax_rn x, ax_rn y with
    | some p, some q => some (if -2147483648 ≤ p.1 + q.1 ∧ p.2 + q.2 ≤ 2147483647 then .float (ax_mkd (p.1 + q.1) (p.2 + q.2)) else .float 0)
    | _, _ => none
theorem ax_rn_I {x : Value} {q : Int × Int} (h : ax_rn x = some q) : ax_isI x = true := by
  cases x <;> simp [ax_rn] at h <;> rfl
theorem ax_add_ok {x y z : Value} (h : ax_add x y = some z) : ax_isI x = true ∧ ax_isI y = true ∧ ∀ i j, ax_vi x i → ax_vi y j → ax_vk z (i + j) := by
  unfold ax_add at h
  split at h
  · cases h
    refine ⟨rfl, rfl, fun i j hi hj => ?_⟩
    cases hi; cases hj; rfl
  · split at h
    · rename_i p q hp hq
      refine ⟨ax_rn_I hp, ax_rn_I hq, fun i j hi hj => ?_⟩
      have h1 := ax_rn_ok hi hp
      have h2 := ax_rn_ok hj hq
      split at h
      · rename_i hr
        cases h
        have e : (i + j).toInt = i.toInt + j.toInt := by
          rw [Int32.toInt_add]
          exact Int.bmod_eq_of_le (by omega) (by omega)
        exact ax_mkd_ok (by omega) (by omega)
      · cases h; exact ⟨by decide, ax_md0 _⟩
    · cases h
section AXW
variable {ns : ax_NS} {l : Launch} {k : ax_M} {d : Nat} {r : ax_H} {P : ax_P} {X : ax_PX} {pc : Nat} {lv lv' : List (Nat × Value)} {st st' as as' : List Value} {h h' : ax_H} {bc bs mc ms : Nat} {Q : ax_Q}
/-- it is enough to go on from what is less precise -/
theorem AR.less (h1 : ∀ q ∈ lv', ∃ y, (q.1, y) ∈ lv ∧ ax_le q.2 y = true) (h2 : ax_les st' st = true) (h3 : ax_leh h' h = true) (K : AR ns l k d r P X pc lv' st' h' bc bs) : AR ns l k d r P X pc lv st h bc bs := by
  intro D b o TC TS p e R s m args below meth c Z hX hP hXX lvc ls stc H locs cells slots hG
  obtain ⟨g1, g2, g3, g4, g5, g6, g7⟩ := hG
  obtain ⟨lvc', e1, e2⟩ := ax_ls_pick g2 h1
  exact K D b o TC TS p e R s m args below meth c Z hX hP hXX lvc' ls stc H locs cells slots ⟨⟨g1.1, g1.2.1, fun q hq => g1.2.2 q (e2 q hq)⟩, e1, ax_les_ok h2 g3, ax_leh_ok h3 g4, g5, g6, g7⟩
theorem AR.lessL (h1 : ∀ q ∈ lv', ∃ y, (q.1, y) ∈ lv ∧ ax_le q.2 y = true) (K : AR ns l k d r P X pc lv' st h bc bs) : AR ns l k d r P X pc lv st h bc bs := by
  intro D b o TC TS p e R s m args below meth c Z hX hP hXX lvc ls stc H locs cells slots hG
  obtain ⟨g1, g2, g3, g4, g5, g6, g7⟩ := hG
  obtain ⟨lvc', e1, e2⟩ := ax_ls_pick g2 h1
  exact K D b o TC TS p e R s m args below meth c Z hX hP hXX lvc' ls stc H locs cells slots ⟨⟨g1.1, g1.2.1, fun q hq => g1.2.2 q (e2 q hq)⟩, e1, g3, g4, g5, g6, g7⟩
theorem AR.top {x y : Value} (hxy : ∀ b o v, ax_v b o y v → ax_v b o x v) (K : AR ns l k d r P X pc lv (x :: st) h bc bs) : AR ns l k d r P X pc lv (y :: st) h bc bs := by
  intro D b o TC TS p e R s m args below meth c Z hX hP hXX lvc ls stc H locs cells slots hG
  obtain ⟨g1, g2, ⟨v, t, rfl, g3, g3'⟩, g4, g5, g6, g7⟩ := hG
  exact K D b o TC TS p e R s m args below meth c Z hX hP hXX lvc ls _ H locs cells slots ⟨g1, g2, ⟨v, t, rfl, hxy b o v g3, g3'⟩, g4, g5, g6, g7⟩
/-- an int operation whose result is known better than its arguments -/
theorem AR.bin {f : Int32 → Int32 → Int32} {x y z : Value} {pc' : Nat} (hx : ax_isI x = true) (hy : ax_isI y = true) (hz : ∀ i j, ax_vi x i → ax_vi y j → ax_vk z (f i j)) (hr : ∀ i j, AR ns l k d r P X pc' lv (.int (f i j) :: st) h bc bs → AR ns l k d r P X pc lv (.int j :: .int i :: st) h bc bs) (K : AR ns l k d r P X pc' lv (z :: st) h bc bs) : AR ns l k d r P X pc lv (y :: x :: st) h bc bs :=
  AR.split2 hx hy (fun i j hi hj => hr i j (AR.top (fun b o v hv => ax_v_of (hz i j hi hj) hv) K))
/-- a contract of less precise arguments -/
theorem AM.less (h2 : ax_les as' as = true) (K : AM ns l k d r mc ms as' h Q) : AM ns l k d r mc ms as h Q := by
  intro D b o
  refine MetFree.mono (K D b o) (fun a U hp => ?_) (fun _ _ _ _ _ h9 => h9) (fun _ _ _ _ _ hq => hq)
  obtain ⟨ac, e1, e2, e3⟩ := hp
  exact ⟨ac, e1, ax_les_ok h2 e2, e3⟩
theorem AR.iandA {x y z : Value} (hd : decode k.2.1 pc = .ok (.iand, 1)) (hz : ax_and x y = some z) (K : AR ns l k d r P X (pc + 1) lv (z :: st) h bc bs) : AR ns l k d r P X pc lv (y :: x :: st) h bc bs := by
  obtain ⟨h1, h2, h3⟩ := ax_and_ok hz
  exact AR.bin (f := fun i j => i &&& j) h1 h2 h3 (fun i j K2 => AR.iand hd rfl K2) K
theorem AR.imulA {x y z : Value} (hd : decode k.2.1 pc = .ok (.imul, 1)) (hz : ax_mul x y = some z) (K : AR ns l k d r P X (pc + 1) lv (z :: st) h bc bs) : AR ns l k d r P X pc lv (y :: x :: st) h bc bs := by
  obtain ⟨h1, h2, h3⟩ := ax_mul_ok hz
  exact AR.bin (f := fun i j => i * j) h1 h2 h3 (fun i j K2 => AR.imul hd rfl K2) K
theorem AR.iaddA {x y z : Value} (hd : decode k.2.1 pc = .ok (.iadd, 1)) (hz : ax_add x y = some z) (K : AR ns l k d r P X (pc + 1) lv (z :: st) h bc bs) : AR ns l k d r P X pc lv (y :: x :: st) h bc bs := by
  obtain ⟨h1, h2, h3⟩ := ax_add_ok hz
  exact AR.bin (f := fun i j => i + j) h1 h2 h3 (fun i j K2 => AR.iadd hd rfl K2) K
end AXW
