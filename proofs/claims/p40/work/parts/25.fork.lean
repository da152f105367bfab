/-! BRANCHES BOTH WAYS -/
/-- 0 =, 1 not =, 2 <, 3 not <, 4 >, 5 not > -/
def ax_fc (c : Nat) (i j : Int32) : Bool := match c with
  | 0 => decide (i = j)
  | 1 => !decide (i = j)
  | 2 => decide (i < j)
  | 3 => !decide (i < j)
  | 4 => decide (j < i)
  | _ => !decide (j < i)
def ax_cne (p q : Int × Int) : Int × Int := if q.1 = q.2 then (if p.1 = q.1 then (p.1 + 1, p.2) else if p.2 = q.1 then (p.1, p.2 - 1) else p) else p
/-- what is left of two intervals -/
def ax_cut (c : Nat) (p q : Int × Int) : (Int × Int) × (Int × Int) := match c with
  | 0 => ((max p.1 q.1, min p.2 q.2), (max p.1 q.1, min p.2 q.2))
  | 1 => (ax_cne p q, ax_cne q p)
  | 2 => ((p.1, min p.2 (q.2 - 1)), (max q.1 (p.1 + 1), q.2))
  | 3 => ((max p.1 q.1, p.2), (q.1, min q.2 p.2))
  | 4 => ((max p.1 (q.1 + 1), p.2), (q.1, min q.2 (p.2 - 1)))
  | _ => ((p.1, min p.2 q.2), (max q.1 p.1, q.2))
theorem ax_cne_ok {p q : Int × Int} {i j : Int} (h : i ≠ j) (hp : p.1 ≤ i ∧ i ≤ p.2) (hq : q.1 ≤ j ∧ j ≤ q.2) : (ax_cne p q).1 ≤ i ∧ i ≤ (ax_cne p q).2 := by
  unfold ax_cne
  split
  · split
    · exact ⟨by show p.1 + 1 ≤ i; omega, hp.2⟩
    · split
      · exact ⟨hp.1, by show i ≤ p.2 - 1; omega⟩
      · exact hp
  · exact hp
theorem ax_cut_ok {c : Nat} {p q : Int × Int} {i j : Int32} (hp : p.1 ≤ i.toInt ∧ i.toInt ≤ p.2) (hq : q.1 ≤ j.toInt ∧ j.toInt ≤ q.2) (h : ax_fc c i j = true) : ((ax_cut c p q).1.1 ≤ i.toInt ∧ i.toInt ≤ (ax_cut c p q).1.2) ∧ ((ax_cut c p q).2.1 ≤ j.toInt ∧ j.toInt ≤ (ax_cut c p q).2.2) := by
  unfold ax_fc at h
  unfold ax_cut
  split at h
  · have h1 : i = j := of_decide_eq_true h
    subst h1
    refine ⟨⟨?_, ?_⟩, ?_, ?_⟩ <;> dsimp only <;> omega
  · have h1 : ¬ i = j := by simpa using h
    have h2 : i.toInt ≠ j.toInt := fun e => h1 (Int32.toInt_inj.mp e)
    exact ⟨ax_cne_ok h2 hp hq, ax_cne_ok (Ne.symm h2) hq hp⟩
  · have h1 : i < j := of_decide_eq_true h
    rw [Int32.lt_iff_toInt_lt] at h1
    refine ⟨⟨?_, ?_⟩, ?_, ?_⟩ <;> dsimp only <;> omega
  · have h1 : ¬ i < j := by simpa using h
    rw [Int32.lt_iff_toInt_lt] at h1
    refine ⟨⟨?_, ?_⟩, ?_, ?_⟩ <;> dsimp only <;> omega
  · have h1 : j < i := of_decide_eq_true h
    rw [Int32.lt_iff_toInt_lt] at h1
    refine ⟨⟨?_, ?_⟩, ?_, ?_⟩ <;> dsimp only <;> omega
  · have h1 : ¬ j < i := by simpa using h
    rw [Int32.lt_iff_toInt_lt] at h1
    refine ⟨⟨?_, ?_⟩, ?_, ?_⟩ <;> dsimp only <;> omega
/-- the mark of this name for these ints, or 0 -/
def ax_mkn (n m : UInt32) (lo hi : Int) : UInt32 := if Nat.ble 1000 n.toNat && (Nat.beq (n.toNat / 1000) (m.toNat / 1000) && (decide ((ax_rg m).1 ≤ lo) && decide (hi ≤ (ax_rg m).2))) then m else 0
def ax_mk2 (x : Value) (q : Int × Int) : UInt32 := match x with
  | .float n => ax_mkn n (UInt32.ofNat (n.toNat / 1000 * 1000 + (ax_mkd q.1 q.2).toNat)) q.1 q.2
  | _ => 0
theorem ax_mk2_ok {x : Value} {q : Int × Int} {i : Int32} (h : q.1 ≤ i.toInt ∧ i.toInt ≤ q.2) : ax_may (ax_mk2 x q) x i := by
  intro hm
  cases x with
  | float n =>
    simp only [ax_mk2, ax_mkn] at hm ⊢
    split at hm
    · rename_i hc
      rw [if_pos hc]
      simp only [Bool.and_eq_true, decide_eq_true_eq] at hc
      exact ⟨⟨n, rfl, Nat.eq_of_beq_eq_true hc.2.1⟩, by show (ax_rg _).1 ≤ _; omega, by show _ ≤ (ax_rg _).2; omega⟩
    · exact absurd hm (by decide)
  | _ => exact absurd (show 1000 ≤ (0 : UInt32).toNat from hm) (by decide)
def ax_emp (q : (Int × Int) × (Int × Int)) : Bool := decide (q.1.2 < q.1.1) || decide (q.2.2 < q.2.1)
section AXFK
variable {ns : ax_NS} {l : Launch} {k : ax_M} {d : Nat} {r : ax_H} {P : ax_P} {X : ax_PX} {pc : Nat} {lv : List (Nat × Value)} {st : List Value} {h : ax_H} {bc bs : Nat}
theorem AR.cmp1 {x : Value} {f : Int32 → Bool} {pt pf : Nat} {m1 m3 : UInt32} (hx : ax_isI x = true)
    (step : ∀ (i : Int32) (lv : List (Nat × Value)) (st : List Value) (h : ax_H), AR ns l k d r P X (if f i then pt else pf) lv st h bc bs → AR ns l k d r P X pc lv (.int i :: st) h bc bs)
    (ht : ∀ i, ax_vi x i → f i = true → ax_may m1 x i) (hf : ∀ i, ax_vi x i → f i = false → ax_may m3 x i)
    (K1 : (∃ i, ax_vi x i ∧ f i = true) → AR ns l k d r P X pt (ax_nar m1 lv) (ax_nas m1 st) (ax_nah m1 h) bc bs)
    (K2 : (∃ i, ax_vi x i ∧ f i = false) → AR ns l k d r P X pf (ax_nar m3 lv) (ax_nas m3 st) (ax_nah m3 h) bc bs) : AR ns l k d r P X pc lv (x :: st) h bc bs := by
  intro D b o TC TS p e R s m args below meth c Z hX hP hXX lvc ls stc H locs cells slots hG
  obtain ⟨g1, g2, ⟨v2, t2, rfl, hv2, hs2⟩, g4, g5, g6, g7⟩ := hG
  obtain ⟨i, hi, rfl⟩ : ∃ i, ax_vi x i ∧ v2 = .int i := by
    cases x <;> simp only [ax_isI] at hx
    case int i => exact ⟨i, rfl, hv2⟩
    case float n => obtain ⟨i, h1, h2, -⟩ := hv2; exact ⟨i, h2, h1⟩
    all_goals cases hx
  have go : ∀ (m : UInt32) (z : Value) (w : Int32), ax_v b o z (.int w) → ax_may m z w → ∀ lv st h, ax_ls b o lv lvc → ax_vs b o st t2 → ax_R D b o h H → ax_ls b o (ax_nar m lv) lvc ∧ ax_vs b o (ax_nas m st) t2 ∧ ax_R D b o (ax_nah m h) H := by
    intro m z w hz hm lv st h a1 a2 a3
    unfold ax_nar ax_nas ax_nah
    cases hb : Nat.blt m.toNat 1000 with
    | true => exact ⟨a1, a2, a3⟩
    | false =>
      have h1 : 1000 ≤ m.toNat := by
        rcases Nat.lt_or_ge m.toNat 1000 with q | q
        · have : Nat.blt m.toNat 1000 = true := Nat.ble_eq_true_of_le q
          rw [this] at hb; cases hb
        · exact q
      have h2 := ax_may_ok hz hm h1
      exact ⟨ax_rel_ok h1 h2 a1, ax_res_ok h1 h2 a2, ax_reh_ok h1 h2 a3⟩
  cases hc : f i with
  | true =>
    obtain ⟨a1, a2, a3⟩ := go m1 x i hv2 (ht i hi hc) lv st h g2 hs2 g4
    exact step i _ _ _ (by rw [hc]; exact K1 ⟨i, hi, hc⟩) D b o TC TS p e R s m args below meth c Z hX hP hXX _ _ _ _ _ _ _ ⟨g1, a1, ⟨_, _, rfl, rfl, a2⟩, a3, g5, g6, g7⟩
  | false =>
    obtain ⟨a1, a2, a3⟩ := go m3 x i hv2 (hf i hi hc) lv st h g2 hs2 g4
    exact step i _ _ _ (by rw [hc]; exact K2 ⟨i, hi, hc⟩) D b o TC TS p e R s m args below meth c Z hX hP hXX _ _ _ _ _ _ _ ⟨g1, a1, ⟨_, _, rfl, rfl, a2⟩, a3, g5, g6, g7⟩
theorem ax_fc_neg {c : Nat} {i j : Int32} (hc : c < 6) (h : ax_fc c i j = false) : ax_fc (if c % 2 = 0 then c + 1 else c - 1) i j = true := by
  rcases (by omega : c = 0 ∨ c = 1 ∨ c = 2 ∨ c = 3 ∨ c = 4 ∨ c = 5) with rfl | rfl | rfl | rfl | rfl | rfl <;> simp only [ax_fc] at h ⊢ <;> simpa using h
/-- the intervals behind a branch: taken, not taken -/
def ax_ct (c : Nat) (p q : Int × Int) : (Int × Int) × (Int × Int) := ax_cut c p q
def ax_cf (c : Nat) (p q : Int × Int) : (Int × Int) × (Int × Int) := ax_cut (if c % 2 = 0 then c + 1 else c - 1) p q
theorem AR.fork2 {x y : Value} {c : Nat} {p q : Int × Int} {pt pf : Nat} (hc : c < 6) (hx : ax_rn x = some p) (hy : ax_rn y = some q)
    (step : ∀ (i j : Int32) (lv : List (Nat × Value)) (st : List Value) (h : ax_H), AR ns l k d r P X (if ax_fc c i j then pt else pf) lv st h bc bs → AR ns l k d r P X pc lv (.int j :: .int i :: st) h bc bs)
    (K1 : ax_emp (ax_ct c p q) = false → AR ns l k d r P X pt (ax_nar (ax_mk2 y (ax_ct c p q).2) (ax_nar (ax_mk2 x (ax_ct c p q).1) lv)) (ax_nas (ax_mk2 y (ax_ct c p q).2) (ax_nas (ax_mk2 x (ax_ct c p q).1) st)) (ax_nah (ax_mk2 y (ax_ct c p q).2) (ax_nah (ax_mk2 x (ax_ct c p q).1) h)) bc bs)
    (K2 : ax_emp (ax_cf c p q) = false → AR ns l k d r P X pf (ax_nar (ax_mk2 y (ax_cf c p q).2) (ax_nar (ax_mk2 x (ax_cf c p q).1) lv)) (ax_nas (ax_mk2 y (ax_cf c p q).2) (ax_nas (ax_mk2 x (ax_cf c p q).1) st)) (ax_nah (ax_mk2 y (ax_cf c p q).2) (ax_nah (ax_mk2 x (ax_cf c p q).1) h)) bc bs) : AR ns l k d r P X pc lv (y :: x :: st) h bc bs := by
  have ne : ∀ (z : (Int × Int) × (Int × Int)) (i j : Int32), ((z.1.1 ≤ i.toInt ∧ i.toInt ≤ z.1.2) ∧ (z.2.1 ≤ j.toInt ∧ j.toInt ≤ z.2.2)) → ax_emp z = false := fun z i j hz => by
    simp only [ax_emp, Bool.or_eq_false_iff, decide_eq_false_iff_not]
    omega
  refine AR.cmp2 (m1 := ax_mk2 x (ax_ct c p q).1) (m2 := ax_mk2 y (ax_ct c p q).2) (m3 := ax_mk2 x (ax_cf c p q).1) (m4 := ax_mk2 y (ax_cf c p q).2) (ax_rn_I hx) (ax_rn_I hy) step (fun i j hi hj h9 => ?_) (fun i j hi hj h9 => ?_) (fun hh => ?_) (fun hh => ?_)
  · have := ax_cut_ok (ax_rn_ok hi hx) (ax_rn_ok hj hy) h9
    exact ⟨ax_mk2_ok this.1, ax_mk2_ok this.2⟩
  · have := ax_cut_ok (ax_rn_ok hi hx) (ax_rn_ok hj hy) (ax_fc_neg hc h9)
    exact ⟨ax_mk2_ok this.1, ax_mk2_ok this.2⟩
  · obtain ⟨i, j, hi, hj, h9⟩ := hh
    exact K1 (ne _ i j (ax_cut_ok (ax_rn_ok hi hx) (ax_rn_ok hj hy) h9))
  · obtain ⟨i, j, hi, hj, h9⟩ := hh
    exact K2 (ne _ i j (ax_cut_ok (ax_rn_ok hi hx) (ax_rn_ok hj hy) (ax_fc_neg hc h9)))
theorem AR.fork1 {x : Value} {c : Nat} {p : Int × Int} {pt pf : Nat} (hc : c < 6) (hx : ax_rn x = some p)
    (step : ∀ (i : Int32) (lv : List (Nat × Value)) (st : List Value) (h : ax_H), AR ns l k d r P X (if ax_fc c i 0 then pt else pf) lv st h bc bs → AR ns l k d r P X pc lv (.int i :: st) h bc bs)
    (K1 : ax_emp (ax_ct c p (0, 0)) = false → AR ns l k d r P X pt (ax_nar (ax_mk2 x (ax_ct c p (0, 0)).1) lv) (ax_nas (ax_mk2 x (ax_ct c p (0, 0)).1) st) (ax_nah (ax_mk2 x (ax_ct c p (0, 0)).1) h) bc bs)
    (K2 : ax_emp (ax_cf c p (0, 0)) = false → AR ns l k d r P X pf (ax_nar (ax_mk2 x (ax_cf c p (0, 0)).1) lv) (ax_nas (ax_mk2 x (ax_cf c p (0, 0)).1) st) (ax_nah (ax_mk2 x (ax_cf c p (0, 0)).1) h) bc bs) : AR ns l k d r P X pc lv (x :: st) h bc bs := by
  have ne : ∀ (z : (Int × Int) × (Int × Int)) (i j : Int32), ((z.1.1 ≤ i.toInt ∧ i.toInt ≤ z.1.2) ∧ (z.2.1 ≤ j.toInt ∧ j.toInt ≤ z.2.2)) → ax_emp z = false := fun z i j hz => by
    simp only [ax_emp, Bool.or_eq_false_iff, decide_eq_false_iff_not]
    omega
  have h0 : ((0, 0) : Int × Int).1 ≤ (0 : Int32).toInt ∧ (0 : Int32).toInt ≤ ((0, 0) : Int × Int).2 := by decide
  refine AR.cmp1 (f := fun i => ax_fc c i 0) (m1 := ax_mk2 x (ax_ct c p (0, 0)).1) (m3 := ax_mk2 x (ax_cf c p (0, 0)).1) (ax_rn_I hx) step (fun i hi h9 => ?_) (fun i hi h9 => ?_) (fun hh => ?_) (fun hh => ?_)
  · exact ax_mk2_ok (ax_cut_ok (ax_rn_ok hi hx) h0 h9).1
  · exact ax_mk2_ok (ax_cut_ok (ax_rn_ok hi hx) h0 (ax_fc_neg hc h9)).1
  · obtain ⟨i, hi, h9⟩ := hh
    exact K1 (ne _ i 0 (ax_cut_ok (ax_rn_ok hi hx) h0 h9))
  · obtain ⟨i, hi, h9⟩ := hh
    exact K2 (ne _ i 0 (ax_cut_ok (ax_rn_ok hi hx) h0 (ax_fc_neg hc h9)))
theorem AR.st2_eq {off : Int} (hd : decode k.2.1 pc = .ok (.if_icmp .eq off, 3)) (h0 : 0 ≤ (pc : Int) + off) : ∀ (i j : Int32) (lv : List (Nat × Value)) (st : List Value) (h : ax_H), AR ns l k d r P X (if ax_fc 0 i j then ((pc : Int) + off).toNat else pc + 3) lv st h bc bs → AR ns l k d r P X pc lv (.int j :: .int i :: st) h bc bs := by
  intro i j lv st h K
  refine AR.icmp_eq hd (Int.toNat_of_nonneg h0).symm (fun hp => ?_) (fun hn => ?_)
  · rw [if_pos (by simp only [ax_fc]; first | exact decide_eq_true hp | (simp; done) | (simp; exact hp) | (simp [Int32.not_lt]; exact hp))] at K; exact K
  · rw [if_neg (by simp only [ax_fc]; first | (simp; exact hn) | (simp [Int32.not_lt] at hn ⊢; exact hn) | (simp at hn ⊢; exact hn))] at K; exact K
theorem AR.st1_eq {off : Int} (hd : decode k.2.1 pc = .ok (.ifCond .eq off, 3)) (h0 : 0 ≤ (pc : Int) + off) : ∀ (i : Int32) (lv : List (Nat × Value)) (st : List Value) (h : ax_H), AR ns l k d r P X (if ax_fc 0 i 0 then ((pc : Int) + off).toNat else pc + 3) lv st h bc bs → AR ns l k d r P X pc lv (.int i :: st) h bc bs := by
  intro i lv st h K
  refine AR.if_eq hd (Int.toNat_of_nonneg h0).symm (fun hp => ?_) (fun hn => ?_)
  · rw [if_pos (by simp only [ax_fc]; first | exact decide_eq_true hp | (simp; done) | (simp; exact hp) | (simp [Int32.not_lt]; exact hp))] at K; exact K
  · rw [if_neg (by simp only [ax_fc]; first | (simp; exact hn) | (simp [Int32.not_lt] at hn ⊢; exact hn) | (simp at hn ⊢; exact hn))] at K; exact K
theorem AR.st2_ne {off : Int} (hd : decode k.2.1 pc = .ok (.if_icmp .ne off, 3)) (h0 : 0 ≤ (pc : Int) + off) : ∀ (i j : Int32) (lv : List (Nat × Value)) (st : List Value) (h : ax_H), AR ns l k d r P X (if ax_fc 1 i j then ((pc : Int) + off).toNat else pc + 3) lv st h bc bs → AR ns l k d r P X pc lv (.int j :: .int i :: st) h bc bs := by
  intro i j lv st h K
  refine AR.icmp_ne hd (Int.toNat_of_nonneg h0).symm (fun hp => ?_) (fun hn => ?_)
  · rw [if_pos (by simp only [ax_fc]; first | exact decide_eq_true hp | (simp; done) | (simp; exact hp) | (simp [Int32.not_lt]; exact hp))] at K; exact K
  · rw [if_neg (by simp only [ax_fc]; first | (simp; exact hn) | (simp [Int32.not_lt] at hn ⊢; exact hn) | (simp at hn ⊢; exact hn))] at K; exact K
theorem AR.st1_ne {off : Int} (hd : decode k.2.1 pc = .ok (.ifCond .ne off, 3)) (h0 : 0 ≤ (pc : Int) + off) : ∀ (i : Int32) (lv : List (Nat × Value)) (st : List Value) (h : ax_H), AR ns l k d r P X (if ax_fc 1 i 0 then ((pc : Int) + off).toNat else pc + 3) lv st h bc bs → AR ns l k d r P X pc lv (.int i :: st) h bc bs := by
  intro i lv st h K
  refine AR.if_ne hd (Int.toNat_of_nonneg h0).symm (fun hp => ?_) (fun hn => ?_)
  · rw [if_pos (by simp only [ax_fc]; first | exact decide_eq_true hp | (simp; done) | (simp; exact hp) | (simp [Int32.not_lt]; exact hp))] at K; exact K
  · rw [if_neg (by simp only [ax_fc]; first | (simp; exact hn) | (simp [Int32.not_lt] at hn ⊢; exact hn) | (simp at hn ⊢; exact hn))] at K; exact K
theorem AR.st2_lt {off : Int} (hd : decode k.2.1 pc = .ok (.if_icmp .lt off, 3)) (h0 : 0 ≤ (pc : Int) + off) : ∀ (i j : Int32) (lv : List (Nat × Value)) (st : List Value) (h : ax_H), AR ns l k d r P X (if ax_fc 2 i j then ((pc : Int) + off).toNat else pc + 3) lv st h bc bs → AR ns l k d r P X pc lv (.int j :: .int i :: st) h bc bs := by
  intro i j lv st h K
  refine AR.icmp_lt hd (Int.toNat_of_nonneg h0).symm (fun hp => ?_) (fun hn => ?_)
  · rw [if_pos (by simp only [ax_fc]; first | exact decide_eq_true hp | (simp; done) | (simp; exact hp) | (simp [Int32.not_lt]; exact hp))] at K; exact K
  · rw [if_neg (by simp only [ax_fc]; first | (simp; exact hn) | (simp [Int32.not_lt] at hn ⊢; exact hn) | (simp at hn ⊢; exact hn))] at K; exact K
theorem AR.st1_lt {off : Int} (hd : decode k.2.1 pc = .ok (.ifCond .lt off, 3)) (h0 : 0 ≤ (pc : Int) + off) : ∀ (i : Int32) (lv : List (Nat × Value)) (st : List Value) (h : ax_H), AR ns l k d r P X (if ax_fc 2 i 0 then ((pc : Int) + off).toNat else pc + 3) lv st h bc bs → AR ns l k d r P X pc lv (.int i :: st) h bc bs := by
  intro i lv st h K
  refine AR.if_lt hd (Int.toNat_of_nonneg h0).symm (fun hp => ?_) (fun hn => ?_)
  · rw [if_pos (by simp only [ax_fc]; first | exact decide_eq_true hp | (simp; done) | (simp; exact hp) | (simp [Int32.not_lt]; exact hp))] at K; exact K
  · rw [if_neg (by simp only [ax_fc]; first | (simp; exact hn) | (simp [Int32.not_lt] at hn ⊢; exact hn) | (simp at hn ⊢; exact hn))] at K; exact K
theorem AR.st2_ge {off : Int} (hd : decode k.2.1 pc = .ok (.if_icmp .ge off, 3)) (h0 : 0 ≤ (pc : Int) + off) : ∀ (i j : Int32) (lv : List (Nat × Value)) (st : List Value) (h : ax_H), AR ns l k d r P X (if ax_fc 3 i j then ((pc : Int) + off).toNat else pc + 3) lv st h bc bs → AR ns l k d r P X pc lv (.int j :: .int i :: st) h bc bs := by
  intro i j lv st h K
  refine AR.icmp_ge hd (Int.toNat_of_nonneg h0).symm (fun hp => ?_) (fun hn => ?_)
  · rw [if_pos (by simp only [ax_fc]; first | exact decide_eq_true hp | (simp; done) | (simp; exact hp) | (simp [Int32.not_lt]; exact hp))] at K; exact K
  · rw [if_neg (by simp only [ax_fc]; first | (simp; exact hn) | (simp [Int32.not_lt] at hn ⊢; exact hn) | (simp at hn ⊢; exact hn))] at K; exact K
theorem AR.st1_ge {off : Int} (hd : decode k.2.1 pc = .ok (.ifCond .ge off, 3)) (h0 : 0 ≤ (pc : Int) + off) : ∀ (i : Int32) (lv : List (Nat × Value)) (st : List Value) (h : ax_H), AR ns l k d r P X (if ax_fc 3 i 0 then ((pc : Int) + off).toNat else pc + 3) lv st h bc bs → AR ns l k d r P X pc lv (.int i :: st) h bc bs := by
  intro i lv st h K
  refine AR.if_ge hd (Int.toNat_of_nonneg h0).symm (fun hp => ?_) (fun hn => ?_)
  · rw [if_pos (by simp only [ax_fc]; first | exact decide_eq_true hp | (simp; done) | (simp; exact hp) | (simp [Int32.not_lt]; exact hp))] at K; exact K
  · rw [if_neg (by simp only [ax_fc]; first | (simp; exact hn) | (simp [Int32.not_lt] at hn ⊢; exact hn) | (simp at hn ⊢; exact hn))] at K; exact K
theorem AR.st2_gt {off : Int} (hd : decode k.2.1 pc = .ok (.if_icmp .gt off, 3)) (h0 : 0 ≤ (pc : Int) + off) : ∀ (i j : Int32) (lv : List (Nat × Value)) (st : List Value) (h : ax_H), AR ns l k d r P X (if ax_fc 4 i j then ((pc : Int) + off).toNat else pc + 3) lv st h bc bs → AR ns l k d r P X pc lv (.int j :: .int i :: st) h bc bs := by
  intro i j lv st h K
  refine AR.icmp_gt hd (Int.toNat_of_nonneg h0).symm (fun hp => ?_) (fun hn => ?_)
  · rw [if_pos (by simp only [ax_fc]; first | exact decide_eq_true hp | (simp; done) | (simp; exact hp) | (simp [Int32.not_lt]; exact hp))] at K; exact K
  · rw [if_neg (by simp only [ax_fc]; first | (simp; exact hn) | (simp [Int32.not_lt] at hn ⊢; exact hn) | (simp at hn ⊢; exact hn))] at K; exact K
theorem AR.st1_gt {off : Int} (hd : decode k.2.1 pc = .ok (.ifCond .gt off, 3)) (h0 : 0 ≤ (pc : Int) + off) : ∀ (i : Int32) (lv : List (Nat × Value)) (st : List Value) (h : ax_H), AR ns l k d r P X (if ax_fc 4 i 0 then ((pc : Int) + off).toNat else pc + 3) lv st h bc bs → AR ns l k d r P X pc lv (.int i :: st) h bc bs := by
  intro i lv st h K
  refine AR.if_gt hd (Int.toNat_of_nonneg h0).symm (fun hp => ?_) (fun hn => ?_)
  · rw [if_pos (by simp only [ax_fc]; first | exact decide_eq_true hp | (simp; done) | (simp; exact hp) | (simp [Int32.not_lt]; exact hp))] at K; exact K
  · rw [if_neg (by simp only [ax_fc]; first | (simp; exact hn) | (simp [Int32.not_lt] at hn ⊢; exact hn) | (simp at hn ⊢; exact hn))] at K; exact K
theorem AR.st2_le {off : Int} (hd : decode k.2.1 pc = .ok (.if_icmp .le off, 3)) (h0 : 0 ≤ (pc : Int) + off) : ∀ (i j : Int32) (lv : List (Nat × Value)) (st : List Value) (h : ax_H), AR ns l k d r P X (if ax_fc 5 i j then ((pc : Int) + off).toNat else pc + 3) lv st h bc bs → AR ns l k d r P X pc lv (.int j :: .int i :: st) h bc bs := by
  intro i j lv st h K
  refine AR.icmp_le hd (Int.toNat_of_nonneg h0).symm (fun hp => ?_) (fun hn => ?_)
  · rw [if_pos (by simp only [ax_fc]; first | exact decide_eq_true hp | (simp; done) | (simp; exact hp) | (simp [Int32.not_lt]; exact hp))] at K; exact K
  · rw [if_neg (by simp only [ax_fc]; first | (simp; exact hn) | (simp [Int32.not_lt] at hn ⊢; exact hn) | (simp at hn ⊢; exact hn))] at K; exact K
theorem AR.st1_le {off : Int} (hd : decode k.2.1 pc = .ok (.ifCond .le off, 3)) (h0 : 0 ≤ (pc : Int) + off) : ∀ (i : Int32) (lv : List (Nat × Value)) (st : List Value) (h : ax_H), AR ns l k d r P X (if ax_fc 5 i 0 then ((pc : Int) + off).toNat else pc + 3) lv st h bc bs → AR ns l k d r P X pc lv (.int i :: st) h bc bs := by
  intro i lv st h K
  refine AR.if_le hd (Int.toNat_of_nonneg h0).symm (fun hp => ?_) (fun hn => ?_)
  · rw [if_pos (by simp only [ax_fc]; first | exact decide_eq_true hp | (simp; done) | (simp; exact hp) | (simp [Int32.not_lt]; exact hp))] at K; exact K
  · rw [if_neg (by simp only [ax_fc]; first | (simp; exact hn) | (simp [Int32.not_lt] at hn ⊢; exact hn) | (simp at hn ⊢; exact hn))] at K; exact K
end AXFK
