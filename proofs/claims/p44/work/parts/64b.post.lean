/-! p44, 7: put, post, explain, cell -/
theorem hs_134_4 : ax_site (ax_mm 134) (ax_mm 275) 9 0 := by
  have m := ax_mfacts (by decide +kernel : ax_has 275 = true)
  exact ⟨m.1, m.2.1, ax_wk_mem (ix := 3187) (by decide +kernel), ⟨m.2.2.2.1, m.2.2.2.2.1, by decide +kernel⟩, m.2.2.2.2.2.1⟩
theorem hs_139_13 : ax_site (ax_mm 139) (ax_mm 275) 9 0 := by
  have m := ax_mfacts (by decide +kernel : ax_has 275 = true)
  exact ⟨m.1, m.2.1, ax_wk_mem (ix := 3187) (by decide +kernel), ⟨m.2.2.2.1, m.2.2.2.2.1, by decide +kernel⟩, m.2.2.2.2.2.1⟩
section LWD
/-- all old cells but these are as they were -/
def lf (c : List Nat) (h g : ax_H) : Prop := h.length ≤ g.length ∧ ∀ q, q < h.length → ¬ q ∈ c → g[q]? = h[q]?
theorem lf_r (c : List Nat) (h : ax_H) : lf c h h := ⟨Nat.le_refl _, fun _ _ _ => rfl⟩
theorem lf.tr {c c' : List Nat} {h g g' : ax_H} (a : lf c h g) (b : lf c' g g') (hc : c' ⊆ c) : lf c h g' := ⟨Nat.le_trans a.1 b.1, fun q hq hn => (b.2 q (by have := a.1; omega) (fun e => hn (hc e))).trans (a.2 q hq hn)⟩
theorem lf.wid {c c' : List Nat} {h g : ax_H} (a : lf c h g) (hc : c ⊆ c') : lf c' h g := ⟨a.1, fun q hq hn => a.2 q hq (fun e => hn (hc e))⟩
theorem fB.lf {h g : ax_H} (F : fB h.length h g) : lf [] h g := ⟨F.1, fun q hq _ => F.2 q hq⟩
theorem pf.cell {c : List Nat} {h g : ax_H} (F : pf c h g) {q t : Nat} {vs : List Value} (hq : ¬ q ∈ c) (e : h[q]? = some (t, vs)) : g[q]? = some (t, vs) := by
  obtain ⟨vs', e'⟩ := F.1.2 q t vs e
  have : vs' = vs := List.ext_getElem? (fun j => by
    have := F.2 q j hq
    unfold ty_fd at this
    rw [e, e'] at this
    exact this)
  rw [e', this]
theorem pf.lf {c : List Nat} {h g : ax_H} (F : pf c h g) : lf c h g := ⟨F.1.1, fun q hq hn => by
  obtain ⟨⟨t, vs⟩, e⟩ : ∃ x, h[q]? = some x := ⟨_, List.getElem?_eq_getElem hq⟩
  rw [e]
  exact F.cell hn e⟩
theorem lf.fd {c : List Nat} {h g : ax_H} (F : lf c h g) {q : Nat} (hq : q < h.length) (hn : ¬ q ∈ c) (j : Nat) : ty_fd g q j = ty_fd h q j := by
  unfold ty_fd
  rw [F.2 q hq hn]
theorem lf.z {c : List Nat} {h g : ax_H} (F : lf c h g) {q : Nat} (hH : hy_H 0 h) (hq : q < 181) (hn : ¬ q ∈ c) (j : Nat) : hy_z g q j = hy_z h q j := hy_ze (F.fd (by have := hH.1; omega) hn j)
theorem lf.w {c : List Nat} {h g : ax_H} (F : lf c h g) {q : Nat} (hH : hy_H 0 h) (hq : q < 181) (hn : ¬ q ∈ c) (j : Nat) : hw g q j = hw h q j := hw_e (F.fd (by have := hH.1; omega) hn j)
theorem lf.hy {h g : ax_H} (F : lf [] h g) (hH : hy_H 0 h) : hy_H 0 g := hy_far hH (fun k c t _ h2 h3 => ⟨c, by rw [F.2 k (List.getElem?_eq_some_iff.mp h2).1 List.not_mem_nil]; exact h2, h3⟩) (Nat.le_trans hH.1 F.1) (fun q hq => F.2 q (by have := hH.1; omega) List.not_mem_nil)
theorem lf.I {c : List Nat} {h g : ax_H} (F : lf c h g) (hH : hy_H 0 h) (hI : pI h) (h1 : ¬ 24 ∈ c) (h2 : ¬ 0 ∈ c) (h3 : ¬ 15 ∈ c) : pI g := by
  have := hH.1
  exact ⟨(F.fd (by omega) h1 0).trans hI.1, (F.z hH (by decide) h2 17).trans hI.2.1, (F.z hH (by decide) h3 1).trans hI.2.2⟩
theorem lf.C {c : List Nat} {h g : ax_H} (F : lf c h g) (hH : hy_H 0 h) (hC : pC h) (h1 : ¬ 7 ∈ c) : pC g := fun k hk => (F.fd (by have := hH.1; omega) h1 k).trans (hC k hk)
theorem sT.pf {c : List Nat} {h g : ax_H} {a : Nat} {ts : List Int32} (S : sT h a ts) (F : pf c h g) (hH : hy_H 0 h) (hc : ∀ q ∈ c, q < 181 ∧ (ty_tab q).1 ≠ 11 ∧ (ty_tab q).1 ≠ 103) : sT g a ts := by
  have key : ∀ {q t : Nat} {vs : List Value}, h[q]? = some (t, vs) → t = 11 ∨ t = 103 → ¬ q ∈ c := fun {q t vs} e ht hq => by
    obtain ⟨c1, c2, c3⟩ := hc q hq
    obtain ⟨vs', e', -⟩ := hy_cell hH c1
    rw [e] at e'
    cases e'
    exact ht.elim c2 c3
  obtain ⟨S1, S2, S3⟩ := S
  exact ⟨S1, S2, S3.imp (fun ⟨t, y, z, q1, q2, q3, q4⟩ => ⟨t, y, z, q1, F.cell (key q2 (Or.inl rfl)) q2, q3, F.cell (key q4 (Or.inr rfl)) q4⟩) id⟩
theorem fb4 {ts : List Int32} (h : ∀ c ∈ ts, sk c) (f : Nat → Int) (p k : Nat) : fbn f p (wd ts p) 4 k = if p ≤ k ∧ k < p + 4 then (ts.getD k 0).toInt else f k := by
  obtain ⟨w1, w2, w3, w4⟩ := wd_by (sk_gd h p) (sk_gd h (p + 1)) (sk_gd h (p + 2)) (sk_gd h (p + 3))
  show (if k = p + 3 then by4 (wd ts p) 0 else if k = p + 2 then by4 (wd ts p) 8 else if k = p + 1 then by4 (wd ts p) 16 else if k = p + 0 then by4 (wd ts p) 24 else f k) = _
  unfold wd
  rw [w1, w2, w3, w4]
  by_cases e : p ≤ k ∧ k < p + 4
  · rw [if_pos e]
    rcases (by omega : k = p + 3 ∨ k = p + 2 ∨ k = p + 1 ∨ k = p) with rfl | rfl | rfl | rfl
    · rw [if_pos rfl]
    · rw [if_neg (by omega), if_pos rfl]
    · rw [if_neg (by omega), if_neg (by omega), if_pos rfl]
    · rw [if_neg (by omega), if_neg (by omega), if_neg (by omega), if_pos (Nat.add_zero k).symm]
  · rw [if_neg e, if_neg (by omega), if_neg (by omega), if_neg (by omega), if_neg (by omega)]
theorem fb20 {ts : List Int32} (h : ∀ c ∈ ts, sk c) {f : Nat → Int} {p : Nat} (hf : ∀ k, k < p → f k = (ts.getD k 0).toInt) (k : Nat) (hk : k < p + 20) : fbn (fbn (fbn (fbn (fbn f p (wd ts p) 4) (p + 4) (wd ts (p + 4)) 4) (p + 8) (wd ts (p + 8)) 4) (p + 12) (wd ts (p + 12)) 4) (p + 16) (wd ts (p + 16)) 4 k = (ts.getD k 0).toInt := by
  rw [fb4 h]
  split
  · rfl
  rw [fb4 h]
  split
  · rfl
  rw [fb4 h]
  split
  · rfl
  rw [fb4 h]
  split
  · rfl
  rw [fb4 h]
  split
  · rfl
  exact hf k (by omega)
theorem c_put : ∀ q ∈ [1, 2], q < 181 ∧ (ty_tab q).1 ≠ 11 ∧ (ty_tab q).1 ≠ 103 := by decide +kernel
variable {l : Launch} {X : ax_PX} {h : ax_H} {x y c r d : Int32} {a n : Nat} {ts : List Int32}
def tq4 (h : ax_H) (ts : List Int32) : ax_Q := fun res g => res = .inl none ∧ hy_H 0 g ∧ pf [1, 2] h g ∧ hy_z g 1 1 = ts.length ∧ rd (t_B g) 0 ts
theorem t134_57 (hlst : l.stackTraces = false) {g : ax_H} {i : Int32} {m : Nat} (hx : x.toInt = ts.length) (Hg : hy_H 0 g) (Pg : pf [1, 2] h g) (hL : hy_z g 1 1 = m) (hm : ts.length ≤ m) (hv : ∀ k, k < m → hy_z g 2 k = (ts.getD k 0).toInt) : AR ax_ns l (ax_mm 134) 6 ty_R (ax_ret ax_ns (ax_mm 134) (tq4 h ts)) X 57 [(3, .int i), (2, .int x), (1, .ref a), (0, .ref 0)] [] g 0 0 := by
  show AR _ _ _ _ _ _ _ 57 [(3, .int i), (2, .int x), (1, .ref a), (0, .ref 0)] [] g _ _
  obtain ⟨v0, c0⟩ := p_c8 Hg
  refine AR.s (pc' := 58) (lv' := [(3, .int i), (2, .int x), (1, .ref a), (0, .ref 0)]) (st' := [.ref 0]) (h' := g) _ hn_134 hk_134_57 rfl ?_
  refine AR.s (pc' := 59) (lv' := [(3, .int i), (2, .int x), (1, .ref a), (0, .ref 0)]) (st' := [.int x, .ref 0]) (h' := g) _ hn_134 hk_134_58 rfl ?_
  refine AR.jr (r := 0) (as := [.int x]) (rest := []) hk_134_59 (by decide) (by decide +kernel) (by decide) c0 rfl rfl (Nat.le_of_ble_eq_true rfl) (q_71 hlst Hg (by omega) (by omega)) (by decide) (Nat.zero_le _) (Nat.zero_le _) ?_ (fun E h' q => by obtain ⟨-, -, -, _, e⟩ := q; cases e)
  rintro w9 g2 ⟨H2, P2, z2, z9, e⟩
  cases e
  show AR _ _ _ _ _ _ _ 62 [(3, .int i), (2, .int x), (1, .ref a), (0, .ref 0)] [.int z9] g2 _ _
  refine AR.s (pc' := 63) (lv' := [(3, .int i), (2, .int x), (1, .ref a), (0, .ref 0)]) (st' := []) (h' := g2) _ hn_134 hk_134_62 rfl ?_
  refine AR.vret hk_134_63 hr_134 ⟨rfl, H2, Pg.tr P2 (by simp), by omega, fun j => ?_⟩
  unfold t_B
  by_cases e : j < ts.length
  · rw [if_pos (by omega), if_pos e, P2.z (by decide), show (0 + (j : Int)).toNat = j by omega]; exact hv j (by omega)
  · rw [if_neg (by omega), if_neg e]
theorem t134_L (hlst : l.stackTraces = false) (hH : hy_H 0 h) (S : sT h a ts) (hl : ts.length ≤ 40) (hx : x.toInt = ts.length) : ∀ (n m : Nat) (g : ax_H) (i : Int32), m + n = 2 → i.toInt = 20 * (m : Int) → hy_H 0 g → pf [1, 2] h g → hy_z g 1 1 = 20 * (m : Int) → (∀ k, k < 20 * m → hy_z g 2 k = (ts.getD k 0).toInt) → AR ax_ns l (ax_mm 134) 6 ty_R (ax_ret ax_ns (ax_mm 134) (tq4 h ts)) X 2 [(3, .int i), (2, .int x), (1, .ref a), (0, .ref 0)] [] g 0 0 := by
  intro n
  induction n with
  | zero =>
    intro m g i hn hi Hg Pg hL hv
    have Sg := S.pf Pg hH c_put
    show AR _ _ _ _ _ _ _ 2 [(3, .int i), (2, .int x), (1, .ref a), (0, .ref 0)] [] g _ _
    refine AR.s (pc' := 3) (lv' := [(3, .int i), (2, .int x), (1, .ref a), (0, .ref 0)]) (st' := [.int i]) (h' := g) _ hn_134 hk_134_2 rfl ?_
    refine AR.s (pc' := 4) (lv' := [(3, .int i), (2, .int x), (1, .ref a), (0, .ref 0)]) (st' := [.ref a, .int i]) (h' := g) _ hn_134 hk_134_3 rfl ?_
    refine AR.jS (as := []) (rest := [.int i]) hk_134_4 hs_134_4 (by decide +kernel) (by decide +kernel) (by decide +kernel) (ax_wk_mem (ix := 3189) (by decide +kernel)) Sg rfl rfl (Nat.le_of_ble_eq_true rfl) (s_275 hlst Sg) (by decide) (Nat.zero_le _) (Nat.zero_le _) (fun E h' q => by obtain ⟨-, x, e, -⟩ := q; cases e) ?_
    rintro w196 g197 ⟨eg197, z198, e, ez198⟩
    cases e
    obtain rfl := eg197.symm
    show AR _ _ _ _ _ _ _ 7 [(3, .int i), (2, .int x), (1, .ref a), (0, .ref 0)] [.int z198, .int i] g _ _
    refine AR.jge hk_134_7 (tgt := 57) (by decide) (fun p1 => ?_) (fun p2 => ?_)
    · exact t134_57 (m := 20 * m) hlst hx Hg Pg (by omega) (by omega) hv
    · exact absurd p2 (by omega)
  | succ n ih =>
    intro m g i hn hi Hg Pg hL hv
    have Sg := S.pf Pg hH c_put
    show AR _ _ _ _ _ _ _ 2 [(3, .int i), (2, .int x), (1, .ref a), (0, .ref 0)] [] g _ _
    refine AR.s (pc' := 3) (lv' := [(3, .int i), (2, .int x), (1, .ref a), (0, .ref 0)]) (st' := [.int i]) (h' := g) _ hn_134 hk_134_2 rfl ?_
    refine AR.s (pc' := 4) (lv' := [(3, .int i), (2, .int x), (1, .ref a), (0, .ref 0)]) (st' := [.ref a, .int i]) (h' := g) _ hn_134 hk_134_3 rfl ?_
    refine AR.jS (as := []) (rest := [.int i]) hk_134_4 hs_134_4 (by decide +kernel) (by decide +kernel) (by decide +kernel) (ax_wk_mem (ix := 3189) (by decide +kernel)) Sg rfl rfl (Nat.le_of_ble_eq_true rfl) (s_275 hlst Sg) (by decide) (Nat.zero_le _) (Nat.zero_le _) (fun E h' q => by obtain ⟨-, x, e, -⟩ := q; cases e) ?_
    rintro w199 g200 ⟨eg200, z201, e, ez201⟩
    cases e
    obtain rfl := eg200.symm
    show AR _ _ _ _ _ _ _ 7 [(3, .int i), (2, .int x), (1, .ref a), (0, .ref 0)] [.int z201, .int i] g _ _
    refine AR.jge hk_134_7 (tgt := 57) (by decide) (fun p1 => ?_) (fun p2 => ?_)
    · exact t134_57 (m := 20 * m) hlst hx Hg Pg (by omega) (by omega) hv
    · refine AR.s (pc' := 11) (lv' := [(3, .int i), (2, .int x), (1, .ref a), (0, .ref 0)]) (st' := [.ref 0]) (h' := g) _ hn_134 hk_134_10 rfl ?_
      refine AR.s (pc' := 12) (lv' := [(3, .int i), (2, .int x), (1, .ref a), (0, .ref 0)]) (st' := [.ref a, .ref 0]) (h' := g) _ hn_134 hk_134_11 rfl ?_
      refine AR.s (pc' := 13) (lv' := [(3, .int i), (2, .int x), (1, .ref a), (0, .ref 0)]) (st' := [.int i, .ref a, .ref 0]) (h' := g) _ hn_134 hk_134_12 rfl ?_
      refine AR.cs (as := [.ref a, .int i]) (rest := [.ref 0]) hk_134_13 (by decide +kernel) rfl rfl (Nat.le_of_ble_eq_true rfl) (t_133 hlst (p := 20 * m) Sg (by omega) (by omega)) (by decide) (Nat.zero_le _) (Nat.zero_le _) (fun E h' q => by cases q.2) ?_
      rintro w09 g09 ⟨e09, e⟩
      cases e
      obtain rfl := e09.symm
      show AR _ _ _ _ _ _ _ 16 [(3, .int i), (2, .int x), (1, .ref a), (0, .ref 0)] [.int (wd ts (20 * m)), .ref 0] g _ _
      refine AR.s (pc' := 17) (lv' := [(3, .int i), (2, .int x), (1, .ref a), (0, .ref 0)]) (st' := [.ref a, .int (wd ts (20 * m)), .ref 0]) (h' := g) _ hn_134 hk_134_16 rfl ?_
      refine AR.s (pc' := 18) (lv' := [(3, .int i), (2, .int x), (1, .ref a), (0, .ref 0)]) (st' := [.int i, .ref a, .int (wd ts (20 * m)), .ref 0]) (h' := g) _ hn_134 hk_134_17 rfl ?_
      refine AR.iconstT hk_134_18 (by decide) (fun z202 ez202 => ?_)
      show AR _ _ _ _ _ _ _ 19 [(3, .int i), (2, .int x), (1, .ref a), (0, .ref 0)] [.int z202, .int i, .ref a, .int (wd ts (20 * m)), .ref 0] g _ _
      refine AR.addT hk_134_19 (by omega) (by omega) (fun z203 ez203 => ?_)
      show AR _ _ _ _ _ _ _ 20 [(3, .int i), (2, .int x), (1, .ref a), (0, .ref 0)] [.int z203, .ref a, .int (wd ts (20 * m)), .ref 0] g _ _
      refine AR.cs (as := [.ref a, .int z203]) (rest := [.int (wd ts (20 * m)), .ref 0]) hk_134_20 (by decide +kernel) rfl rfl (Nat.le_of_ble_eq_true rfl) (t_133 hlst (p := 20 * m + 4) Sg (by omega) (by omega)) (by decide) (Nat.zero_le _) (Nat.zero_le _) (fun E h' q => by cases q.2) ?_
      rintro w19 g19 ⟨e19, e⟩
      cases e
      obtain rfl := e19.symm
      show AR _ _ _ _ _ _ _ 23 [(3, .int i), (2, .int x), (1, .ref a), (0, .ref 0)] [.int (wd ts (20 * m + 4)), .int (wd ts (20 * m)), .ref 0] g _ _
      refine AR.s (pc' := 24) (lv' := [(3, .int i), (2, .int x), (1, .ref a), (0, .ref 0)]) (st' := [.ref a, .int (wd ts (20 * m + 4)), .int (wd ts (20 * m)), .ref 0]) (h' := g) _ hn_134 hk_134_23 rfl ?_
      refine AR.s (pc' := 25) (lv' := [(3, .int i), (2, .int x), (1, .ref a), (0, .ref 0)]) (st' := [.int i, .ref a, .int (wd ts (20 * m + 4)), .int (wd ts (20 * m)), .ref 0]) (h' := g) _ hn_134 hk_134_24 rfl ?_
      refine AR.bipushT hk_134_25 (by decide) (fun z204 ez204 => ?_)
      show AR _ _ _ _ _ _ _ 27 [(3, .int i), (2, .int x), (1, .ref a), (0, .ref 0)] [.int z204, .int i, .ref a, .int (wd ts (20 * m + 4)), .int (wd ts (20 * m)), .ref 0] g _ _
      refine AR.addT hk_134_27 (by omega) (by omega) (fun z205 ez205 => ?_)
      show AR _ _ _ _ _ _ _ 28 [(3, .int i), (2, .int x), (1, .ref a), (0, .ref 0)] [.int z205, .ref a, .int (wd ts (20 * m + 4)), .int (wd ts (20 * m)), .ref 0] g _ _
      refine AR.cs (as := [.ref a, .int z205]) (rest := [.int (wd ts (20 * m + 4)), .int (wd ts (20 * m)), .ref 0]) hk_134_28 (by decide +kernel) rfl rfl (Nat.le_of_ble_eq_true rfl) (t_133 hlst (p := 20 * m + 8) Sg (by omega) (by omega)) (by decide) (Nat.zero_le _) (Nat.zero_le _) (fun E h' q => by cases q.2) ?_
      rintro w29 g29 ⟨e29, e⟩
      cases e
      obtain rfl := e29.symm
      show AR _ _ _ _ _ _ _ 31 [(3, .int i), (2, .int x), (1, .ref a), (0, .ref 0)] [.int (wd ts (20 * m + 8)), .int (wd ts (20 * m + 4)), .int (wd ts (20 * m)), .ref 0] g _ _
      refine AR.s (pc' := 32) (lv' := [(3, .int i), (2, .int x), (1, .ref a), (0, .ref 0)]) (st' := [.ref a, .int (wd ts (20 * m + 8)), .int (wd ts (20 * m + 4)), .int (wd ts (20 * m)), .ref 0]) (h' := g) _ hn_134 hk_134_31 rfl ?_
      refine AR.s (pc' := 33) (lv' := [(3, .int i), (2, .int x), (1, .ref a), (0, .ref 0)]) (st' := [.int i, .ref a, .int (wd ts (20 * m + 8)), .int (wd ts (20 * m + 4)), .int (wd ts (20 * m)), .ref 0]) (h' := g) _ hn_134 hk_134_32 rfl ?_
      refine AR.bipushT hk_134_33 (by decide) (fun z206 ez206 => ?_)
      show AR _ _ _ _ _ _ _ 35 [(3, .int i), (2, .int x), (1, .ref a), (0, .ref 0)] [.int z206, .int i, .ref a, .int (wd ts (20 * m + 8)), .int (wd ts (20 * m + 4)), .int (wd ts (20 * m)), .ref 0] g _ _
      refine AR.addT hk_134_35 (by omega) (by omega) (fun z207 ez207 => ?_)
      show AR _ _ _ _ _ _ _ 36 [(3, .int i), (2, .int x), (1, .ref a), (0, .ref 0)] [.int z207, .ref a, .int (wd ts (20 * m + 8)), .int (wd ts (20 * m + 4)), .int (wd ts (20 * m)), .ref 0] g _ _
      refine AR.cs (as := [.ref a, .int z207]) (rest := [.int (wd ts (20 * m + 8)), .int (wd ts (20 * m + 4)), .int (wd ts (20 * m)), .ref 0]) hk_134_36 (by decide +kernel) rfl rfl (Nat.le_of_ble_eq_true rfl) (t_133 hlst (p := 20 * m + 12) Sg (by omega) (by omega)) (by decide) (Nat.zero_le _) (Nat.zero_le _) (fun E h' q => by cases q.2) ?_
      rintro w39 g39 ⟨e39, e⟩
      cases e
      obtain rfl := e39.symm
      show AR _ _ _ _ _ _ _ 39 [(3, .int i), (2, .int x), (1, .ref a), (0, .ref 0)] [.int (wd ts (20 * m + 12)), .int (wd ts (20 * m + 8)), .int (wd ts (20 * m + 4)), .int (wd ts (20 * m)), .ref 0] g _ _
      refine AR.s (pc' := 40) (lv' := [(3, .int i), (2, .int x), (1, .ref a), (0, .ref 0)]) (st' := [.ref a, .int (wd ts (20 * m + 12)), .int (wd ts (20 * m + 8)), .int (wd ts (20 * m + 4)), .int (wd ts (20 * m)), .ref 0]) (h' := g) _ hn_134 hk_134_39 rfl ?_
      refine AR.s (pc' := 41) (lv' := [(3, .int i), (2, .int x), (1, .ref a), (0, .ref 0)]) (st' := [.int i, .ref a, .int (wd ts (20 * m + 12)), .int (wd ts (20 * m + 8)), .int (wd ts (20 * m + 4)), .int (wd ts (20 * m)), .ref 0]) (h' := g) _ hn_134 hk_134_40 rfl ?_
      refine AR.bipushT hk_134_41 (by decide) (fun z208 ez208 => ?_)
      show AR _ _ _ _ _ _ _ 43 [(3, .int i), (2, .int x), (1, .ref a), (0, .ref 0)] [.int z208, .int i, .ref a, .int (wd ts (20 * m + 12)), .int (wd ts (20 * m + 8)), .int (wd ts (20 * m + 4)), .int (wd ts (20 * m)), .ref 0] g _ _
      refine AR.addT hk_134_43 (by omega) (by omega) (fun z209 ez209 => ?_)
      show AR _ _ _ _ _ _ _ 44 [(3, .int i), (2, .int x), (1, .ref a), (0, .ref 0)] [.int z209, .ref a, .int (wd ts (20 * m + 12)), .int (wd ts (20 * m + 8)), .int (wd ts (20 * m + 4)), .int (wd ts (20 * m)), .ref 0] g _ _
      refine AR.cs (as := [.ref a, .int z209]) (rest := [.int (wd ts (20 * m + 12)), .int (wd ts (20 * m + 8)), .int (wd ts (20 * m + 4)), .int (wd ts (20 * m)), .ref 0]) hk_134_44 (by decide +kernel) rfl rfl (Nat.le_of_ble_eq_true rfl) (t_133 hlst (p := 20 * m + 16) Sg (by omega) (by omega)) (by decide) (Nat.zero_le _) (Nat.zero_le _) (fun E h' q => by cases q.2) ?_
      rintro w49 g49 ⟨e49, e⟩
      cases e
      obtain rfl := e49.symm
      show AR _ _ _ _ _ _ _ 47 [(3, .int i), (2, .int x), (1, .ref a), (0, .ref 0)] [.int (wd ts (20 * m + 16)), .int (wd ts (20 * m + 12)), .int (wd ts (20 * m + 8)), .int (wd ts (20 * m + 4)), .int (wd ts (20 * m)), .ref 0] g _ _
      obtain ⟨v0, c0⟩ := p_c8 Hg
      refine AR.jr (r := 0) (as := [.int (wd ts (20 * m)), .int (wd ts (20 * m + 4)), .int (wd ts (20 * m + 8)), .int (wd ts (20 * m + 12)), .int (wd ts (20 * m + 16))]) (rest := []) hk_134_47 (by decide) (by decide +kernel) (by decide) c0 rfl rfl (Nat.le_of_ble_eq_true rfl) (q_70 hlst (L := 20 * m) Hg (by omega) (by omega)) (by decide) (Nat.zero_le _) (Nat.zero_le _) ?_ (fun E h' q => by obtain ⟨-, -, -, -, _, e⟩ := q; cases e)
      rintro w9 g2 ⟨H2, P2, n2, v2, z9, e⟩
      cases e
      show AR _ _ _ _ _ _ _ 50 [(3, .int i), (2, .int x), (1, .ref a), (0, .ref 0)] [.int z9] g2 _ _
      refine AR.s (pc' := 51) (lv' := [(3, .int i), (2, .int x), (1, .ref a), (0, .ref 0)]) (st' := []) (h' := g2) _ hn_134 hk_134_50 rfl ?_
      refine AR.iincT hk_134_51 (x := i) rfl (by rw [hn_134]; decide) (by decide) (by omega) (by omega) (fun z210 ez210 => ?_)
      show AR _ _ _ _ _ _ _ 54 [(3, .int z210), (2, .int x), (1, .ref a), (0, .ref 0)] [] g2 _ _
      refine AR.gotoT hk_134_54 (tgt := 2) (by decide) ?_
      refine AR.lessL (lv' := [(3, .int z210), (2, .int x), (1, .ref a), (0, .ref 0)]) (List.forall_mem_cons.mpr ⟨⟨_, by simp, ax_le_rfl rfl⟩, (List.forall_mem_cons.mpr ⟨⟨_, by simp, ax_le_rfl rfl⟩, (List.forall_mem_cons.mpr ⟨⟨_, by simp, ax_le_rfl rfl⟩, (List.forall_mem_cons.mpr ⟨⟨_, by simp, ax_le_rfl rfl⟩, (fun _ h => absurd h List.not_mem_nil)⟩)⟩)⟩)⟩) ?_
      exact ih (m + 1) g2 _ (by omega) (by omega) H2 (Pg.tr P2 (fun _ q => q)) (by omega) (fun k hk => by rw [v2]; exact fb20 S.1 hv k (by omega))
theorem t_134 (hlst : l.stackTraces = false) (hH : hy_H 0 h) (S : sT h a ts) (hl : ts.length ≤ 40) (hx : x.toInt = ts.length) (h0 : hy_z h 1 1 = 0) : AM ax_ns l (ax_mm 134) 6 ty_R (0) (0) [.ref 0, .ref a, .int x] h (tq4 h ts) := by
  refine AM.of (ax_mfacts (by decide +kernel : ax_has 134 = true)).2.2.2.2.2.2 hlst (by rw [hn_134]; exact Nat.le_of_ble_eq_true rfl) ?_
  show AR ax_ns l (ax_mm 134) 6 ty_R _ _ 0 [(0, .ref 0), (1, .ref a), (2, .int x)] [] h (0) (0)
  refine AR.iconstT hk_134_0 (by decide) (fun z211 ez211 => ?_)
  show AR _ _ _ _ _ _ _ 1 [(0, .ref 0), (1, .ref a), (2, .int x)] [.int z211] h _ _
  refine AR.s (pc' := 2) (lv' := [(3, .int z211), (0, .ref 0), (1, .ref a), (2, .int x)]) (st' := []) (h' := h) _ hn_134 hk_134_1 rfl ?_
  refine AR.lessL (lv' := [(3, .int z211), (2, .int x), (1, .ref a), (0, .ref 0)]) (List.forall_mem_cons.mpr ⟨⟨_, by simp, ax_le_rfl rfl⟩, (List.forall_mem_cons.mpr ⟨⟨_, by simp, ax_le_rfl rfl⟩, (List.forall_mem_cons.mpr ⟨⟨_, by simp, ax_le_rfl rfl⟩, (List.forall_mem_cons.mpr ⟨⟨_, by simp, ax_le_rfl rfl⟩, (fun _ h => absurd h List.not_mem_nil)⟩)⟩)⟩)⟩) ?_
  exact t134_L hlst hH S hl hx 2 0 h _ rfl (by omega) hH (pf_r _ _) (by omega) (fun k hk => absurd hk (by omega))
theorem qA_val (c : Int32) : ∀ (n v : Nat) (f : Nat → Int) (k : Nat), q_A f (tms c v n) k = f k + (if v ≤ k / 2 ∧ k / 2 < v + n ∧ k % 2 = (if ng c (k / 2) then 1 else 0) then co c (k / 2) else 0)
  | 0, v, f, k => by
    show f k = _
    rw [if_neg (by omega)]
    omega
  | n + 1, v, f, k => by
    show q_A (fun k => if k = (tm c v).1 then f k + (tm c v).2 else f k) (tms c (v + 1) n) k = _
    rw [qA_val c n (v + 1)]
    show (if k = 2 * v + (if ng c v then 1 else 0) then f k + co c v else f k) + _ = _
    by_cases e : k / 2 = v
    · subst e
      rw [if_neg (by omega : ¬ (k / 2 + 1 ≤ k / 2 ∧ _))]
      by_cases e2 : k % 2 = (if ng c (k / 2) then 1 else 0)
      · rw [if_pos (by rw [← e2]; omega), if_pos ⟨by omega, by omega, e2⟩]
        omega
      · rw [if_neg (fun z => e2 (by omega)), if_neg (fun z => e2 z.2.2)]
    · rw [if_neg (by split <;> omega)]
      congr 1
      by_cases e2 : v ≤ k / 2 ∧ k / 2 < v + (n + 1) ∧ k % 2 = (if ng c (k / 2) then 1 else 0)
      · rw [if_pos e2, if_pos ⟨by omega, by omega, e2.2.2⟩]
      · rw [if_neg e2, if_neg (fun z => e2 ⟨by omega, by omega, z.2.2⟩)]
def qe (c : Int32) (k : Nat) : Int := q_A (fun _ => 0) (tms c 0 6) k
theorem qe_val (c : Int32) (k : Nat) : qe c k = if k / 2 < 6 ∧ k % 2 = (if ng c (k / 2) then 1 else 0) then co c (k / 2) else 0 := by
  unfold qe
  rw [qA_val, Int.zero_add]
  by_cases e : k / 2 < 6 ∧ k % 2 = (if ng c (k / 2) then 1 else 0)
  · rw [if_pos e, if_pos ⟨by omega, by omega, e.2⟩]
  · rw [if_neg e, if_neg (fun z => e ⟨by omega, z.2.2⟩)]
theorem qe_bd (c : Int32) (k : Nat) : -3 ≤ qe c k ∧ qe c k ≤ 3 := by
  have := co_bd c (k / 2)
  rw [qe_val]
  split <;> omega
theorem qe_out (c : Int32) (k : Nat) (h : 12 ≤ k) : qe c k = 0 := by rw [qe_val, if_neg (by omega)]
theorem qe_ev (c : Int32) (n : Nat) (h : n < 6) : qe c (2 * n) = (if ng c n then 0 else co c n) ∧ qe c (2 * n + 1) = (if ng c n then co c n else 0) := by
  rw [qe_val, qe_val, show 2 * n / 2 = n by omega, show (2 * n + 1) / 2 = n by omega]
  cases e : ng c n <;> simp only [Bool.false_eq_true, if_true, if_false] <;> constructor
  · rw [if_pos (by omega)]
  · rw [if_neg (by omega)]
  · rw [if_neg (by omega)]
  · rw [if_pos (by omega)]
theorem cv_qe (c : Int32) (s : Int) (M : Nat) : ∀ n, n ≤ 6 → cv (fun k => s * qe c k) M n = s * fs c M n
  | 0, _ => by show (0 : Int) = s * 0; omega
  | n + 1, h => by
    obtain ⟨e1, e2⟩ := qe_ev c n (by omega)
    show cv (fun k => s * qe c k) M n + (if M.testBit n then s * qe c (2 * n) else s * qe c (2 * n + 1)) = s * (fs c M n + (if M.testBit n = !(ng c n) then co c n else 0))
    rw [cv_qe c s M n (by omega), e1, e2, Int.mul_add]
    cases M.testBit n <;> cases ng c n <;> simp
theorem sd_le {e : Nat → Int} {b : Int} (he : ∀ k, -3 ≤ e k) : ∀ n, sd e b n ≤ b + 3 * (n : Int)
  | 0 => by show b ≤ b + 3 * 0; omega
  | n + 1 => by
    have a := sd_le (b := b) he n
    have c := he n
    show sd e b n + max 0 (-(e n)) ≤ _
    omega
theorem ft_le {e : Nat → Int} (he : ∀ k, -3 ≤ e k ∧ e k ≤ 3) (k : Nat) : 0 ≤ ft e 24 k ∧ ft e 24 k ≤ 6 := by
  have a := he k
  have b := he (k ^^^ 1)
  unfold ft
  split <;> split <;> omega
/-- behind a post of (c, r, d) -/
def tP (h : ax_H) (n p : Nat) (F : Nat → Bool) : ax_Q := fun res g => hy_H 0 g ∧ pI g ∧ pC g ∧ lf [0, 1, 2, 3, 4, 8, 9, 13, 14, 17, 18, 148, p, p + 1] h g ∧ (∃ z : Int32, res = .inl (some (.int z)) ∧ z.toInt = n) ∧ hy_z g 0 5 = (n : Int) + 1 ∧ hy_z g 1 1 = 0 ∧ (0 ≤ hy_z g p 1 ∧ hy_z g p 1 ≤ 100) ∧ (∀ k, k < 24 → 0 ≤ hy_z g (p + 1) k ∧ hy_z g (p + 1) k ≤ 100) ∧ (∀ m, m < 12 → hy_z g (p + 1) (2 * m) ≤ 0 ∨ hy_z g (p + 1) (2 * m + 1) ≤ 0) ∧ (∀ w, w < 64 → ∀ k, k < 64 → pb (hw g 148 w) k = (pb (hw h 148 w) k && F k)) ∧ ∀ w, w < 64 → ∀ k, k < 64 → (hy_z g p 1 ≤ sm (hy_z g (p + 1)) w k ↔ F k = true)
/-- a constraint of the text, at a mask -/
theorem post_F {s b : Int} {c : Int32} {C : Nat → Int} (hC : ∀ k, k < 24 → C k = nf (ft (fun k => s * qe c k) 24) k) {w k : Nat} (hw : w < 64) (hk : k < 64) : nd (ft (fun k => s * qe c k) 24) (sd (fun k => s * qe c k) b 24) 12 ≤ sm C w k ↔ b ≤ s * fs c k 6 := by
  rw [sm_cv C hk hw, cv_c24 hC, post_iff, cv_six (fun k hk => by rw [qe_out c k hk, Int.mul_zero]) hk, cv_qe c s k 6 (by decide)]
theorem fu_iff7 {r d S : Int} (h : r = 0) : (1 * d ≤ 1 * S) ↔ fu r d S = true := by rw [fu_0 h, decide_eq_true_iff]; omega
theorem fu_iff8 {r d S : Int} (h : r ≠ 0) : (-1 * d ≤ -1 * S) ↔ fu r d S = true := by rw [fu_1 h, decide_eq_true_iff]; omega
theorem tP_of {s b : Int} {c : Int32} {n p : Nat} {F : Nat → Bool} {h h' g : ax_H} {res : Option Value ⊕ String} (hp : p < 180) (L : lf [0, 1, 2, 3, 4, 8, 9, 13, 14, 17, 18, 148, p, p + 1] h h') (hs : s = 1 ∨ s = -1) (hb : b ≤ 9) (hW : ∀ w, hw h' 148 w = hw h 148 w) (hF : ∀ k, k < 64 → (b ≤ s * fs c k 6 ↔ F k = true)) (q : pP h' n p (ft (fun k => s * qe c k) 24) (sd (fun k => s * qe c k) b 24) res g) : tP h n p F res g := by
  obtain ⟨q1, q2, q3, q4, q5, q6, q7, q8, q9, q10⟩ := q
  have eb : ∀ k, -3 ≤ s * qe c k ∧ s * qe c k ≤ 3 := fun k => by
    have := qe_bd c k
    rcases hs with rfl | rfl <;> omega
  have f0 := ft_le eb
  have n1 := nf_le (b := 100) (fun k (_ : k < 24) => ⟨(f0 k).1, by have := (f0 k).2; omega⟩)
  have d0 := sd_le (b := b) (fun k => (eb k).1) 24
  have n2 := nd_le (f := ft (fun k => s * qe c k) 24) (d := sd (fun k => s * qe c k) b 24) (b := 100) (fun k _ => (f0 k).1) (by omega) (by decide)
  have key : ∀ w, w < 64 → ∀ k, k < 64 → (hy_z g p 1 ≤ sm (hy_z g (p + 1)) w k ↔ F k = true) := fun w hw k hk => by
    rw [q8]
    exact (post_F q9 hw hk).trans (hF k hk)
  refine ⟨q1, q2, q3, L.tr q4.lf (by intro x hx; simp only [List.mem_cons, List.not_mem_nil, or_false] at hx ⊢; omega), q5, q6, q7, by rw [q8]; exact n2, fun k hk => by rw [q9 k hk]; exact n1 k hk, fun m hm => by rw [q9 _ (by omega), q9 _ (by omega)]; exact nf_pair _ m, fun w hw k hk => ?_, key⟩
  rw [q10 w hw k hk, hW w]
  congr 1
  rw [← q8]
  have := key w hw k hk
  cases e : F k with
  | true => exact decide_eq_true (this.mpr e)
  | false => exact decide_eq_false (fun z => by rw [this.mp z] at e; cases e)
theorem t_139 (hlst : l.stackTraces = false) {p : Nat} (hH : hy_H 0 h) (hI : pI h) (hC : pC h) (hn : hy_z h 0 5 = n) (hn2 : n < 60) (hp : p = 27 + 2 * n) (h0 : hy_z h 1 1 = 0) (hr : r.toInt = 0 ∨ r.toInt = 1) (hd : -3 ≤ d.toInt ∧ d.toInt ≤ 3) : AM ax_ns l (ax_mm 139) 7 ty_R (200) (8000) [.ref 0, .int c, .int r, .int d] h (tP h n p (fun k => fu r.toInt d.toInt (fs c k 6))) := by
  refine AM.of (ax_mfacts (by decide +kernel : ax_has 139 = true)).2.2.2.2.2.2 hlst (by rw [hn_139]; exact Nat.le_of_ble_eq_true rfl) ?_
  show AR ax_ns l (ax_mm 139) 7 ty_R _ _ 0 [(0, .ref 0), (1, .int c), (2, .int r), (3, .int d)] [] h (200) (8000)
  refine AR.s (pc' := 1) (lv' := [(0, .ref 0), (1, .int c), (2, .int r), (3, .int d)]) (st' := [.int c]) (h' := h) _ hn_139 hk_139_0 rfl ?_
  refine AR.s (pc' := 2) (lv' := [(0, .ref 0), (1, .int c), (2, .int r), (3, .int d)]) (st' := [.int r, .int c]) (h' := h) _ hn_139 hk_139_1 rfl ?_
  refine AR.s (pc' := 3) (lv' := [(0, .ref 0), (1, .int c), (2, .int r), (3, .int d)]) (st' := [.int d, .int r, .int c]) (h' := h) _ hn_139 hk_139_2 rfl ?_
  refine AR.cs (as := [.int c, .int r, .int d]) (rest := []) hk_139_3 (by decide +kernel) rfl rfl (Nat.le_of_ble_eq_true rfl) (t_137 hlst hr (by omega)) (by decide) (by omega) (by omega) (fun E h' q => by obtain ⟨_, e, -⟩ := q; cases e) ?_
  rintro w1 g1 ⟨a1, e, F1, T1⟩
  cases e
  have L1 := F1.lf
  have H1 := L1.hy hH
  have t0 := tx_len c r.toInt d.toInt
  show AR _ _ _ _ _ _ _ 6 [(0, .ref 0), (1, .int c), (2, .int r), (3, .int d)] [.ref a1] g1 _ _
  refine AR.s (pc' := 8) (lv' := [(4, .ref a1), (0, .ref 0), (1, .int c), (2, .int r), (3, .int d)]) (st' := []) (h' := g1) _ hn_139 hk_139_6 rfl ?_
  refine AR.s (pc' := 9) (lv' := [(4, .ref a1), (0, .ref 0), (1, .int c), (2, .int r), (3, .int d)]) (st' := [.ref 0]) (h' := g1) _ hn_139 hk_139_8 rfl ?_
  refine AR.s (pc' := 11) (lv' := [(4, .ref a1), (0, .ref 0), (1, .int c), (2, .int r), (3, .int d)]) (st' := [.ref a1, .ref 0]) (h' := g1) _ hn_139 hk_139_9 rfl ?_
  refine AR.s (pc' := 13) (lv' := [(4, .ref a1), (0, .ref 0), (1, .int c), (2, .int r), (3, .int d)]) (st' := [.ref a1, .ref a1, .ref 0]) (h' := g1) _ hn_139 hk_139_11 rfl ?_
  refine AR.jS (as := []) (rest := [.ref a1, .ref 0]) hk_139_13 hs_139_13 (by decide +kernel) (by decide +kernel) (by decide +kernel) (ax_wk_mem (ix := 3189) (by decide +kernel)) T1 rfl rfl (Nat.le_of_ble_eq_true rfl) (s_275 hlst T1) (by decide) (Nat.zero_le _) (Nat.zero_le _) (fun E h' q => by obtain ⟨-, x, e, -⟩ := q; cases e) ?_
  rintro w212 g213 ⟨eg213, z214, e, ez214⟩
  cases e
  obtain rfl := eg213.symm
  show AR _ _ _ _ _ _ _ 16 [(4, .ref a1), (0, .ref 0), (1, .int c), (2, .int r), (3, .int d)] [.int z214, .ref a1, .ref 0] g1 _ _
  have z1 : hy_z g1 1 1 = 0 := (L1.z hH (by decide) List.not_mem_nil 1).trans h0
  show AR _ _ _ _ _ _ _ 16 [(4, .ref a1), (0, .ref 0), (1, .int c), (2, .int r), (3, .int d)] [.int z214, .ref a1, .ref 0] g1 _ _
  refine AR.cs (as := [.ref 0, .ref a1, .int z214]) (rest := []) hk_139_16 (by decide +kernel) rfl rfl (Nat.le_of_ble_eq_true rfl) (t_134 hlst H1 T1 (by omega) ez214 z1) (by decide) (Nat.zero_le _) (Nat.zero_le _) (fun E h' q => by cases q.1) ?_
  rintro w2 g2 ⟨e, H2, P2, n2, R2⟩
  cases e
  show AR _ _ _ _ _ _ _ 19 [(4, .ref a1), (0, .ref 0), (1, .int c), (2, .int r), (3, .int d)] [] g2 _ _
  refine AR.s (pc' := 20) (lv' := [(4, .ref a1), (0, .ref 0), (1, .int c), (2, .int r), (3, .int d)]) (st' := [.ref 0]) (h' := g2) _ hn_139 hk_139_19 rfl ?_
  have I1 := L1.I hH hI List.not_mem_nil List.not_mem_nil List.not_mem_nil
  have C1 := L1.C hH hC List.not_mem_nil
  have I2 := I1.go P2 (by decide) (by decide) (by decide)
  have C2 := C1.go P2 (by decide)
  have nn2 : hy_z g2 0 5 = n := (P2.z (by decide) 5).trans ((L1.z hH (by decide) List.not_mem_nil 5).trans hn)
  have QC := qC_of R2 hd
  have L2 : lf [0, 1, 2, 3, 4, 8, 9, 13, 14, 17, 18, 148, p, p + 1] h g2 := (L1.wid (List.nil_subset _)).tr P2.lf (by intro x hx; simp only [List.mem_cons, List.not_mem_nil, or_false] at hx ⊢; omega)
  have W2 : ∀ w, hw g2 148 w = hw h 148 w := fun w => (P2.w (by decide) w).trans (L1.w hH (by decide) List.not_mem_nil w)
  have hA : ∀ k, k < 24 → -1000 ≤ q_A (fun _ => 0) (tms c 0 6) k ∧ q_A (fun _ => 0) (tms c 0 6) k ≤ 1000 := fun k _ => by have := qe_bd c k; unfold qe at this; omega
  obtain ⟨v0, c0⟩ := p_c8 H2
  show AR _ _ _ _ _ _ _ 20 [(4, .ref a1), (0, .ref 0), (1, .int c), (2, .int r), (3, .int d)] [.ref 0] g2 _ _
  by_cases e0 : r.toInt = 0
  · rw [if_pos e0] at QC
    refine AR.jr (r := 0) (as := []) (rest := []) hk_139_20 (by decide) (by decide +kernel) (by decide) c0 rfl rfl (Nat.le_of_ble_eq_true rfl) (q_72_7 hlst H2 I2 C2 QC hA (by omega) nn2 hn2 hp) (by decide) (by omega) (by omega) ?_ (fun E h' q => by obtain ⟨-, -, -, -, ⟨_, e, -⟩, -⟩ := q; cases e)
    rintro w3 g3 q3
    have R3 : tP h n p (fun k => fu r.toInt d.toInt (fs c k 6)) (.inl w3) g3 := tP_of (s := 1) (b := 1 * d.toInt) (c := c) (by omega) L2 (by decide) (by omega) W2 (fun k hk => fu_iff7 e0) q3
    obtain ⟨z3, e3⟩ : ∃ z3 : Int32, w3 = some (.int z3) := by obtain ⟨-, -, -, -, ⟨z, e, -⟩, -⟩ := R3; cases e; exact ⟨z, rfl⟩
    subst e3
    show AR _ _ _ _ _ _ _ 23 [(4, .ref a1), (0, .ref 0), (1, .int c), (2, .int r), (3, .int d)] [.int z3] g3 _ _
    exact AR.iret hk_139_23 hr_139 R3
  · rw [if_neg e0] at QC
    refine AR.jr (r := 0) (as := []) (rest := []) hk_139_20 (by decide) (by decide +kernel) (by decide) c0 rfl rfl (Nat.le_of_ble_eq_true rfl) (q_72_8 hlst H2 I2 C2 QC hA (by omega) nn2 hn2 hp) (by decide) (by omega) (by omega) ?_ (fun E h' q => by obtain ⟨-, -, -, -, ⟨_, e, -⟩, -⟩ := q; cases e)
    rintro w3 g3 q3
    have R3 : tP h n p (fun k => fu r.toInt d.toInt (fs c k 6)) (.inl w3) g3 := tP_of (s := -1) (b := -1 * d.toInt) (c := c) (by omega) L2 (by decide) (by omega) W2 (fun k hk => fu_iff8 e0) q3
    obtain ⟨z3, e3⟩ : ∃ z3 : Int32, w3 = some (.int z3) := by obtain ⟨-, -, -, -, ⟨z, e, -⟩, -⟩ := R3; cases e; exact ⟨z, rfl⟩
    subst e3
    show AR _ _ _ _ _ _ _ 23 [(4, .ref a1), (0, .ref 0), (1, .int c), (2, .int r), (3, .int d)] [.int z3] g3 _ _
    exact AR.iret hk_139_23 hr_139 R3
def tq0 (h : ax_H) (Y N : Nat) : ax_Q := fun res g => hy_H 0 g ∧ lf [21, 22] h g ∧ ∃ z : Int32, res = .inl (some (.int z)) ∧ ((z.toInt = -1 ∧ ∃ w k, w < 64 ∧ k < 64 ∧ hm h Y N w k = true) ∨ ((∀ w, w < 64 → ∀ k, k < 64 → hm h Y N w k = false) ∧ ∃ V, rs h Y N V ∧ z.toInt = cnt (uV V N) 24 ∧ hy_z g 21 1 = cnt (uV V N) 24 ∧ ∀ k, k < 24 → uV V N k = true → hy_z g 22 (cnt (uV V N) k) = k))
theorem t_140 (hlst : l.stackTraces = false) {Y N : Nat} (hH : hy_H 0 h) (hI : pI h) (hx : x.toInt = Y) (hY : Y < 64) (hy : y.toInt = N) (hN : N < 64) (hYN : Y &&& N = 0) : AM ax_ns l (ax_mm 140) 4 ty_R (1) (6) [.ref 0, .int x, .int y] h (tq0 h Y N) := by
  refine AM.of (ax_mfacts (by decide +kernel : ax_has 140 = true)).2.2.2.2.2.2 hlst (by rw [hn_140]; exact Nat.le_of_ble_eq_true rfl) ?_
  show AR ax_ns l (ax_mm 140) 4 ty_R _ _ 0 [(0, .ref 0), (1, .int x), (2, .int y)] [] h (1) (6)
  obtain ⟨v0, c0⟩ := p_c8 hH
  show AR _ _ _ _ _ _ _ 0 [(0, .ref 0), (1, .int x), (2, .int y)] [] h _ _
  refine AR.s (pc' := 1) (lv' := [(0, .ref 0), (1, .int x), (2, .int y)]) (st' := [.ref 0]) (h' := h) _ hn_140 hk_140_0 rfl ?_
  refine AR.s (pc' := 2) (lv' := [(0, .ref 0), (1, .int x), (2, .int y)]) (st' := [.int x, .ref 0]) (h' := h) _ hn_140 hk_140_1 rfl ?_
  refine AR.s (pc' := 3) (lv' := [(0, .ref 0), (1, .int x), (2, .int y)]) (st' := [.int y, .int x, .ref 0]) (h' := h) _ hn_140 hk_140_2 rfl ?_
  refine AR.jr (r := 0) (as := [.int x, .int y]) (rest := []) hk_140_3 (by decide) (by decide +kernel) (by decide) c0 rfl rfl (Nat.le_of_ble_eq_true rfl) (p_106 hlst hH hI hx hY hy hN hYN) (by decide) (Nat.le_refl _) (Nat.le_refl _) ?_ (fun E g q => ?_)
  · rintro w1 g1 ⟨H1, P1, q⟩
    rcases q with ⟨e, -⟩ | ⟨q1, V, q2, ⟨z, e, ez⟩, q3, q4⟩
    · cases e
    cases e
    show AR _ _ _ _ _ _ _ 6 [(0, .ref 0), (1, .int x), (2, .int y)] [.int z] g1 _ _
    exact AR.iret hk_140_6 hr_140 ⟨H1, P1.lf, z, rfl, Or.inr ⟨q1, V, q2, ez, q3, q4⟩⟩
  · obtain ⟨H1, P1, q⟩ := q
    rcases q with ⟨e, q1⟩ | ⟨q1, V, q2, ⟨z, e, ez⟩, -⟩
    · cases e
      refine ax_hand_ok (q := (140, 0, 6, 7, "java/util/NoSuchElementException")) (by decide +kernel) ?_
      show AR _ _ _ _ _ _ _ 7 [(0, .ref 0), (1, .int x), (2, .int y)] [.retAddr 0] g _ _
      refine AR.s (pc' := 8) (lv' := [(3, .retAddr 0), (0, .ref 0), (1, .int x), (2, .int y)]) (st' := []) (h' := g) _ hn_140 hk_140_7 rfl ?_
      refine AR.iconstT hk_140_8 (by decide) (fun z215 ez215 => ?_)
      show AR _ _ _ _ _ _ _ 9 [(3, .retAddr 0), (0, .ref 0), (1, .int x), (2, .int y)] [.int z215] g _ _
      exact AR.iret hk_140_9 hr_140 ⟨H1, P1.lf, _, rfl, Or.inl ⟨by omega, q1⟩⟩
    · cases e
/-- a number of the script -/
def sv (L : Nat) (xs : Nat → Int32) (k : Nat) : Int32 := if k < L then xs k else 790386105 * Int32.ofNat (k + 3)
theorem t_131 (hlst : l.stackTraces = false) {L : Nat} {xs : Nat → Int32} {k : Nat} (hL : L ≤ 3072) (hx : x.toInt = k) (hk : k < 100) : AM ax_ns l (ax_mm 131) 0 (ax_r L xs) (0) (0) [.ref 1000000001, .int x] h (sq_ca h (sv L xs k)) := by
  refine AM.of (ax_mfacts (by decide +kernel : ax_has 131 = true)).2.2.2.2.2.2 hlst (by rw [hn_131]; exact Nat.le_of_ble_eq_true rfl) ?_
  show AR ax_ns l (ax_mm 131) 0 (ax_r L xs) _ _ 0 [(0, .ref 1000000001), (1, .int x)] [] h (0) (0)
  have hg : ax_get (ax_r L xs) h 1000000001 = some (100, (List.range L).map (fun j => .int (xs j))) := rfl
  have hl : ((List.range L).map (fun j => (Value.int (xs j)))).length = L := by rw [List.length_map, List.length_range]
  have x9 : x = Int32.ofNat k := Int32.toInt_inj.mp (by rw [hx]; exact (Int32.toInt_ofNat_of_lt (by omega)).symm)
  have hn9 : L.toInt32.toInt = L := Int32.toInt_ofNat_of_lt (by omega)
  refine AR.iload_n (ax_look_ok hk_131_0).1 rfl rfl ?_
  refine AR.aload_n (ax_look_ok hk_131_1).1 rfl rfl ?_
  refine AR.arraylength (t := 0) (ax_look_ok hk_131_2).1 rfl hg ?_
  rw [hl]
  refine AR.icmp_ge (tgt := 12) (ax_look_ok hk_131_3).1 (by decide) (fun e => ?_) (fun e => ?_)
  · have e9 := Int32.le_iff_toInt_le.mp e
    refine AR.s (pc' := 14) (lv' := [(0, .ref 1000000001), (1, .int x)]) (st' := [.int 790386105]) (h' := h) _ hn_131 hk_131_12 rfl ?_
    refine AR.iload_n (ax_look_ok hk_131_14).1 rfl rfl ?_
    refine AR.iconst (ax_look_ok hk_131_15).1 ?_
    refine AR.iadd (z := .int (x + Int32.ofInt 3)) (ax_look_ok hk_131_16).1 rfl ?_
    refine AR.imul (z := .int (790386105 * (x + Int32.ofInt 3))) (ax_look_ok hk_131_17).1 rfl ?_
    have e8 : x + Int32.ofInt 3 = Int32.ofNat (k + 3) := Int32.toInt_inj.mp (by rw [Int32.toInt_add, hx, show (Int32.ofInt 3).toInt = 3 from rfl, hy_bm (by omega) (by omega), Int32.toInt_ofNat_of_lt (by omega)]; omega)
    rw [e8]
    exact AR.at (Or.inl ⟨_, rfl, rfl, (ax_look_ok hk_131_18).1, hr_131, rfl, by unfold sv; rw [if_neg (by omega)]⟩)
  · have e9 : ¬ L.toInt32.toInt ≤ x.toInt := fun z => e (Int32.le_iff_toInt_le.mpr z)
    refine AR.aload_n (ax_look_ok hk_131_6).1 rfl rfl ?_
    refine AR.iload_n (ax_look_ok hk_131_7).1 rfl rfl ?_
    have hq := hj_nn (j := x) (by omega)
    refine AR.iaload (vs := (List.range L).map (fun j => .int (xs j))) (x := .int (xs k)) (ax_look_ok hk_131_8).1 hg hq.1 ?_ ?_
    · rw [List.getElem?_map, show x.toNatClampNeg = k by omega, List.getElem?_range (by omega)]
      rfl
    refine AR.goto (ax_look_ok hk_131_9).1 (tgt := 18) (by decide) ?_
    exact AR.at (Or.inl ⟨_, rfl, rfl, (ax_look_ok hk_131_18).1, hr_131, rfl, by unfold sv; rw [if_pos (by omega)]⟩)
end LWD
