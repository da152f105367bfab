/-! the classes: their words, types and names -/
set_option maxRecDepth 20000 in
theorem ax_wsX0 : ∀ w ∈ u_ws RX0 TX0 2, w ∈ ax_tb := fun w h => by
  have hg := goodIn_r (big := lw_tbl) (u_ws RX0 TX0 2) [227, 229] (by decide +kernel) (by decide +kernel) w h
  exact List.mem_filter.mpr ⟨hg.1, List.all_eq_true.mp (show (u_ws RX0 TX0 2).all goodWord = true by decide +kernel) w h⟩
set_option maxRecDepth 20000 in
theorem ax_wsX1 : ∀ w ∈ u_ws RX1 TX1 3, w ∈ ax_tb := fun w h => by
  have hg := goodIn_r (big := lw_tbl) (u_ws RX1 TX1 3) [179, 181, 183] (by decide +kernel) (by decide +kernel) w h
  exact List.mem_filter.mpr ⟨hg.1, List.all_eq_true.mp (show (u_ws RX1 TX1 3).all goodWord = true by decide +kernel) w h⟩
set_option maxRecDepth 20000 in
theorem ax_wsX2 : ∀ w ∈ u_ws RX2 TX2 2, w ∈ ax_tb := fun w h => by
  have hg := goodIn_r (big := lw_tbl) (u_ws RX2 TX2 2) [160, 162] (by decide +kernel) (by decide +kernel) w h
  exact List.mem_filter.mpr ⟨hg.1, List.all_eq_true.mp (show (u_ws RX2 TX2 2).all goodWord = true by decide +kernel) w h⟩
set_option maxRecDepth 20000 in
theorem ax_wsX3 : ∀ w ∈ u_ws RX3 TX3 2, w ∈ ax_tb := fun w h => by
  have hg := goodIn_r (big := lw_tbl) (u_ws RX3 TX3 2) [209, 211] (by decide +kernel) (by decide +kernel) w h
  exact List.mem_filter.mpr ⟨hg.1, List.all_eq_true.mp (show (u_ws RX3 TX3 2).all goodWord = true by decide +kernel) w h⟩
set_option maxRecDepth 20000 in
theorem ax_wsX4 : ∀ w ∈ u_ws RX4 TX4 2, w ∈ ax_tb := fun w h => by
  have hg := goodIn_r (big := lw_tbl) (u_ws RX4 TX4 2) [194, 196] (by decide +kernel) (by decide +kernel) w h
  exact List.mem_filter.mpr ⟨hg.1, List.all_eq_true.mp (show (u_ws RX4 TX4 2).all goodWord = true by decide +kernel) w h⟩
set_option maxRecDepth 20000 in
theorem ax_wsX5 : ∀ w ∈ u_ws RX5 TX5 1, w ∈ ax_tb := fun w h => by
  have hg := goodIn_r (big := lw_tbl) (u_ws RX5 TX5 1) [245] (by decide +kernel) (by decide +kernel) w h
  exact List.mem_filter.mpr ⟨hg.1, List.all_eq_true.mp (show (u_ws RX5 TX5 1).all goodWord = true by decide +kernel) w h⟩
set_option maxRecDepth 20000 in
theorem ax_wsX6 : ∀ w ∈ u_ws RX6 TX6 9, w ∈ ax_tb := fun w h => by
  have hg := goodIn_r (big := lw_tbl) (u_ws RX6 TX6 9) [95, 97, 99, 101, 103, 105, 107, 109, 111] (by decide +kernel) (by decide +kernel) w h
  exact List.mem_filter.mpr ⟨hg.1, List.all_eq_true.mp (show (u_ws RX6 TX6 9).all goodWord = true by decide +kernel) w h⟩
set_option maxRecDepth 20000 in
theorem ax_wsX7 : ∀ w ∈ u_ws RX7 TX7 2, w ∈ ax_tb := fun w h => by
  have hg := goodIn_r (big := lw_tbl) (u_ws RX7 TX7 2) [73, 75] (by decide +kernel) (by decide +kernel) w h
  exact List.mem_filter.mpr ⟨hg.1, List.all_eq_true.mp (show (u_ws RX7 TX7 2).all goodWord = true by decide +kernel) w h⟩
set_option maxRecDepth 20000 in
theorem ax_wsX8 : ∀ w ∈ u_ws RX8 TX8 18, w ∈ ax_tb := fun w h => by
  have hg := goodIn_r (big := lw_tbl) (u_ws RX8 TX8 18) [266, 268, 270, 272, 274, 276, 278, 280, 282, 284, 286, 288, 290, 292, 294, 296, 298, 300] (by decide +kernel) (by decide +kernel) w h
  exact List.mem_filter.mpr ⟨hg.1, List.all_eq_true.mp (show (u_ws RX8 TX8 18).all goodWord = true by decide +kernel) w h⟩
set_option maxRecDepth 20000 in
theorem ax_wsJ0 : ∀ w ∈ u_ws RJ0 TJ0 4, w ∈ ax_tb := fun w h => by
  have hg := goodIn_r (big := lw_tbl) (u_ws RJ0 TJ0 4) [944, 946, 948, 950] (by decide +kernel) (by decide +kernel) w h
  exact List.mem_filter.mpr ⟨hg.1, List.all_eq_true.mp (show (u_ws RJ0 TJ0 4).all goodWord = true by decide +kernel) w h⟩
set_option maxRecDepth 20000 in
theorem ax_wsJ4 : ∀ w ∈ u_ws RJ4 TJ4 4, w ∈ ax_tb := fun w h => by
  have hg := goodIn_r (big := lw_tbl) (u_ws RJ4 TJ4 4) [136, 138, 140, 142] (by decide +kernel) (by decide +kernel) w h
  exact List.mem_filter.mpr ⟨hg.1, List.all_eq_true.mp (show (u_ws RJ4 TJ4 4).all goodWord = true by decide +kernel) w h⟩
theorem ax_cls_ws {ci : Nat} {q : ax_Cl} (hq : ax_cls[ci]? = some q) : ∀ w ∈ u_ws q.1 q.2.1 q.2.2.1, w ∈ ax_tb := by
  match ci, hq with
  | 0, hq => cases hq; exact ax_wsX0
  | 1, hq => cases hq; exact ax_wsX1
  | 2, hq => cases hq; exact ax_wsX2
  | 3, hq => cases hq; exact ax_wsX3
  | 4, hq => cases hq; exact ax_wsX4
  | 5, hq => cases hq; exact ax_wsX5
  | 6, hq => cases hq; exact ax_wsX6
  | 7, hq => cases hq; exact ax_wsX7
  | 8, hq => cases hq; exact ax_wsX8
  | 9, hq => cases hq; exact ax_wsX0
  | 10, hq => cases hq; exact ax_wsJ4
  | 11, hq => cases hq; exact ax_wsJ0
  | ci + 12, hq => simp [ax_cls] at hq

theorem ax_cls_ty {ci : Nat} {q : ax_Cl} (hq : ax_cls[ci]? = some q) : ∀ k, k < q.2.2.1 → parseFieldDescriptor (q.2.1 k).2.2.1 = some (q.2.2.2 k) := by
  match ci, hq with
  | 0, hq => cases hq; exact tyX0_ok
  | 1, hq => cases hq; exact tyX1_ok
  | 2, hq => cases hq; exact tyX2_ok
  | 3, hq => cases hq; exact tyX3_ok
  | 4, hq => cases hq; exact tyX4_ok
  | 5, hq => cases hq; exact tyX5_ok
  | 6, hq => cases hq; exact tyX6_ok
  | 7, hq => cases hq; exact tyX7_ok
  | 8, hq => cases hq; exact tyX8_ok
  | 9, hq => cases hq; exact tyX0_ok
  | 10, hq => cases hq; exact tyJ4_ok
  | 11, hq => cases hq; exact tyJ0_ok
  | ci + 12, hq => simp [ax_cls] at hq

theorem ax_cls_nm {ci : Nat} {q : ax_Cl} (hq : ax_cls[ci]? = some q) : ∀ a, a < q.2.2.1 → ∀ b, b < q.2.2.1 → a ≠ b → (q.2.1 a).2.1 ≠ (q.2.1 b).2.1 := by
  match ci, hq with
  | 0, hq => cases hq; exact nmX0
  | 1, hq => cases hq; exact nmX1
  | 2, hq => cases hq; exact nmX2
  | 3, hq => cases hq; exact nmX3
  | 4, hq => cases hq; exact nmX4
  | 5, hq => cases hq; exact nmX5
  | 6, hq => cases hq; exact nmX6
  | 7, hq => cases hq; exact nmX7
  | 8, hq => cases hq; exact nmX8
  | 9, hq => cases hq; exact nmX0
  | 10, hq => cases hq; exact nmJ4
  | 11, hq => cases hq; exact nmJ0
  | ci + 12, hq => simp [ax_cls] at hq

theorem ax_cls_fl {ci : Nat} {q : ax_Cl} (hq : ax_cls[ci]? = some q) : ∀ k, k < q.2.2.1 → q.2.2.2 k ≠ .float ∧ q.2.2.2 k ≠ .double := by
  match ci, hq with
  | 0, hq => cases hq; exact by decide +kernel
  | 1, hq => cases hq; exact by decide +kernel
  | 2, hq => cases hq; exact by decide +kernel
  | 3, hq => cases hq; exact by decide +kernel
  | 4, hq => cases hq; exact by decide +kernel
  | 5, hq => cases hq; exact by decide +kernel
  | 6, hq => cases hq; exact by decide +kernel
  | 7, hq => cases hq; exact by decide +kernel
  | 8, hq => cases hq; exact by decide +kernel
  | 9, hq => cases hq; exact by decide +kernel
  | 10, hq => cases hq; exact by decide +kernel
  | 11, hq => cases hq; exact by decide +kernel
  | ci + 12, hq => simp [ax_cls] at hq

theorem ax_cls_lt {ci : Nat} {q : ax_Cl} (hq : ax_cls[ci]? = some q) : ci < 12 := by
  have := (List.getElem?_eq_some_iff.mp hq).1
  exact this
def ax_get (r h : ax_H) (a : Nat) : Option (Nat × List Value) := if a < 1000000000 then h[a]? else r[a - 1000000000]?
theorem ax_get_lt {r h : ax_H} {a : Nat} (ha : a < 1000000000) : ax_get r h a = h[a]? := by simp [ax_get, ha]
section AXG
variable {ns : ax_NS} {r h : ax_H} {D : va_G} {b : Nat} {o : Nat → Nat} {s : State} {H : Heap} {locs : List Loc}
theorem ax_got (hT : ax_T ns r D b o s) (hR : ax_R D b o h H) (hS : va_S (ax_RG b o) s.heap H locs) {a ci : Nat} {vs : List Value} (hci : ci < 12) (hg : ax_get r h a = some (ci, vs)) : ∃ cell, H[ax_ad b o a]? = some cell ∧ ax_c D b o (ci, vs) cell := by
  unfold ax_get at hg
  unfold ax_ad
  by_cases ha : a < 1000000000
  · rw [if_pos ha] at hg ⊢
    exact hR.2.1 a _ hg
  · rw [if_neg ha] at hg
    obtain ⟨-, -, -, -, -, -, -, h8, -, h9, -⟩ := hT
    obtain ⟨e1, t, ty, cell, e2, -⟩ := h8 _ _ hg
    have : ci = 100 + t := e2
    omega
theorem ax_arr (hT : ax_T ns r D b o s) {t : Nat} {ty : FieldType} (ht : ax_tys[t]? = some ty) {vs : List Value} {cell : Cell} (hc : ax_c D b o (100 + t, vs) cell) : s.isArrayOf cell ty ∧ cell.vm = .none ∧ cell.slots.size = vs.length ∧ cell.cls = D.1 (100 + t) ∧ ∀ (k : Nat) (x : Value), vs[k]? = some x → ∃ v, cell.slots[k]? = some v ∧ ax_v b o x v := by
  obtain ⟨-, h2, -⟩ := hT
  obtain ⟨a1, a2, a3⟩ := h2 t ty ht
  rcases hc with hc | ⟨h3, h4, h5, h6⟩
  · have : 100 + t = 99 := hc
    omega
  · refine ⟨?_, h3, h5 (Nat.le_add_right _ _), h4, fun k x hx => ?_⟩
    · have hA := a1 0 (fun _ => .null)
      refine ⟨fun q e => (by rw [h3] at e; cases e), ?_⟩
      rw [h4]
      exact hA.2
    · obtain ⟨v, e1, e2⟩ := h6 k x hx
      rw [a3 k] at e1
      exact ⟨v, e1, e2⟩
theorem ax_gota (hT : ax_T ns r D b o s) (hR : ax_R D b o h H) (hS : va_S (ax_RG b o) s.heap H locs) {a t : Nat} {ty : FieldType} {vs : List Value} (ht : ax_tys[t]? = some ty) (hg : ax_get r h a = some (100 + t, vs)) : ∃ cell, H[ax_ad b o a]? = some cell ∧ ax_A s b o ty vs cell := by
  unfold ax_get at hg
  unfold ax_ad
  by_cases ha : a < 1000000000
  · rw [if_pos ha] at hg ⊢
    obtain ⟨cell, e1, e2⟩ := hR.2.1 a _ hg
    obtain ⟨c1, c2, c3, c4, c5⟩ := ax_arr hT ht e2
    exact ⟨cell, e1, c1, by rw [c2]; exact fun q => (by cases q), Nat.le_of_eq c3.symm, by rw [c3], c5⟩
  · rw [if_neg ha] at hg ⊢
    obtain ⟨-, -, -, -, -, -, -, h8, -, h9, -⟩ := hT
    obtain ⟨e1, t2, ty2, cell, e2, e3, e4, e5⟩ := h8 _ _ hg
    have : t2 = t := by have : 100 + t = 100 + t2 := e2; omega
    subst this
    cases ht.symm.trans e3
    rw [Nat.mod_eq_of_lt e1.2]
    exact ⟨cell, by rw [hS.2.1 _ (by omega) (fun z => by have := z.1; omega)]; exact e4, e5⟩
theorem ax_obj (hT : ax_T ns r D b o s) {ci : Nat} {q : ax_Cl} (hq : ax_cls[ci]? = some q) {vs : List Value} {cell : Cell} (hc : ax_c D b o (ci, vs) cell) : cell.vm = .none ∧ cell.cls = D.1 ci ∧ u_Kn s q.1 q.2.1 q.2.2.1 (D.1 ci) (D.2 ci) ∧ ∀ (k : Nat) (x : Value), vs[k]? = some x → ∃ v, cell.slots[D.2 ci k]? = some v ∧ ax_v b o x v := by
  have hl := ax_cls_lt hq
  rcases hc with hc | ⟨h3, h4, h5, h6⟩
  · have : ci = 99 := hc
    omega
  · exact ⟨h3, h4, hT.1 ci q hq, h6⟩
end AXG
section AXS
variable {ns : ax_NS} {l : Launch} {k : ax_M} {d : Nat} {r : ax_H} {P : ax_P} {X : ax_PX} {pc : Nat} {lv : List (Nat × Value)} {st : List Value} {h : ax_H} {bc bs : Nat}
theorem AR.getfield {ci j i a : Nat} {q : ax_Cl} {vs : List Value} {x : Value} (hd : decode k.2.1 pc = .ok (.getfield i, 3)) (hq : ax_cls[ci]? = some q) (hj : j < q.2.2.1) (hw : Cond.fieldLink k.1.cls i (q.2.1 j).1 (q.2.1 j).2.1 (q.2.1 j).2.2.1 ∈ ax_tb) (hg : ax_get r h a = some (ci, vs)) (hv : vs[j]? = some x) (K : AR ns l k d r P X (pc + 3) lv (x :: st) h bc bs) : AR ns l k d r P X pc lv (.ref a :: st) h bc bs := by
  intro D b o TC TS p e R s m args below meth c Z hX hP hXX lvc ls stc H locs cells slots hG
  have hx := hX.1
  have hb := hX.2.1
  obtain ⟨g1, g2, g3, g4, g5, g6, g7⟩ := hG
  obtain ⟨v1, t1, rfl, hv1, hs1⟩ := g3
  cases hv1
  obtain ⟨-, -, -, hown, hts, hT, -⟩ := id hX
  obtain ⟨cell, e1, e2⟩ := ax_got hT g4 g5 (ax_cls_lt hq) hg
  obtain ⟨c1, c2, ⟨hS, hfc, kC, hkC, hkind⟩, c4⟩ := ax_obj hT hq e2
  obtain ⟨cf, kf, fi, f, hi, hsl⟩ := hS j hj
  obtain ⟨v, hv2, hv3⟩ := c4 j x hv
  refine W.getf hx hb hown (hts _ hw) hi (u_facts hfc hkC (u_lays hts (ax_cls_ws hq) hj) hi).1 e1 (by rw [c1]; exact fun h => by cases h) (v := v) (by rw [hsl]; exact hv2) rfl rfl hd ?_
  exact K D b o TC TS p e R s m args below meth c Z hX hP hXX _ _ _ _ _ _ _ ⟨g1, g2, ⟨_, _, rfl, hv3, hs1⟩, g4, g5, g6, g7⟩
theorem ax_apart {args : Array Value} {s : State} {D : va_G} {ci : Nat} {q : ax_Cl} (hts : ∀ w ∈ ax_tb, w.before args s = true) (hq : ax_cls[ci]? = some q) (hK : u_Kn s q.1 q.2.1 q.2.2.1 (D.1 ci) (D.2 ci)) : ∀ x y, x < q.2.2.1 → y < q.2.2.1 → x ≠ y → D.2 ci x ≠ D.2 ci y := by
  intro x y hx hy hne
  obtain ⟨hS, -⟩ := hK
  obtain ⟨_, _, _, fa, hia, ea⟩ := hS x hx
  obtain ⟨_, _, _, fb, hib, eb⟩ := hS y hy
  rw [← ea, ← eb]
  refine u_apart (u_lays hts (ax_cls_ws hq) hx) (u_lays hts (ax_cls_ws hq) hy) hia hib ?_
  rw [(State.fieldFound?_type hia (ax_cls_ty hq x hx)).1, (State.fieldFound?_type hib (ax_cls_ty hq y hy)).1]
  exact ax_cls_nm hq x hx y hy hne
theorem AR.putfield {ci j i a : Nat} {q : ax_Cl} {vs : List Value} {x : Value} (hd : decode k.2.1 pc = .ok (.putfield i, 3)) (hq : ax_cls[ci]? = some q) (hj : j < q.2.2.1) (hw : Cond.fieldLink k.1.cls i (q.2.1 j).1 (q.2.1 j).2.1 (q.2.1 j).2.2.1 ∈ ax_tb) (hfin : (q.2.1 j).2.2.2 = false ∨ (q.2.1 j).2.2.2 = true ∧ k.1.name = "<init>" ∧ (q.2.1 j).1 = k.1.cls) (ha : a < 1000000000) (hg : h[a]? = some (ci, vs)) (hl : vs.length = q.2.2.1) (hf : ax_fit (q.2.2.2 j) x = true) (K : AR ns l k d r P X (pc + 3) lv st (h.set a (ci, vs.set j x)) bc bs) : AR ns l k d r P X pc lv (x :: .ref a :: st) h bc bs := by
  intro D b o TC TS p e R s m args below meth c Z hX hP hXX lvc ls stc H locs cells slots hG
  have hx := hX.1
  have hb := hX.2.1
  obtain ⟨g1, g2, g3, g4, g5, g6, g7⟩ := hG
  obtain ⟨v1, t1, rfl, hv1, hs1⟩ := g3
  obtain ⟨v2, t2, rfl, hv2, hs2⟩ := hs1
  cases hv2
  obtain ⟨-, -, -, hown, hts, hT, -, -, -, -, -, hnm, -⟩ := id hX
  rw [ax_ad_lt ha]
  obtain ⟨cell, e1, e2⟩ := g4.2.1 a _ hg
  obtain ⟨c1, c2, hKn, c4⟩ := ax_obj hT hq e2
  obtain ⟨hS, hfc, kC, hkC, hkind⟩ := id hKn
  obtain ⟨cf, kf, fi, f, hi, hsl⟩ := hS j hj
  obtain ⟨v, hv3, hv4⟩ := c4 j _ (List.getElem?_eq_getElem (by rw [hl]; exact hj))
  obtain ⟨hn, hfit⟩ := ax_fit_spec hf hv1
  have hap := ax_apart hts hq hKn
  have hlt : f.slot < cell.slots.size := by rw [hsl]; exact k2_hasslot hv3
  have fin : ∀ H' : Heap, H'[b + ax_of o a]? = some (cell.setSlot f.slot v1) → H'.size = H.size → (∀ q, q ≠ b + ax_of o a → H'[q]? = H[q]?) → W p l e R s m args below meth c H' (locs ++ [⟨b + ax_of o a, f.slot⟩]) cells slots Z (F0 m (pc + 3) ls t2) := by
    intro H1 q1 q2 q3
    refine K D b o TC TS p e R s m args below meth c Z hX hP hXX _ _ _ _ _ _ _ ⟨g1, g2, hs2, ?_, g5.put q2 q3 (g4.rg hg), g6, g7⟩
    refine g4.set q1 q2 q3 ?_
    rw [hsl]
    have hci := ax_cls_lt hq
    exact e2.set (by omega) (fun i j hi hj hne => hap i j (by rw [← hl]; exact hi) (by rw [← hl]; exact hj) hne) (by rw [hl]; exact hj) hv1
  have hst := (u_facts hfc hkC (u_lays hts (ax_cls_ws hq) hj) hi).1
  have hlay := hts _ (ax_cls_ws hq _ (u_in_lay hj))
  unfold u_lay at hlay
  rcases hfin with hfin | ⟨hfin, hin, hdc⟩
  · rw [if_neg (by rw [hfin]; decide)] at hlay
    have h6 := u_store hfc hkC hkind hlay hi (ax_cls_ty hq j hj) hn hfit
    exact W.putK hx hb (f := f) ⟨hown, hts _ hw, ⟨_, _, _, hi⟩, hst⟩ (by rw [c2]; exact h6) e1 c1 hlt rfl rfl hd fin
  · rw [if_pos hfin] at hlay
    have hcf : m.cls = cf := by
      obtain ⟨_, _, c', _, _, _, -, -, hf', -, -, -, hown2, -⟩ := Cond.laysFinal_spec hlay
      have e1 : c' = cf := by have := hi.symm.trans hf'; simp at this; exact this.1.symm
      rw [hdc] at hown2
      rw [← e1]; exact Option.some.inj (hown.symm.trans hown2)
    have h6 := u_fits hfc hkC hkind (Or.inr hlay) hi (ax_cls_ty hq j hj) hn hfit
    exact W.putFinK hx hb hown (hts _ hw) hi hst hcf (hnm.trans hin) (by rw [c2]; exact h6) e1 c1 hlt rfl rfl hd fin
-- arrays: loads
theorem AR.iaload {a : Nat} {i : Int32} {vs : List Value} {x : Value} (hd : decode k.2.1 pc = .ok (.iaload, 1)) (hg : ax_get r h a = some (100, vs)) (hi : ¬ i < 0) (hv : vs[i.toNatClampNeg]? = some x) (K : AR ns l k d r P X (pc + 1) lv (x :: st) h bc bs) : AR ns l k d r P X pc lv (.int i :: .ref a :: st) h bc bs := by
  intro D b o TC TS p e R s m args below meth c Z hX hP hXX lvc ls stc H locs cells slots hG
  have hx := hX.1
  have hb := hX.2.1
  obtain ⟨g1, g2, g3, g4, g5, g6, g7⟩ := hG
  obtain ⟨-, -, -, hown, hts, hT, -⟩ := id hX
  obtain ⟨v1, t1, rfl, hv1, hs1⟩ := g3
  obtain ⟨v2, t2, rfl, hv2, hs2⟩ := hs1
  cases hv1
  cases hv2
  obtain ⟨cell, e1, c1, c2, c3, c4, c5⟩ := ax_gota (t := 0) hT g4 g5 rfl hg
  obtain ⟨v, h2, h3⟩ := c5 _ _ hv
  have hlt := (List.getElem?_eq_some_iff.mp hv).1
  refine W.iald hx hb e1 c1 c2 (fun q => q.elim hi (fun z => by omega)) h2 rfl rfl hd ?_
  exact K D b o TC TS p e R s m args below meth c Z hX hP hXX _ _ _ _ _ _ _ ⟨g1, g2, ⟨_, _, rfl, h3, hs2⟩, g4, g5, g6, g7⟩
theorem AR.laload {a : Nat} {i : Int32} {vs : List Value} {x : Value} (hd : decode k.2.1 pc = .ok (.laload, 1)) (hg : ax_get r h a = some (101, vs)) (hi : ¬ i < 0) (hv : vs[i.toNatClampNeg]? = some x) (K : AR ns l k d r P X (pc + 1) lv (x :: st) h bc bs) : AR ns l k d r P X pc lv (.int i :: .ref a :: st) h bc bs := by
  intro D b o TC TS p e R s m args below meth c Z hX hP hXX lvc ls stc H locs cells slots hG
  have hx := hX.1
  have hb := hX.2.1
  obtain ⟨g1, g2, g3, g4, g5, g6, g7⟩ := hG
  obtain ⟨-, -, -, hown, hts, hT, -⟩ := id hX
  obtain ⟨v1, t1, rfl, hv1, hs1⟩ := g3
  obtain ⟨v2, t2, rfl, hv2, hs2⟩ := hs1
  cases hv1
  cases hv2
  obtain ⟨cell, e1, c1, c2, c3, c4, c5⟩ := ax_gota (t := 1) hT g4 g5 rfl hg
  obtain ⟨v, h2, h3⟩ := c5 _ _ hv
  have hlt := (List.getElem?_eq_some_iff.mp hv).1
  refine W.lald hx hb e1 c1 c2 (fun q => q.elim hi (fun z => by omega)) h2 rfl rfl hd ?_
  exact K D b o TC TS p e R s m args below meth c Z hX hP hXX _ _ _ _ _ _ _ ⟨g1, g2, ⟨_, _, rfl, h3, hs2⟩, g4, g5, g6, g7⟩
theorem AR.zaload {a : Nat} {i : Int32} {vs : List Value} {x : Value} (hd : decode k.2.1 pc = .ok (.baload, 1)) (hg : ax_get r h a = some (102, vs)) (hi : ¬ i < 0) (hv : vs[i.toNatClampNeg]? = some x) (K : AR ns l k d r P X (pc + 1) lv (x :: st) h bc bs) : AR ns l k d r P X pc lv (.int i :: .ref a :: st) h bc bs := by
  intro D b o TC TS p e R s m args below meth c Z hX hP hXX lvc ls stc H locs cells slots hG
  have hx := hX.1
  have hb := hX.2.1
  obtain ⟨g1, g2, g3, g4, g5, g6, g7⟩ := hG
  obtain ⟨-, -, -, hown, hts, hT, -⟩ := id hX
  obtain ⟨v1, t1, rfl, hv1, hs1⟩ := g3
  obtain ⟨v2, t2, rfl, hv2, hs2⟩ := hs1
  cases hv1
  cases hv2
  obtain ⟨cell, e1, c1, c2, c3, c4, c5⟩ := ax_gota (t := 2) hT g4 g5 rfl hg
  obtain ⟨v, h2, h3⟩ := c5 _ _ hv
  have hlt := (List.getElem?_eq_some_iff.mp hv).1
  refine W.zald hx hb e1 c1 c2 (fun q => q.elim hi (fun z => by omega)) h2 rfl rfl hd ?_
  exact K D b o TC TS p e R s m args below meth c Z hX hP hXX _ _ _ _ _ _ _ ⟨g1, g2, ⟨_, _, rfl, h3, hs2⟩, g4, g5, g6, g7⟩
theorem AR.baload {a : Nat} {i : Int32} {vs : List Value} {x : Value} (hd : decode k.2.1 pc = .ok (.baload, 1)) (hg : ax_get r h a = some (103, vs)) (hi : ¬ i < 0) (hv : vs[i.toNatClampNeg]? = some x) (K : AR ns l k d r P X (pc + 1) lv (x :: st) h bc bs) : AR ns l k d r P X pc lv (.int i :: .ref a :: st) h bc bs := by
  intro D b o TC TS p e R s m args below meth c Z hX hP hXX lvc ls stc H locs cells slots hG
  have hx := hX.1
  have hb := hX.2.1
  obtain ⟨g1, g2, g3, g4, g5, g6, g7⟩ := hG
  obtain ⟨-, -, -, hown, hts, hT, -⟩ := id hX
  obtain ⟨v1, t1, rfl, hv1, hs1⟩ := g3
  obtain ⟨v2, t2, rfl, hv2, hs2⟩ := hs1
  cases hv1
  cases hv2
  obtain ⟨cell, e1, c1, c2, c3, c4, c5⟩ := ax_gota (t := 3) hT g4 g5 rfl hg
  obtain ⟨v, h2, h3⟩ := c5 _ _ hv
  have hlt := (List.getElem?_eq_some_iff.mp hv).1
  refine W.bald hx hb e1 c1 c2 (fun q => q.elim hi (fun z => by omega)) h2 rfl rfl hd ?_
  exact K D b o TC TS p e R s m args below meth c Z hX hP hXX _ _ _ _ _ _ _ ⟨g1, g2, ⟨_, _, rfl, h3, hs2⟩, g4, g5, g6, g7⟩
theorem AR.aaload {a t : Nat} {ty : FieldType} {i : Int32} {vs : List Value} {x : Value} (hd : decode k.2.1 pc = .ok (.aaload, 1)) (ht : ax_tys[t]? = some ty) (hr : ty.isReference = true) (hg : ax_get r h a = some (100 + t, vs)) (hi : ¬ i < 0) (hv : vs[i.toNatClampNeg]? = some x) (K : AR ns l k d r P X (pc + 1) lv (x :: st) h bc bs) : AR ns l k d r P X pc lv (.int i :: .ref a :: st) h bc bs := by
  intro D b o TC TS p e R s m args below meth c Z hX hP hXX lvc ls stc H locs cells slots hG
  have hx := hX.1
  have hb := hX.2.1
  obtain ⟨g1, g2, g3, g4, g5, g6, g7⟩ := hG
  obtain ⟨-, -, -, hown, hts, hT, -⟩ := id hX
  obtain ⟨v1, t1, rfl, hv1, hs1⟩ := g3
  obtain ⟨v2, t2, rfl, hv2, hs2⟩ := hs1
  cases hv1
  cases hv2
  obtain ⟨cell, e1, c1, c2, c3, c4, c5⟩ := ax_gota hT g4 g5 ht hg
  obtain ⟨v, h2, h3⟩ := c5 _ _ hv
  have hlt := (List.getElem?_eq_some_iff.mp hv).1
  refine W.aald hx hb e1 c1 hr c2 (fun q => q.elim hi (fun z => by omega)) h2 rfl rfl hd ?_
  exact K D b o TC TS p e R s m args below meth c Z hX hP hXX _ _ _ _ _ _ _ ⟨g1, g2, ⟨_, _, rfl, h3, hs2⟩, g4, g5, g6, g7⟩
theorem AR.arraylength {a t : Nat} {ty : FieldType} {vs : List Value} (hd : decode k.2.1 pc = .ok (.arraylength, 1)) (ht : ax_tys[t]? = some ty) (hg : ax_get r h a = some (100 + t, vs)) (K : AR ns l k d r P X (pc + 1) lv (.int vs.length.toInt32 :: st) h bc bs) : AR ns l k d r P X pc lv (.ref a :: st) h bc bs := by
  intro D b o TC TS p e R s m args below meth c Z hX hP hXX lvc ls stc H locs cells slots hG
  have hx := hX.1
  have hb := hX.2.1
  obtain ⟨g1, g2, g3, g4, g5, g6, g7⟩ := hG
  obtain ⟨-, -, -, hown, hts, hT, -⟩ := id hX
  obtain ⟨v1, t1, rfl, hv1, hs1⟩ := g3
  cases hv1
  obtain ⟨cell, e1, c1, c2, c3, c4, c5⟩ := ax_gota hT g4 g5 ht hg
  refine W.alen hx hb e1 c1 c4 rfl rfl hd ?_
  exact K D b o TC TS p e R s m args below meth c Z hX hP hXX _ _ _ _ _ _ _ ⟨g1, g2, ⟨_, _, rfl, rfl, hs1⟩, g4, g5, g6, g7⟩
theorem AR.iastore {a : Nat} {i : Int32} {vs : List Value} {x : Value} (hd : decode k.2.1 pc = .ok (.iastore, 1)) (ha : a < 1000000000) (hg : h[a]? = some (100, vs)) (hi : ¬ i < 0) (hl : i.toNatClampNeg < vs.length) (ht : ax_isI x = true) (K : AR ns l k d r P X (pc + 1) lv st (h.set a (100, vs.set i.toNatClampNeg x)) bc bs) : AR ns l k d r P X pc lv (x :: .int i :: .ref a :: st) h bc bs := by
  intro D b o TC TS p e R s m args below meth c Z hX hP hXX lvc ls stc H locs cells slots hG
  have hx := hX.1
  have hb := hX.2.1
  obtain ⟨g1, g2, g3, g4, g5, g6, g7⟩ := hG
  obtain ⟨-, -, -, hown, hts, hT, -⟩ := id hX
  obtain ⟨v0, t0, rfl, hv0, hs0⟩ := g3
  obtain ⟨v1, t1, rfl, hv1, hs1⟩ := hs0
  obtain ⟨v2, t2, rfl, hv2, hs2⟩ := hs1
  cases hv1
  cases hv2
  obtain ⟨y, rfl⟩ := ax_v_I hv0 ht
  rw [ax_ad_lt ha]
  obtain ⟨cell, e1, e2⟩ := g4.2.1 a _ hg
  obtain ⟨c1, c2, c3, c4, c5⟩ := ax_arr (t := 0) hT rfl e2
  refine W.iast hx hb e1 c1 (by rw [c2]; exact fun q => by cases q) (fun q => q.elim hi (fun z => by rw [c3] at z; omega)) rfl rfl hd fun H1 q1 q2 q3 => ?_
  · skip
    refine K D b o TC TS p e R s m args below meth c Z hX hP hXX _ _ _ _ _ _ _ ⟨g1, g2, hs2, ?_, g5.put q2 q3 (g4.rg hg), g6, g7⟩
    refine g4.set q1 q2 q3 ?_
    have := e2.set (k := i.toNatClampNeg) (x := x) (by decide) (fun i j hi hj hne => by rw [(hT.2.1 0 _ rfl).2.2 i, (hT.2.1 0 _ rfl).2.2 j]; exact hne) hl hv0
    rw [(hT.2.1 0 _ rfl).2.2] at this
    exact this
theorem AR.lastore {a : Nat} {i : Int32} {vs : List Value} {x : Value} (hd : decode k.2.1 pc = .ok (.lastore, 1)) (ha : a < 1000000000) (hg : h[a]? = some (101, vs)) (hi : ¬ i < 0) (hl : i.toNatClampNeg < vs.length) (ht : ax_isL x = true) (K : AR ns l k d r P X (pc + 1) lv st (h.set a (101, vs.set i.toNatClampNeg x)) bc bs) : AR ns l k d r P X pc lv (x :: .int i :: .ref a :: st) h bc bs := by
  intro D b o TC TS p e R s m args below meth c Z hX hP hXX lvc ls stc H locs cells slots hG
  have hx := hX.1
  have hb := hX.2.1
  obtain ⟨g1, g2, g3, g4, g5, g6, g7⟩ := hG
  obtain ⟨-, -, -, hown, hts, hT, -⟩ := id hX
  obtain ⟨v0, t0, rfl, hv0, hs0⟩ := g3
  obtain ⟨v1, t1, rfl, hv1, hs1⟩ := hs0
  obtain ⟨v2, t2, rfl, hv2, hs2⟩ := hs1
  cases hv1
  cases hv2
  obtain ⟨y, rfl⟩ := ax_v_L hv0 ht
  rw [ax_ad_lt ha]
  obtain ⟨cell, e1, e2⟩ := g4.2.1 a _ hg
  obtain ⟨c1, c2, c3, c4, c5⟩ := ax_arr (t := 1) hT rfl e2
  refine W.last hx hb e1 c1 (by rw [c2]; exact fun q => by cases q) (fun q => q.elim hi (fun z => by rw [c3] at z; omega)) rfl rfl hd fun H1 q1 q2 q3 => ?_
  · skip
    refine K D b o TC TS p e R s m args below meth c Z hX hP hXX _ _ _ _ _ _ _ ⟨g1, g2, hs2, ?_, g5.put q2 q3 (g4.rg hg), g6, g7⟩
    refine g4.set q1 q2 q3 ?_
    have := e2.set (k := i.toNatClampNeg) (x := x) (by decide) (fun i j hi hj hne => by rw [(hT.2.1 1 _ rfl).2.2 i, (hT.2.1 1 _ rfl).2.2 j]; exact hne) hl hv0
    rw [(hT.2.1 1 _ rfl).2.2] at this
    exact this
theorem AR.zastore {a : Nat} {i : Int32} {vs : List Value} {x : Value} (hd : decode k.2.1 pc = .ok (.bastore, 1)) (ha : a < 1000000000) (hg : h[a]? = some (102, vs)) (hi : ¬ i < 0) (hl : i.toNatClampNeg < vs.length) (ht : ax_fit .boolean x = true) (K : AR ns l k d r P X (pc + 1) lv st (h.set a (102, vs.set i.toNatClampNeg x)) bc bs) : AR ns l k d r P X pc lv (x :: .int i :: .ref a :: st) h bc bs := by
  intro D b o TC TS p e R s m args below meth c Z hX hP hXX lvc ls stc H locs cells slots hG
  have hx := hX.1
  have hb := hX.2.1
  obtain ⟨g1, g2, g3, g4, g5, g6, g7⟩ := hG
  obtain ⟨-, -, -, hown, hts, hT, -⟩ := id hX
  obtain ⟨v0, t0, rfl, hv0, hs0⟩ := g3
  obtain ⟨v1, t1, rfl, hv1, hs1⟩ := hs0
  obtain ⟨v2, t2, rfl, hv2, hs2⟩ := hs1
  cases hv1
  cases hv2
  obtain ⟨hn, -⟩ := ax_fit_spec ht hv0
  obtain ⟨y, rfl⟩ := ax_v_I hv0 (by cases x <;> simp [ax_fit] at ht <;> rfl)
  rw [ax_ad_lt ha]
  obtain ⟨cell, e1, e2⟩ := g4.2.1 a _ hg
  obtain ⟨c1, c2, c3, c4, c5⟩ := ax_arr (t := 2) hT rfl e2
  refine W.zast hx hb e1 c1 (by rw [c2]; exact fun q => by cases q) (fun q => q.elim hi (fun z => by rw [c3] at z; omega)) rfl rfl hd fun H1 q1 q2 q3 => ?_
  · rw [hn] at q1
    refine K D b o TC TS p e R s m args below meth c Z hX hP hXX _ _ _ _ _ _ _ ⟨g1, g2, hs2, ?_, g5.put q2 q3 (g4.rg hg), g6, g7⟩
    refine g4.set q1 q2 q3 ?_
    have := e2.set (k := i.toNatClampNeg) (x := x) (by decide) (fun i j hi hj hne => by rw [(hT.2.1 2 _ rfl).2.2 i, (hT.2.1 2 _ rfl).2.2 j]; exact hne) hl hv0
    rw [(hT.2.1 2 _ rfl).2.2] at this
    exact this
theorem AR.bastore {a : Nat} {i : Int32} {vs : List Value} {x : Value} (hd : decode k.2.1 pc = .ok (.bastore, 1)) (ha : a < 1000000000) (hg : h[a]? = some (103, vs)) (hi : ¬ i < 0) (hl : i.toNatClampNeg < vs.length) (ht : ax_fit .byte x = true) (K : AR ns l k d r P X (pc + 1) lv st (h.set a (103, vs.set i.toNatClampNeg x)) bc bs) : AR ns l k d r P X pc lv (x :: .int i :: .ref a :: st) h bc bs := by
  intro D b o TC TS p e R s m args below meth c Z hX hP hXX lvc ls stc H locs cells slots hG
  have hx := hX.1
  have hb := hX.2.1
  obtain ⟨g1, g2, g3, g4, g5, g6, g7⟩ := hG
  obtain ⟨-, -, -, hown, hts, hT, -⟩ := id hX
  obtain ⟨v0, t0, rfl, hv0, hs0⟩ := g3
  obtain ⟨v1, t1, rfl, hv1, hs1⟩ := hs0
  obtain ⟨v2, t2, rfl, hv2, hs2⟩ := hs1
  cases hv1
  cases hv2
  obtain ⟨hn, -⟩ := ax_fit_spec ht hv0
  obtain ⟨y, rfl⟩ := ax_v_I hv0 (by cases x <;> simp [ax_fit] at ht <;> rfl)
  rw [ax_ad_lt ha]
  obtain ⟨cell, e1, e2⟩ := g4.2.1 a _ hg
  obtain ⟨c1, c2, c3, c4, c5⟩ := ax_arr (t := 3) hT rfl e2
  refine W.bast hx hb e1 c1 (by rw [c2]; exact fun q => by cases q) (fun q => q.elim hi (fun z => by rw [c3] at z; omega)) rfl rfl hd fun H1 q1 q2 q3 => ?_
  · rw [hn] at q1
    refine K D b o TC TS p e R s m args below meth c Z hX hP hXX _ _ _ _ _ _ _ ⟨g1, g2, hs2, ?_, g5.put q2 q3 (g4.rg hg), g6, g7⟩
    refine g4.set q1 q2 q3 ?_
    have := e2.set (k := i.toNatClampNeg) (x := x) (by decide) (fun i j hi hj hne => by rw [(hT.2.1 3 _ rfl).2.2 i, (hT.2.1 3 _ rfl).2.2 j]; exact hne) hl hv0
    rw [(hT.2.1 3 _ rfl).2.2] at this
    exact this
theorem AR.aastore {a t v : Nat} {ci : Nat} {q : ax_Cl} {i : Int32} {vs ws : List Value} (hd : decode k.2.1 pc = .ok (.aastore, 1)) (ha : a < 1000000000) (hva : v < 1000000000) (hq : ax_cls[ci]? = some q) (ht : ax_tys[t]? = some (.object q.1)) (hg : h[a]? = some (100 + t, vs)) (hgv : h[v]? = some (ci, ws)) (hi : ¬ i < 0) (hl : i.toNatClampNeg < vs.length) (K : AR ns l k d r P X (pc + 1) lv st (h.set a (100 + t, vs.set i.toNatClampNeg (.ref v))) bc bs) : AR ns l k d r P X pc lv (.ref v :: .int i :: .ref a :: st) h bc bs := by
  intro D b o TC TS p e R s m args below meth c Z hX hP hXX lvc ls stc H locs cells slots hG
  have hx := hX.1
  have hb := hX.2.1
  obtain ⟨g1, g2, g3, g4, g5, g6, g7⟩ := hG
  obtain ⟨-, -, -, hown, hts, hT, -⟩ := id hX
  obtain ⟨v0, t0, rfl, hv0, hs0⟩ := g3
  obtain ⟨v1, t1, rfl, hv1, hs1⟩ := hs0
  obtain ⟨v2, t2, rfl, hv2, hs2⟩ := hs1
  cases hv1
  cases hv2
  have hv0' := hv0
  cases hv0
  obtain ⟨cell, e1, e2⟩ := g4.2.1 a _ hg
  obtain ⟨cv, f1, f2⟩ := g4.2.1 v _ hgv
  obtain ⟨c1, c2, c3, c4, c5⟩ := ax_arr hT ht e2
  obtain ⟨d1, d2, d3, d4⟩ := ax_obj hT hq f2
  obtain ⟨kA, comp, k1, k2, k3, -⟩ := (hT.2.1 t _ ht).2.1
  have hcomp := k3.symm.trans d3.2.1
  cases hcomp
  obtain ⟨kC, hkC, -⟩ := d3.2.2
  rw [ax_ad_lt ha, ax_ad_lt hva]
  rw [ax_ad_lt hva] at hv0'
  refine W.aast hx hb e1 (fun q e => by rw [c2] at e; cases e) (by rw [c2]; exact fun q => by cases q) (by rw [c4]; exact k1) k2 rfl hkC ⟨hi, by rw [c3]; exact hl⟩ f1 (fun q e => by rw [d1] at e; cases e) (by rw [d2]; exact hkC) (by rw [d2]; exact va_asg _ _) rfl rfl hd fun H1 q1 q2 q3 => ?_
  refine K D b o TC TS p e R s m args below meth c Z hX hP hXX _ _ _ _ _ _ _ ⟨g1, g2, hs2, ?_, g5.put q2 q3 (g4.rg hg), g6, g7⟩
  refine g4.set q1 q2 q3 ?_
  have := e2.set (k := i.toNatClampNeg) (x := .ref v) (by show 100 + t ≠ 99; omega) (fun i j hi hj hne => by rw [(hT.2.1 t _ ht).2.2 i, (hT.2.1 t _ ht).2.2 j]; exact hne) hl hv0'
  rw [(hT.2.1 t _ ht).2.2] at this
  exact this
theorem AR.new {ci i : Nat} {q : ax_Cl} (hd : decode k.2.1 pc = .ok (.new i, 3)) (hq : ax_cls[ci]? = some q) (hw1 : Cond.classLink k.1.cls i q.1 ∈ ax_tb) (hw2 : Cond.instantiable q.1 q.2.2.1 ∈ ax_tb) (hw3 : Cond.initialized q.1 ∈ ax_tb) (h1 : 1 ≤ bc) (h2 : q.2.2.1 ≤ bs) (K : AR ns l k d r P X (pc + 3) lv (.ref h.length :: st) (h ++ [(ci, (List.range q.2.2.1).map (fun j => defaultValue (q.2.2.2 j)))]) (bc - 1) (bs - q.2.2.1)) : AR ns l k d r P X pc lv st h bc bs := by
  intro D b o TC TS p e R s m args below meth c Z hX hP hXX lvc ls stc H locs cells slots hG
  have hx := hX.1
  have hb := hX.2.1
  obtain ⟨g1, g2, g3, g4, g5, g6, g7⟩ := hG
  obtain ⟨-, -, -, hown, hts, hT, -⟩ := id hX
  obtain ⟨-, -, -, -, -, -, -, -, hTC, hTS, -, -, -, -, hsz⟩ := id hX
  refine ax_size hsz g4 g6 (fun hh => ?_)
  have hKn := hT.1 ci q hq
  have hci := ax_cls_lt hq
  refine W.newcK hx hb hown (hts _ hw1) (hts _ hw2) (hts _ hw3) rfl hd (by omega) (by omega) hKn.2.1 rfl fun H1 kC hkC e1 z1 o1 => ?_
  rw [g4.top]
  refine K D b o TC TS p e R s m args below meth c Z hX hP hXX _ _ _ _ _ _ _ ⟨g1, g2, ⟨_, _, rfl, by rw [ax_v, ax_ad_lt hh], g3⟩, ?_, ⟨Nat.le_trans g5.1 (by omega), fun x h1 h2 => (o1 x (Nat.lt_of_lt_of_le h1 g5.1)).trans (g5.2.1 x h1 h2), g5.2.2⟩, by omega, by omega⟩
  refine g4.push (cell := blank (D.1 ci) kC) e1 z1 o1 (Or.inr ⟨rfl, rfl, fun h => absurd h (show ¬ 100 ≤ ci by omega), fun j x hj => ?_⟩)
  have hj2 : ((List.range q.2.2.1).map (fun j => defaultValue (q.2.2.2 j)))[j]? = some x := hj
  rw [List.getElem?_map] at hj2
  have hjN : j < q.2.2.1 := by
    rcases Nat.lt_or_ge j q.2.2.1 with h | h
    · exact h
    · rw [List.getElem?_eq_none (by simpa using h)] at hj2; cases hj2
  rw [List.getElem?_range hjN] at hj2
  cases hj2
  obtain ⟨hS, hfc, -⟩ := id hKn
  obtain ⟨cf, kf, fi, fd, hi, he⟩ := hS j hjN
  have h3 := (u_facts hfc hkC (u_lays hts (ax_cls_ws hq) hjN) hi).2.2
  rw [(State.fieldFound?_type hi (ax_cls_ty hq j hjN)).2] at h3
  obtain ⟨f1, f2⟩ := ax_cls_fl hq j hjN
  exact ⟨_, by show (blank (D.1 ci) kC).slots[D.2 ci j]? = _; rw [← he]; exact k2_blank h3, ax_v_default f1 f2⟩
theorem AR.newarray {t N : Nat} {atype : ArrayType} {ty : FieldType} {n : Int32} (hd : decode k.2.1 pc = .ok (.newarray atype, 2)) (ht : ax_tys[t]? = some ty) (hty : newarray.typeOf atype = ty) (hw : Cond.arrayClass ty ∈ ax_tb) (hn : ¬ n < 0) (hN : n.toNatClampNeg = N) (hs : N ≤ 60000000) (h1 : 1 ≤ bc) (h2 : N ≤ bs) (hf : ty ≠ .float ∧ ty ≠ .double) (K : AR ns l k d r P X (pc + 2) lv (.ref h.length :: st) (h ++ [(100 + t, List.replicate N (defaultValue ty))]) (bc - 1) (bs - N)) : AR ns l k d r P X pc lv (.int n :: st) h bc bs := by
  intro D b o TC TS p e R s m args below meth c Z hX hP hXX lvc ls stc H locs cells slots hG
  have hx := hX.1
  have hb := hX.2.1
  obtain ⟨g1, g2, g3, g4, g5, g6, g7⟩ := hG
  obtain ⟨-, -, -, hown, hts, hT, -⟩ := id hX
  obtain ⟨-, -, -, -, -, -, -, -, hTC, hTS, -, -, -, -, hsz⟩ := id hX
  refine ax_size hsz g4 g6 (fun hh => ?_)
  obtain ⟨v1, t1, rfl, hv1, hs1⟩ := g3
  cases hv1
  subst hty
  obtain ⟨a1, a2, a3⟩ := hT.2.1 t _ ht
  refine va_newaK hx hb (hts _ hw) rfl hd rfl hn hN (by cases atype <;> simp only [newarray.typeOf, componentBytes] <;> omega) (by omega) (by omega) rfl fun H1 cA e1 z1 o1 hAr hNm => ?_
  have hcA : cA = D.1 (100 + t) := by
    have h9 : s.vm.findClass ("[" ++ (newarray.typeOf atype).toString) = some (D.1 (100 + t)) := by cases atype <;> exact a2
    exact Option.some.inj (hNm.symm.trans h9)
  subst hcA
  rw [g4.top]
  refine K D b o TC TS p e R s m args below meth c Z hX hP hXX _ _ _ _ _ _ _ ⟨g1, g2, ⟨_, _, rfl, by rw [ax_v, ax_ad_lt hh], hs1⟩, ?_, ⟨Nat.le_trans g5.1 (by omega), fun x h1 h2 => (o1 x (Nat.lt_of_lt_of_le h1 g5.1)).trans (g5.2.1 x h1 h2), g5.2.2⟩, by omega, by omega⟩
  refine g4.push e1 z1 o1 (Or.inr ⟨rfl, rfl, fun _ => by rw [arrV_size, List.length_replicate], fun j x hj => ?_⟩)
  have hj2 : (List.replicate N (defaultValue (newarray.typeOf atype)))[j]? = some x := hj
  have hjl : j < N := by have := (List.getElem?_eq_some_iff.mp hj2).1; rwa [List.length_replicate] at this
  rw [List.getElem?_replicate_of_lt hjl] at hj2
  cases hj2
  exact ⟨_, by rw [a3 j]; exact arrV_read _ _ hjl, ax_v_default hf.1 hf.2⟩
theorem AR.anewarray {t N i : Nat} {C : String} {n : Int32} (hd : decode k.2.1 pc = .ok (.anewarray i, 3)) (ht : ax_tys[t]? = some (.object C)) (hw1 : Cond.classLink k.1.cls i C ∈ ax_tb) (hw2 : Cond.arrayOver (.object C) ∈ ns.1) (hn : ¬ n < 0) (hN : n.toNatClampNeg = N) (hs : N ≤ 60000000) (h1 : 1 ≤ bc) (h2 : N ≤ bs) (K : AR ns l k d r P X (pc + 3) lv (.ref h.length :: st) (h ++ [(100 + t, List.replicate N .null)]) (bc - 1) (bs - N)) : AR ns l k d r P X pc lv (.int n :: st) h bc bs := by
  intro D b o TC TS p e R s m args below meth c Z hX hP hXX lvc ls stc H locs cells slots hG
  have hx := hX.1
  have hb := hX.2.1
  obtain ⟨g1, g2, g3, g4, g5, g6, g7⟩ := hG
  obtain ⟨-, -, -, hown, hts, hT, -⟩ := id hX
  obtain ⟨-, -, -, -, -, -, -, -, hTC, hTS, -, -, -, -, hsz⟩ := id hX
  refine ax_size hsz g4 g6 (fun hh => ?_)
  obtain ⟨v1, t1, rfl, hv1, hs1⟩ := g3
  cases hv1
  subst hN
  obtain ⟨a1, ⟨kA, comp, b1, b2, b3, b4⟩, a3⟩ := hT.2.1 t _ ht
  refine W.anew hx hb hown (hts _ hw1) (ax_nw_use (hT.2.2.1 _ hw2).1 (hT.2.2.1 _ hw2).2) rfl hd rfl hn (by omega) (by omega) (by omega) fun cA kA2 comp2 q1 q2 q3 q4 => ?_
  have hcA : cA = D.1 (100 + t) := Option.some.inj (q1.symm.trans b4)
  subst hcA
  rw [g4.top]
  refine K D b o TC TS p e R s m args below meth c Z hX hP hXX _ _ _ _ _ _ _ ⟨g1, g2, ⟨_, _, rfl, by rw [ax_v, ax_ad_lt hh], hs1⟩, ?_, ⟨Nat.le_trans g5.1 (by simp), fun x h1 h2 => by rw [← g5.2.1 x h1 h2]; have := Nat.lt_of_lt_of_le h1 g5.1; simp [Array.getElem?_push, Nat.ne_of_lt this], g5.2.2⟩, by omega, by omega⟩
  refine g4.push (cell := { cls := D.1 (100 + t), slots := Array.replicate n.toNatClampNeg .null, vm := .none }) (by simp) (by simp) (fun x h => by simp [Array.getElem?_push, Nat.ne_of_lt h]) (Or.inr ⟨rfl, rfl, fun _ => by simp, fun j x hj => ?_⟩)
  have hj2 : (List.replicate n.toNatClampNeg Value.null)[j]? = some x := hj
  have hjl : j < n.toNatClampNeg := by have := (List.getElem?_eq_some_iff.mp hj2).1; rwa [List.length_replicate] at this
  rw [List.getElem?_replicate_of_lt hjl] at hj2
  cases hj2
  exact ⟨.null, by rw [a3 j]; simp [hjl], rfl⟩
theorem AR.getstatic {i : Nat} {q : String × String × String × Value} (hd : decode k.2.1 pc = .ok (.getstatic i, 3)) (hq : q ∈ ax_stat) (hw : Cond.fieldLink k.1.cls i q.1 q.2.1 q.2.2.1 ∈ ax_tb) (K : AR ns l k d r P X (pc + 3) lv (q.2.2.2 :: st) h bc bs) : AR ns l k d r P X pc lv st h bc bs := by
  intro D b o TC TS p e R s m args below meth c Z hX hP hXX lvc ls stc H locs cells slots hG
  have hx := hX.1
  have hb := hX.2.1
  obtain ⟨g1, g2, g3, g4, g5, g6, g7⟩ := hG
  obtain ⟨-, -, -, hown, hts, hT, -⟩ := id hX
  obtain ⟨-, -, -, -, -, -, h7, -⟩ := hT
  obtain ⟨v, hv, hZ⟩ := h7 q hq
  have hZ2 : va_Z q.1 q.2.1 q.2.2.1 v (ax_RG b o) s s.heap := by
    obtain ⟨cf, kf, fi, f, a, cell, h1, h2, h3, h4, h5, h6, h7, h8⟩ := hZ
    exact ⟨cf, kf, fi, f, a, cell, h1, h2, h3, h4, h5, h6, h7, fun z => h8 z.1⟩
  exact va_gets hx hb hZ2 g5 hown (hts _ hw) (fun _ h => h) hd (K D b o TC TS p e R s m args below meth c Z hX hP hXX _ _ _ _ _ _ _ ⟨g1, g2, ⟨_, _, rfl, hv, g3⟩, g4, g5, g6, g7⟩)
theorem AR.objInit {i a : Nat} (hd : decode k.2.1 pc = .ok (.invokespecial i, 3)) (hw1 : Cond.methodLink k.1.cls i Lib.objectInit ∈ ax_tb) (hw2 : Cond.instanceMethod Lib.objectInit ∈ ax_tb) (hw3 : Cond.code Lib.objectInit ⟨#[0xb1]⟩ 1 none ∈ ax_tb) (hc : (st.map fun v => v.category).sum ≤ 8) (K : AR ns l k d r P X (pc + 3) lv st h bc bs) : AR ns l k d r P X pc lv (.ref a :: st) h bc bs := by
  intro D b o TC TS p e R s m args below meth c Z hX hP hXX lvc ls stc H locs cells slots hG
  have hx := hX.1
  have hb := hX.2.1
  obtain ⟨g1, g2, g3, g4, g5, g6, g7⟩ := hG
  obtain ⟨-, -, -, hown, hts, hT, -⟩ := id hX
  obtain ⟨-, -, hml, -, -, -, hfr, hlo, -⟩ := id hX
  obtain ⟨v1, t1, rfl, hv1, hs1⟩ := g3
  cases hv1
  refine W.objInit hx hb hown (hts _ hw1) (hts _ hw2) (hts _ hw3) rfl (g1.1.trans hml.symm) rfl hd (by omega) ?_ ?_
  · rw [ax_vs_cat hs1]
    show 2 * 0 + _ + 12 ≤ _
    omega
  · exact W.eq (g2 := F0 m (pc + 3) ls t1) rfl (K D b o TC TS p e R s m args below meth c Z hX hP hXX _ _ _ _ _ _ _ ⟨g1, g2, hs1, g4, g5, g6, g7⟩)
end AXS
