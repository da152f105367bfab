/-! p44, 3: Strings and builders, with what they hold -/
section HSA
variable {ns : ax_NS} {l : Launch} {k : ax_M} {d : Nat} {r : ax_H} {P : ax_P} {X : ax_PX} {pc : Nat} {lv : List (Nat × Value)} {st : List Value} {h : ax_H} {bc bs : Nat}
theorem AR.anull (hd : decode k.2.1 pc = .ok (.aconst_null, 1)) (K : AR ns l k d r P X (pc + 1) lv (.null :: st) h bc bs) : AR ns l k d r P X pc lv st h bc bs := AR.push0 (v := .null) (fun _ _ => rfl) (fun hx hb q => lv_null hx hb hd q) K
/-- a cast of a byte array -/
theorem AR.castB {i a : Nat} {vs : List Value} (hd : decode k.2.1 pc = .ok (.checkcast i, 3)) (hw : Cond.classLink k.1.cls i "[B" ∈ ax_tb) (ha : a < 1000000000) (hg : h[a]? = some (103, vs)) (K : AR ns l k d r P X (pc + 3) lv (.ref a :: st) h bc bs) : AR ns l k d r P X pc lv (.ref a :: st) h bc bs := by
  intro D b o TC TS p e R s m args below meth c Z hX hP hXX lvc ls stc H locs cells slots hG T hT9 X9
  obtain ⟨hx, hb, hml, hown, hts, hT, hfr, hlo, -⟩ := id hX
  obtain ⟨g1, g2, g3, g4, g5, g6, g7⟩ := hG
  obtain ⟨v1, t1, rfl, hv1, hs1⟩ := g3
  cases hv1
  rw [ax_ad_lt ha]
  obtain ⟨cd, f0, f1⟩ := g4.2.1 a _ hg
  obtain ⟨d1, d2, d3, d4, d5⟩ := ax_arr (t := 3) hT rfl f1
  obtain ⟨vm', X', step⟩ := X9.checkcastYes hx hown (hts _ hw) (a := b + ax_of o a) (cell := cd) (by rw [hT9]; exact f0) (by rw [d2]; rfl) (cT := D.1 103) (va_nm_byte (hT.2.1 3 _ rfl).2.1) (by rw [d4]; exact va_asg _ _) (g := F0 m pc ls (.ref (b + ax_of o a) :: t1)) rfl rfl (by rw [hb]; exact hd)
  obtain ⟨t', a1, b1⟩ := K D b o TC TS p e R s m args below meth c Z hX hP hXX lvc ls (.ref (b + ax_of o a) :: t1) H locs cells slots ⟨g1, g2, ⟨_, _, rfl, by rw [ax_v, ax_ad_lt ha], hs1⟩, g4, g5, g6, g7⟩ (T.setVm vm') hT9 X'
  exact ⟨t', step t' a1, b1⟩
/-- a byte array cloned -/
theorem AR.cloneB {i a : Nat} {vs : List Value} (hd : decode k.2.1 pc = .ok (.invokevirtual i, 3)) (hw : Cond.methodLink k.1.cls i ⟨"[B", "clone", "()Ljava/lang/Object;"⟩ ∈ ax_tb) (hw2 : Cond.sameMethod "[B" "java/lang/Object" "clone" "()Ljava/lang/Object;" ∈ ax_tb) (hw3 : Cond.native ⟨"java/lang/Object", "clone", "()Ljava/lang/Object;"⟩ ∈ ax_tb) (hw4 : Cond.instanceMethod ⟨"java/lang/Object", "clone", "()Ljava/lang/Object;"⟩ ∈ ax_tb)
    (hw5 : Cond.selects "[B" ⟨"[B", "clone", "()Ljava/lang/Object;"⟩ ⟨"java/lang/Object", "clone", "()Ljava/lang/Object;"⟩ ∈ ax_tb) (hw6 : Cond.castable "[B" "java/lang/Cloneable" ∈ ns.1) (ha : a < 1000000000) (hg : h[a]? = some (103, vs)) (hv : ∀ x ∈ vs, hj_by x) (hcat : (st.map fun v => v.category).sum ≤ 8) (h1 : 1 ≤ bc) (h2 : vs.length ≤ bs)
    (K : AR ns l k d r P X (pc + 3) lv (.ref h.length :: st) (h ++ [(103, vs)]) (bc - 1) (bs - vs.length)) : AR ns l k d r P X pc lv (.ref a :: st) h bc bs := by
  intro D b o TC TS p e R s m args below meth c Z hX hP hXX lvc ls stc H locs cells slots hG
  obtain ⟨g1, g2, g3, g4, g5, g6, g7⟩ := hG
  obtain ⟨-, -, -, -, -, -, -, -, hTC, hTS, -, -, -, -, hsz⟩ := id hX
  refine ax_size hsz g4 g6 (fun hh => ?_)
  intro T hT9 X9
  obtain ⟨hx, hb, hml, hown, hts, hT, hfr, hlo, -⟩ := id hX
  obtain ⟨v1, t1, rfl, hv1, hs1⟩ := g3
  cases hv1
  rw [ax_ad_lt ha]
  obtain ⟨cd, f0, f1⟩ := g4.2.1 a _ hg
  obtain ⟨d1, d2, d3, d4, d5⟩ := ax_arr (t := 3) hT rfl f1
  have hnb := va_nm_byte (hT.2.1 3 _ rfl).2.1
  obtain ⟨c0, t0', q1, q2, q3⟩ := Cond.castable_spec (ax_nw_use (A := args) (hT.2.2.1 _ hw6).1 (hT.2.2.1 _ hw6).2)
  cases hnb.symm.trans q1
  obtain ⟨-, kA, hkA, comp, hkind⟩ := State.isArrayOf_alike X9.warmed.alike d1
  obtain ⟨-, kS, hkS, compS, hkindS⟩ := d1
  obtain ⟨vm', X', step⟩ := X9.cloneArray hx hown (hts _ hw) (hts _ hw2) (hts _ hw3) (hts _ hw4) (hts _ hw5) (a := b + ax_of o a) (cell := cd) (by rw [hT9]; exact f0) (fun k h => by rw [d2] at h; cases h) (by rw [d2]; exact fun h => by cases h) (by rw [d4]; exact hnb) q2 (by rw [d4]; exact q3)
    (fun i v hv9 => by
      have hk' : T.vm.classes[cd.cls]? = some kA := hkA
      have hil : i < vs.length := by have := (Array.getElem?_eq_some_iff.mp hv9).1; omega
      obtain ⟨w, w1, w2⟩ := d5 i _ (List.getElem?_eq_getElem hil)
      obtain ⟨z, e2, e3⟩ := hv _ (List.getElem_mem hil)
      rw [e2] at w2
      cases w2
      cases hv9.symm.trans w1
      have h9 := (ax_fit_spec (b := b) (o := o) (hj_fit ⟨z, rfl, e3⟩) rfl).2
      simpa [State.fitsSlot, State.slotType?, hk', hkind] using h9)
    (g := F0 m pc ls (.ref (b + ax_of o a) :: t1)) rfl (g1.1.trans hml.symm) rfl (by rw [hb]; exact hd) (by omega) (by show 2 * 0 + _ + 14 ≤ _; rw [ax_vs_cat hs1]; omega) (by omega) (by rw [d3]; omega) (hloader := Vm.clonesLoader_of_array hkS hkindS)
  rw [d3] at X'
  generalize hH1 : H.push { cls := cd.cls, slots := cd.slots } = H1
  have z1 : H1.size = H.size + 1 := by rw [← hH1, Array.size_push]
  have e1 : H1[H.size]? = some { cls := cd.cls, slots := cd.slots } := by rw [← hH1, Array.getElem?_push_size]
  have o1 : ∀ q : Nat, q < H.size → H1[q]? = H[q]? := fun q hq => by rw [← hH1, Array.getElem?_push, if_neg (Nat.ne_of_lt hq)]
  obtain ⟨t', a1, b1⟩ := K D b o TC TS p e R s m args below meth c Z hX hP hXX lvc ls (.ref H.size :: t1) H1 locs (cells + 1) (slots + vs.length) ⟨g1, g2, ⟨_, _, rfl, by rw [g4.top, ax_v, ax_ad_lt hh], hs1⟩, g4.push e1 z1 o1 (Or.inr ⟨rfl, d4, fun _ => d3, fun j x hj => by rw [(hT.2.1 3 _ rfl).2.2 j]; exact d5 j x hj⟩), ⟨Nat.le_trans g5.1 (by omega), fun x h1 h2 => (o1 x (Nat.lt_of_lt_of_le h1 g5.1)).trans (g5.2.1 x h1 h2), g5.2.2⟩, by omega, by omega⟩ ((T.setVm vm').pushCell { cls := cd.cls, slots := cd.slots }) (by rw [← hH1, ← hT9]; rfl) X'
  refine ⟨t', step t' ?_, b1⟩
  rw [hT9]
  exact a1
/-- letters, as what an array holds -/
def sI (ts : List Int32) : List Value := ts.map Value.int
theorem sI_len (ts : List Int32) : (sI ts).length = ts.length := List.length_map ..
theorem sI_app (a b : List Int32) : sI (a ++ b) = sI a ++ sI b := List.map_append
def sk (c : Int32) : Prop := 0 ≤ c.toInt ∧ c.toInt ≤ 127
theorem sk_by {ts : List Int32} (h : ∀ c ∈ ts, sk c) : ∀ x ∈ sI ts, hj_by x := fun x hx => by
  obtain ⟨c, hc, rfl⟩ := List.mem_map.mp hx
  have := h c hc
  exact ⟨c, rfl, by have := this.1; omega, this.2⟩
theorem sI_get {ts : List Int32} {j : Nat} (hj : j < ts.length) : (sI ts)[j]? = some (.int (ts.getD j 0)) := by
  unfold sI
  rw [List.getElem?_map, List.getElem?_eq_getElem hj, List.getD_eq_getElem?_getD, List.getElem?_eq_getElem hj]
  rfl
/-- what is copied: the first bytes of an own array, or a constant's -/
def sS (h : ax_H) (a : Nat) (m : List Value) : Prop := (∃ t, a < 1000000000 ∧ h[a]? = some (103, m ++ t)) ∨ ∃ q ∈ ax_sl, a = 1000000000 + (q.2.1 + 1) ∧ m = sI q.2.2.1
theorem sl_lt : ∀ q ∈ ax_sl, q.2.1 + 1 < 1000 := by decide
theorem AR.bcx {i a0 a : Nat} {p9 m9 y9 z9 : List Value} {sp dp n : Int32} (hd : decode k.2.1 pc = .ok (.invokestatic i, 3)) (hw : Cond.methodLink k.1.cls i arraycopyName ∈ ax_tb) (hS : sS h a0 m9) (hm : ∀ x ∈ m9, hj_by x) (ha : a < 1000000000) (hg1 : h[a]? = some (103, p9 ++ y9 ++ z9)) (hus : ∀ x ∈ p9 ++ y9 ++ z9, hj_by x) (h1 : sp.toInt = 0) (h2 : dp.toInt = p9.length) (h3 : n.toInt = m9.length) (h4 : y9.length = m9.length) (hcat : (st.map fun v => v.category).sum ≤ 8)
    (K : AR ns l k d r P X (pc + 3) lv st (h.set a (103, p9 ++ m9 ++ z9)) bc bs) : AR ns l k d r P X pc lv (.int n :: .int dp :: .ref a :: .int sp :: .ref a0 :: st) h bc bs := by
  intro D b o TC TS p e R s m args below meth c Z hX hP hXX lvc ls stc H locs cells slots hG T hT9 X9
  obtain ⟨hx, hb, hml, hown, hts, hT, hfr, hlo, -⟩ := id hX
  obtain ⟨g1, g2, g3, g4, g5, g6, g7⟩ := hG
  obtain ⟨v1, t1, rfl, hv1, hs1⟩ := g3
  obtain ⟨v2, t2, rfl, hv2, hs2⟩ := hs1
  obtain ⟨v3, t3, rfl, hv3, hs3⟩ := hs2
  obtain ⟨v4, t4, rfl, hv4, hs4⟩ := hs3
  obtain ⟨v5, t5, rfl, hv5, hs5⟩ := hs4
  cases hv1; cases hv2; cases hv3; cases hv4; cases hv5
  rw [ax_ad_lt ha]
  generalize hus9 : p9 ++ y9 ++ z9 = us at hg1 hus
  have hul : us.length = p9.length + m9.length + z9.length := by rw [← hus9, List.length_append, List.length_append, h4]
  have hsrc : ∃ cs : Cell, H[ax_ad b o a0]? = some cs ∧ s.isArrayOf cs .byte ∧ cs.vm ≠ .unknown ∧ m9.length ≤ cs.slots.size ∧ ∀ i, i < m9.length → cs.slots[i]? = some (m9.getD i .null) := by
    rcases hS with ⟨tl, q1, q2⟩ | ⟨q, q2, rfl, q3⟩
    · obtain ⟨cs, e0, e1⟩ := g4.2.1 a0 _ q2
      obtain ⟨d1, d2, d3, d4, d5⟩ := ax_arr (t := 3) hT rfl e1
      refine ⟨cs, by rw [ax_ad_lt q1]; exact e0, d1, (by rw [d2]; exact (fun q => by cases q)), by rw [d3, List.length_append]; omega, fun i hi => ?_⟩
      obtain ⟨v, w1, w2⟩ := d5 i (m9[i]) (by rw [List.getElem?_append_left hi]; exact List.getElem?_eq_getElem hi)
      obtain ⟨z, e2, e3⟩ := hm _ (List.getElem_mem hi)
      rw [e2] at w2
      cases w2
      rw [w1, List.getD_eq_getElem?_getD, List.getElem?_eq_getElem hi, e2]
      rfl
    · obtain ⟨-, -, -, -, -, -, -, -, -, -, hJ⟩ := hT
      obtain ⟨cs, e1, e2, e3, e4, e5, e6, e7⟩ := ((hJ.1 q q2).1.2.2.2.narrow (B := ax_RG b o) (fun q z => z.1)).kept g5.2.1
      have hl : m9.length = q.2.2.1.length := by rw [q3, sI_len]
      refine ⟨cs, by rw [ax_ad_j (sl_lt q q2)]; exact e1, e2, e3, by omega, fun i hi => ?_⟩
      rw [e6 i (by omega), q3, List.getD_eq_getElem?_getD, sI_get (by omega)]
      rfl
  obtain ⟨cs, e0, ⟨s1, ks, hks, sComp, hsk⟩, s2, s3, s5⟩ := hsrc
  obtain ⟨cd, f0, f1⟩ := g4.2.1 a _ hg1
  obtain ⟨⟨d1, kd, hkd, dComp, hdk⟩, d2, d3, d4, d5⟩ := ax_arr (t := 3) hT rfl f1
  obtain ⟨nn1, nn⟩ := hj_nn (j := n) (by omega)
  obtain ⟨ns1, nsp⟩ := hj_nn (j := sp) (by omega)
  obtain ⟨nd1, ndp⟩ := hj_nn (j := dp) (by omega)
  have hnl : nativeFrameWords "java/lang/System" "arraycopy" 5 + 11 ≤ 20 := by decide
  have hby : ∀ i, i < m9.length → ∃ z, m9.getD i .null = .int z ∧ -128 ≤ z.toInt ∧ z.toInt ≤ 127 := fun i hi => by
    rw [List.getD_eq_getElem?_getD, List.getElem?_eq_getElem hi]
    exact hm _ (List.getElem_mem hi)
  obtain ⟨vm', X', step⟩ := X9.arraycopy hx hown (hts _ hw) (hts _ ax_acw.1) (hts _ ax_acw.2.1) (hts _ ax_acw.2.2) (src := ax_ad b o a0) (dst := b + ax_of o a) (cs := cs) (cd := cd) (srcPos := sp) (destPos := dp) (n := n) (by rw [hT9]; exact e0) (by rw [hT9]; exact f0) s1 d1 s2 (by rw [d2]; exact fun q => by cases q) hks hkd hsk hdk (by decide) ns1 nd1 nn1 (by omega) (by rw [d3]; omega)
    (fun vm₁ _ i hi => by
      obtain ⟨z, q1, q2⟩ := hby (sp.toNatClampNeg + i) (by omega)
      have e : cs.slots.getD (sp.toNatClampNeg + i) .null = .int z := by rw [Array.getD_eq_getD_getElem?, s5 _ (by omega), q1]; rfl
      rw [e]
      exact ⟨(ax_fit_spec (b := b) (o := o) (hj_fit ⟨z, rfl, q2⟩) rfl).2, trivial⟩)
    (g := F0 m pc ls (.int n :: .int dp :: .ref (b + ax_of o a) :: .int sp :: .ref (ax_ad b o a0) :: t5)) rfl (g1.1.trans hml.symm) (rest := t5) rfl (by rw [hb]; exact hd) (by omega) (by show 2 * 0 + _ + _ ≤ _; rw [ax_vs_cat hs5]; omega)
  have hl : b + ax_of o a < H.size := (Array.getElem?_eq_some_iff.mp f0).1
  obtain ⟨c1, c2, c3, -⟩ : (copied cs cd sp dp n).cls = cd.cls ∧ (copied cs cd sp dp n).vm = cd.vm ∧ (copied cs cd sp dp n).slots.size = cd.slots.size ∧ True := by
    obtain ⟨c1, c2, c3, -⟩ := Cell.storeRun_facts cd dp.toNatClampNeg (cs.stretch sp.toNatClampNeg n.toNatClampNeg)
    exact ⟨c1, c2, c3, trivial⟩
  have hlen : (cs.stretch sp.toNatClampNeg n.toNatClampNeg).length = n.toNatClampNeg := by simp [Cell.stretch]
  have hslots : ∀ (j : Nat) (x : Value), (p9 ++ m9 ++ z9)[j]? = some x → ∃ v, (copied cs cd sp dp n).slots[j]? = some v ∧ ax_v b o x v := by
    intro j x hjx
    have hj : j < us.length := by
      have := (List.getElem?_eq_some_iff.mp hjx).1
      rw [List.length_append, List.length_append] at this
      omega
    show ∃ v, (cd.storePairs _ ((cs.stretch _ _).zipIdx)).slots[j]? = some v ∧ _
    rw [Cell.storePairs_get cd dp.toNatClampNeg (cs.stretch sp.toNatClampNeg n.toNatClampNeg) 0 j (by rw [hlen, d3]; omega)]
    split
    · rename_i hc
      rw [hlen] at hc
      have hjm : j - p9.length < m9.length := by omega
      have e9 : x = m9.getD (j - p9.length) .null := by
        rw [List.getElem?_append_left (by rw [List.length_append]; omega), List.getElem?_append_right (by omega)] at hjx
        rw [List.getD_eq_getElem?_getD, hjx]
        rfl
      obtain ⟨z, q1, q2⟩ := hby (j - p9.length) hjm
      refine ⟨.int z, ?_, by rw [e9, q1]; rfl⟩
      simp only [Cell.stretch, List.getElem?_map]
      rw [List.getElem?_range (by omega)]
      simp only [Option.map_some, Array.getD_eq_getD_getElem?]
      rw [s5 _ (by omega), show sp.toNatClampNeg + (j - (dp.toNatClampNeg + 0)) = j - p9.length by omega, q1]
      rfl
    · rename_i hc
      rw [hlen] at hc
      have e9 : us[j]? = some x := by
        rw [← hus9]
        by_cases c9 : j < p9.length
        · rw [List.append_assoc, List.getElem?_append_left c9]
          rw [List.append_assoc, List.getElem?_append_left c9] at hjx
          exact hjx
        · rw [List.getElem?_append_right (by rw [List.length_append]; omega), List.length_append, h4]
          rw [List.getElem?_append_right (by rw [List.length_append]; omega), List.length_append] at hjx
          exact hjx
      exact d5 j x e9
  generalize copied cs cd sp dp n = cN at X' step hslots c1 c2 c3
  have hheap : ((T.setVm vm').setCell (b + ax_of o a) cN).heap = H.setIfInBounds (b + ax_of o a) cN := by rw [← hT9]; rfl
  have oq : ∀ q : Nat, q ≠ b + ax_of o a → (H.setIfInBounds (b + ax_of o a) cN)[q]? = H[q]? := fun q hq => by simp [Array.getElem?_setIfInBounds, Ne.symm hq]
  have hR1 : ax_R D b o (h.set a (103, p9 ++ m9 ++ z9)) (H.setIfInBounds (b + ax_of o a) cN) := by
    refine g4.set (cell := cN) (by simp [Array.getElem?_setIfInBounds, hl]) (by simp) oq (Or.inr ⟨c2.trans d2, c1.trans d4, fun _ => by rw [c3, d3, hul, List.length_append, List.length_append], fun j x hj => ?_⟩)
    rw [show D.2 103 j = j from (hT.2.1 3 _ rfl).2.2 j]
    exact hslots j x hj
  obtain ⟨t', a1, b1⟩ := K D b o TC TS p e R s m args below meth c Z hX hP hXX lvc ls t5 (H.setIfInBounds (b + ax_of o a) cN) (locs ++ (cs.stretch sp.toNatClampNeg n.toNatClampNeg).zipIdx.map fun q => ⟨b + ax_of o a, dp.toNatClampNeg + q.2⟩) cells slots ⟨g1, g2, hs5, hR1, ⟨by simp; exact g5.1, fun q q1 q2 => by rw [oq q (fun e => q2 (by rw [e]; exact g4.rg hg1))]; exact g5.2.1 q q1 q2, fun q hq => by
      rcases List.mem_append.mp hq with h | h
      · exact g5.2.2 q h
      · obtain ⟨z, -, hz⟩ := List.mem_map.mp h
        rw [← hz]
        exact g4.rg hg1⟩, g6, g7⟩ _ hheap X'
  exact ⟨t', step t' a1, b1⟩
end HSA
section HSB
variable {l : Launch} {d i pc : Nat} {P : ax_P} {X : ax_PX} {lv : List (Nat × Value)} {st : List Value} {h h0 : ax_H} {bc bs' : Nat} {v : Value} {ws : List Nat} {w : Nat × Nat × Nat}
variable {a b ix dy mc ms : Nat} {Q : ax_Q} {as rest : List Value}
abbrev hs_c10 : ax_Cl := (RJ4, TJ4, 4, tyJ4)
abbrev hs_c11 : ax_Cl := (RJ0, TJ0, 4, tyJ0)
/-- a builder at B with the letters ts, its bytes at k; all of it above n0 -/
def sB (h : ax_H) (n0 B k : Nat) (n : Int32) (ts : List Int32) (r : List Value) : Prop := h[B]? = some (10, [.ref k, .int 0, .int 0, .int n]) ∧ h[k]? = some (103, sI ts ++ r) ∧ n.toInt = ts.length ∧ B ≠ k ∧ k < 1000000000 ∧ B < 1000000000 ∧ n0 ≤ B ∧ n0 ≤ k ∧ (∀ x ∈ r, hj_by x) ∧ (∀ c ∈ ts, sk c) ∧ ts.length + r.length ≤ 100
def sBx (h : ax_H) (n0 B : Nat) (ts : List Int32) : Prop := ∃ k n r, sB h n0 B k n ts r
/-- the cells below n0 are as they were -/
def fB (n0 : Nat) (h g : ax_H) : Prop := h.length ≤ g.length ∧ ∀ p, p < n0 → g[p]? = h[p]?
theorem fB_r (n0 : Nat) (h : ax_H) : fB n0 h h := ⟨Nat.le_refl _, fun _ _ => rfl⟩
theorem fB.tr {n0 : Nat} {a b c : ax_H} (x : fB n0 a b) (y : fB n0 b c) : fB n0 a c := ⟨Nat.le_trans x.1 y.1, fun p hp => (y.2 p hp).trans (x.2 p hp)⟩
theorem fB_set {n0 q : Nat} {h : ax_H} {c : Nat × List Value} (hq : n0 ≤ q) : fB n0 h (h.set q c) := ⟨by rw [List.length_set]; exact Nat.le_refl _, fun p hp => List.getElem?_set_ne (by omega)⟩
theorem fB_push {n0 : Nat} {h gs : ax_H} (hn : n0 ≤ h.length) : fB n0 h (h ++ gs) := ⟨by rw [List.length_append]; omega, fun p hp => List.getElem?_append_left (by omega)⟩
/-- all cells but B are as they were -/
def fX (B : Nat) (h g : ax_H) : Prop := h.length ≤ g.length ∧ ∀ p, p < h.length → p ≠ B → g[p]? = h[p]?
theorem fX.fB {n0 B : Nat} {h g : ax_H} (x : fX B h g) (hB : n0 ≤ B) (hn : n0 ≤ h.length) : fB n0 h g := ⟨x.1, fun p hp => x.2 p (by omega) (by omega)⟩
/-- a String with these letters -/
def sT (h : ax_H) (a : Nat) (ts : List Int32) : Prop := (∀ c ∈ ts, sk c) ∧ ts.length ≤ 100 ∧ ((∃ t y z, a < 1000000000 ∧ h[a]? = some (11, [.ref t, .int 0, y, z]) ∧ t < 1000000000 ∧ h[t]? = some (103, sI ts)) ∨ ∃ q ∈ ax_sl, a = 1000000000 + q.2.1 ∧ ts = q.2.2.1)
/-- its bytes -/
def sA (h : ax_H) (t : Nat) (ts : List Int32) : Prop := (∀ c ∈ ts, sk c) ∧ ts.length ≤ 100 ∧ ((t < 1000000000 ∧ h[t]? = some (103, sI ts)) ∨ ∃ q ∈ ax_sl, t = 1000000000 + (q.2.1 + 1) ∧ ts = q.2.2.1)
theorem sT.fX {B : Nat} {h g : ax_H} {ts : List Int32} (S : sT h a ts) (F : fX B h g) {vs : List Value} (hB : h[B]? = some (10, vs)) : sT g a ts := by
  obtain ⟨S1, S2, S3⟩ := S
  refine ⟨S1, S2, S3.imp (fun ⟨t, y, z, q1, q2, q3, q4⟩ => ⟨t, y, z, q1, ?_, q3, ?_⟩) id⟩
  · rw [F.2 a (List.getElem?_eq_some_iff.mp q2).1 (fun e => by rw [e, hB] at q2; cases q2)]
    exact q2
  · rw [F.2 t (List.getElem?_eq_some_iff.mp q4).1 (fun e => by rw [e, hB] at q4; cases q4)]
    exact q4
theorem sT.fB {n0 : Nat} {h g : ax_H} {ts : List Int32} (S : sT h a ts) (F : fB n0 h g) (hn : n0 = h.length) : sT g a ts := by
  obtain ⟨S1, S2, S3⟩ := S
  refine ⟨S1, S2, S3.imp (fun ⟨t, y, z, q1, q2, q3, q4⟩ => ⟨t, y, z, q1, ?_, q3, ?_⟩) id⟩
  · rw [F.2 a (by rw [hn]; exact (List.getElem?_eq_some_iff.mp q2).1)]
    exact q2
  · rw [F.2 t (by rw [hn]; exact (List.getElem?_eq_some_iff.mp q4).1)]
    exact q4
/-- a field of a String: its bytes -/
theorem AR.sV {c : Nat} {ts : List Int32} (hl : ax_look i pc = some (.getfield ix, (11, 0, c), v, ws)) (hw : Cond.fieldLink (ax_mm i).1.cls ix "java/lang/String" "value" "[B" ∈ ax_tb) (S : sT h a ts) (K : ∀ t, sA h t ts → AR ax_ns l (ax_mm i) d ty_R P X (pc + 3) lv (.ref t :: st) h bc bs') : AR ax_ns l (ax_mm i) d ty_R P X pc lv (.ref a :: st) h bc bs' := by
  obtain ⟨S1, S2, ⟨t, y, z, q1, q2, q3, q4⟩ | ⟨q, q1, rfl, q3⟩⟩ := S
  · exact AR.gx hl (by decide) q1 q2 (x := .ref t) rfl (K t ⟨S1, S2, Or.inl ⟨q3, q4⟩⟩)
  · exact AR.strG (x := .ref (1000000000 + (q.2.1 + 1))) (ax_look_ok hl).1 (by have := sl_lt q q1; omega) hw (fun b o U hJ => ⟨.ref (o (q.2.1 + 1)), by rw [ax_v, ax_ad_j (sl_lt q q1)], (hJ.1 q q1).1.2.2.1⟩) (K _ ⟨S1, S2, Or.inr ⟨q, q1, rfl, q3⟩⟩)
/-- its coder -/
theorem AR.sC {c : Nat} {ts : List Int32} (hl : ax_look i pc = some (.getfield ix, (11, 1, c), v, ws)) (hw : Cond.fieldLink (ax_mm i).1.cls ix "java/lang/String" "coder" "B" ∈ ax_tb) (S : sT h a ts) (K : AR ax_ns l (ax_mm i) d ty_R P X (pc + 3) lv (.int 0 :: st) h bc bs') : AR ax_ns l (ax_mm i) d ty_R P X pc lv (.ref a :: st) h bc bs' := by
  obtain ⟨S1, S2, ⟨t, y, z, q1, q2, q3, q4⟩ | ⟨q, q1, rfl, q3⟩⟩ := S
  · exact AR.gx hl (by decide) q1 q2 (x := .int 0) rfl K
  · exact AR.strG (x := .int 0) (ax_look_ok hl).1 (by have := sl_lt q q1; omega) hw (fun b o U hJ => ⟨_, rfl, (hJ.1 q q1).1.2.1⟩) K
/-- how many bytes -/
theorem AR.sL {ts : List Int32} {t : Nat} (hl : ax_look i pc = some (.arraylength, w, v, ws)) (S : sA h t ts) (K : ∀ z : Int32, z.toInt = ts.length → AR ax_ns l (ax_mm i) d ty_R P X (pc + 1) lv (.int z :: st) h bc bs') : AR ax_ns l (ax_mm i) d ty_R P X pc lv (.ref t :: st) h bc bs' := by
  obtain ⟨S1, S2, ⟨q1, q2⟩ | ⟨q, q1, rfl, q3⟩⟩ := S
  · exact AR.alx (t := 0) hl q1 q2 (by rw [sI_len]; omega) (fun z ez => K z (by rw [ez, sI_len]))
  · exact AR.strL (j := q.2.1 + 1) (n := q.2.2.1.length) (f := fun j => .int (q.2.2.1.getD j 0)) (ax_look_ok hl).1 (sl_lt q q1) (fun b o U hJ => (hJ.1 q q1).1.2.2.2) (K _ (by rw [q3]; exact Int32.toInt_ofNat_of_lt (by rw [q3] at S2; omega)))
/-- one of them -/
theorem AR.sG {ts : List Int32} {t : Nat} {j : Int32} (hl : ax_look i pc = some (.baload, w, v, ws)) (S : sA h t ts) (j0 : 0 ≤ j.toInt) (j1 : j.toInt < ts.length) (K : AR ax_ns l (ax_mm i) d ty_R P X (pc + 1) lv (.int (ts.getD j.toInt.toNat 0) :: st) h bc bs') : AR ax_ns l (ax_mm i) d ty_R P X pc lv (.int j :: .ref t :: st) h bc bs' := by
  obtain ⟨S1, S2, ⟨q1, q2⟩ | ⟨q, q1, rfl, q3⟩⟩ := S
  · exact AR.baload (ax_look_ok hl).1 (hb_get q1 q2) (hj_nn j0).1 (sI_get (j := j.toInt.toNat) (by omega)) K
  · subst q3
    exact AR.jald (j := q.2.1 + 1) (n := q.2.2.1.length) (f := fun j => q.2.2.1.getD j 0) (ax_look_ok hl).1 (sl_lt q q1) (fun b o U hJ => (hJ.1 q q1).1.2.2.2) (hj_nn j0).1 (by show j.toInt.toNat < _; omega) K
/-- calls on a builder, by the class, or of the class above -/
theorem AR.jV {B : Nat} {cB : List Value} (hl : ax_look i pc = some (.invokevirtual ix, w, v, ws)) (hs : ax_site (ax_mm i) (ax_mm a) ix b) (hh : ax_has a = true) (hi : ax_st a = false) (hnil : (ax_mm a).2.2.2.2 = []) (hse : Cond.selects RJ4 (ax_mm a).1 (ax_mm a).1 ∈ ax_tb) (hB : B < 1000000000) (h5 : h[B]? = some (10, cB)) (hst : st = as.reverse ++ .ref B :: rest) (hb : as.length = b) (hcat : (rest.map fun v => v.category).sum ≤ 8) (hM : AM ax_ns l (ax_mm a) dy ty_R mc ms (.ref B :: as) h Q) (hdy : dy + 1 ≤ d) (hmc : mc ≤ bc) (hms : ms ≤ bs') (hno : ∀ E h', ¬ Q (.inr E) h')
    (k : ∀ x h', Q (.inl x) h' → AR ax_ns l (ax_mm i) d ty_R P X (pc + 3) lv (x.toList ++ rest) h' (bc - mc) (bs' - ms)) : AR ax_ns l (ax_mm i) d ty_R P X pc lv st h bc bs' :=
  AR.invokevirtual (q := hs_c10) hnil (ax_look_ok hl).1 hs ((ax_mst hh).2 hi) hse (show ax_cls[10]? = some hs_c10 from rfl) (hb_get hB h5) hst hb hM hdy hmc hms hcat k (fun E h' q => absurd q (hno E h'))
theorem AR.jU {B : Nat} {cB : List Value} (hl : ax_look i pc = some (.invokespecial ix, (a, b, 3), v, ws)) (hh : ax_has a = true) (hi : ax_st a = false) (hnil : (ax_mm a).2.2.2.2 = []) (hB : B < 1000000000) (h5 : h[B]? = some (10, cB)) (hst : st = as.reverse ++ .ref B :: rest) (hb : as.length = b) (hcat : (rest.map fun v => v.category).sum ≤ 8) (hM : AM ax_ns l (ax_mm a) dy ty_R mc ms (.ref B :: as) h Q) (hdy : dy + 1 ≤ d) (hmc : mc ≤ bc) (hms : ms ≤ bs') (hno : ∀ E h', ¬ Q (.inr E) h')
    (k : ∀ x h', Q (.inl x) h' → AR ax_ns l (ax_mm i) d ty_R P X (pc + 3) lv (x.toList ++ rest) h' (bc - mc) (bs' - ms)) : AR ax_ns l (ax_mm i) d ty_R P X pc lv st h bc bs' := by
  obtain ⟨d1, d2, d3⟩ := hy_drop (rest := rest) (.ref B) hb
  refine AR.call hl (as := .ref B :: as) (rest := rest) ?_ hM hdy hmc hms k (fun E h' q => absurd q (hno E h'))
  subst hst
  have hc : ax_has a = true ∧ ax_st a = false ∧ (ax_mm a).2.2.2.2 = [] ∧ b ≤ (as.reverse ++ .ref B :: rest).length ∧ (rest.map fun v => v.category).sum ≤ 8 ∧ 10 < 12 := ⟨hh, hi, hnil, d3, hcat, by decide⟩
  have hg := hb_get hB h5
  simp only [ax_arg, d1, hg, d2, if_true]
  rw [if_pos hc]
/-- constructors -/
theorem AR.jI {B c t : Nat} {cB : List Value} (hl : ax_look i pc = some (.invokespecial ix, (a, b, c), v, ws)) (hc1 : c ≤ 1) (hh : ax_has a = true) (hi : ax_st a = false) (hnil : (ax_mm a).2.2.2.2 = []) (hn : (ax_mm a).1.name = "<init>" ∧ (ax_mm a).2.2.2.1 = none) (hst : st = as.reverse ++ .ref B :: rest) (hb : as.length = b) (hcat : (rest.map fun v => v.category).sum ≤ 8) (hM : AM ax_ns l (ax_mm a) dy ty_R mc ms (.ref B :: as) h Q) (hdy : dy + 1 ≤ d) (hmc : mc ≤ bc) (hms : ms ≤ bs') (hno : ∀ E h', ¬ Q (.inr E) h')
    (k : ∀ x h', Q (.inl x) h' → AR ax_ns l (ax_mm i) d ty_R P X (pc + 3) lv (x.toList ++ rest) h' (bc - mc) (bs' - ms)) : AR ax_ns l (ax_mm i) d ty_R P X pc lv st h bc bs' := by
  obtain ⟨d1, d2, d3⟩ := hy_drop (rest := rest) (.ref B) hb
  refine AR.call hl (as := .ref B :: as) (rest := rest) ?_ hM hdy hmc hms k (fun E h' q => absurd q (hno E h'))
  subst hst
  have hc : ax_has a = true ∧ ax_st a = false ∧ (ax_mm a).2.2.2.2 = [] ∧ b ≤ (as.reverse ++ .ref B :: rest).length ∧ (rest.map fun v => v.category).sum ≤ 8 ∧ (ax_mm a).1.name = "<init>" ∧ (ax_mm a).2.2.2.1 = none ∧ c ≤ 1 := ⟨hh, hi, hnil, d3, hcat, hn.1, hn.2, hc1⟩
  have hc3 : ¬ c = 3 := by omega
  simp only [ax_arg, d1, d2, if_neg hc3]
  rw [if_pos hc]
/-- calls on a String -/
theorem AR.jS {ts : List Int32} {c9 : Nat} (hl : ax_look i pc = some (.invokevirtual ix, w, v, ws)) (hs : ax_site (ax_mm i) (ax_mm b) ix c9) (hh : ax_has b = true) (hi : ax_st b = false) (hnil : (ax_mm b).2.2.2.2 = []) (hse : Cond.selects "java/lang/String" (ax_mm b).1 (ax_mm b).1 ∈ ax_tb) (S : sT h a ts) (hst : st = as.reverse ++ .ref a :: rest) (hb : as.length = c9) (hcat : (rest.map fun v => v.category).sum ≤ 8) (hM : AM ax_ns l (ax_mm b) dy ty_R mc ms (.ref a :: as) h Q) (hdy : dy + 1 ≤ d) (hmc : mc ≤ bc) (hms : ms ≤ bs') (hno : ∀ E h', ¬ Q (.inr E) h')
    (k : ∀ x h', Q (.inl x) h' → AR ax_ns l (ax_mm i) d ty_R P X (pc + 3) lv (x.toList ++ rest) h' (bc - mc) (bs' - ms)) : AR ax_ns l (ax_mm i) d ty_R P X pc lv st h bc bs' := by
  obtain ⟨S1, S2, ⟨t, y, z, q1, q2, q3, q4⟩ | ⟨q, q1, e, q3⟩⟩ := S
  · exact AR.invokevirtual (q := hs_c11) hnil (ax_look_ok hl).1 hs ((ax_mst hh).2 hi) hse (show ax_cls[11]? = some hs_c11 from rfl) (hb_get q1 q2) hst hb hM hdy hmc hms hcat k (fun E h' q => absurd q (hno E h'))
  · subst e
    exact AR.invokestr hnil (ax_look_ok hl).1 hs ((ax_mst hh).2 hi) hse (by have := sl_lt q q1; omega) (fun b o U hJ => (hJ.1 q q1).1.1) hst hb hM hdy hmc hms hcat k (fun E h' q => absurd q (hno E h'))
/-- a call of a method that the class of the builder overrides -/
theorem AR.jO {B : Nat} {cB : List Value} {x9 : MethodName} {b0 : ByteArray} {m0 : Nat} {r0 : Option FieldType} {c9 : Nat} (hl : ax_look i pc = some (.invokevirtual ix, w, v, ws)) (hlk : Cond.methodLink (ax_mm i).1.cls ix x9 ∈ ax_tb) (hsm : Cond.sameMethod x9.cls x9.cls x9.name x9.desc ∈ ax_tb) (hix : Cond.instanceMethod x9 ∈ ax_tb) (h0 : Cond.code x9 b0 m0 r0 ∈ ax_tb) (hse : Cond.selects RJ4 x9 (ax_mm a).1 ∈ ax_tb) (hh : ax_has a = true) (hi : ax_st a = false) (hnil : (ax_mm a).2.2.2.2 = []) (hx9 : x9.cls ≠ "java/lang/invoke/MethodHandle" ∧ x9.cls ≠ "java/lang/invoke/VarHandle" ∧ (parseMethodDescriptor x9.desc).map (fun d => d.parameters.length) = some c9)
    (hB : B < 1000000000) (h5 : h[B]? = some (10, cB)) (hst : st = as.reverse ++ .ref B :: rest) (hb : as.length = c9) (hcat : (rest.map fun v => v.category).sum ≤ 8) (hM : AM ax_ns l (ax_mm a) dy ty_R mc ms (.ref B :: as) h Q) (hdy : dy + 1 ≤ d) (hmc : mc ≤ bc) (hms : ms ≤ bs') (hno : ∀ E h', ¬ Q (.inr E) h')
    (k : ∀ x h', Q (.inl x) h' → AR ax_ns l (ax_mm i) d ty_R P X (pc + 3) lv (x.toList ++ rest) h' (bc - mc) (bs' - ms)) : AR ax_ns l (ax_mm i) d ty_R P X pc lv st h bc bs' := by
  obtain ⟨f1, f2, -, -, -, f6, -⟩ := ax_mfacts hh
  intro D b o TC TS p e R s m args below meth c Z hX hP hXX lvc ls stc H locs cells slots hG T hT X9
  subst hst
  obtain ⟨g1, g2, g3, g4, g5, g6, g7⟩ := hG
  obtain ⟨v1, v2, rfl, hv1, w0, t0, rfl, hw0, hv2⟩ := ax_vs_split g3
  cases hw0
  have ha := ax_vs_rev hv1
  rw [List.reverse_reverse] at ha
  have ha2 : ax_vs b o (.ref B :: as) (.ref (ax_ad b o B) :: v1.reverse) := ⟨_, _, rfl, rfl, ha⟩
  obtain ⟨-, -, -, -, hts, -, hfr, hlo, hTC, hTS, -⟩ := id hX
  have hgood : GoodIn ax_tb (va_wsO (ax_mm i).1.cls ix RJ4 x9.cls x9 (ax_mm a).1 (ax_ws (ax_mm a))) := by
    intro z hz
    simp only [va_wsO, List.mem_append, List.mem_cons, List.not_mem_nil, or_false] at hz
    rcases hz with (rfl | rfl | rfl | rfl | rfl | rfl) | hz
    · exact ax_good _ hlk
    · exact ax_good _ hsm
    · exact ax_good _ hix
    · exact ax_good _ hse
    · exact ax_good _ ((ax_mst hh).2 hi)
    · exact ax_good _ f2
    · exact ax_ws_good f1 z hz
  exact ax_behind (vx_runU (ax_fix hX) (hM D b o) (va_cwO (own := (ax_mm i).1.cls) (C := RJ4) (owner := x9.cls) (x := x9) (y := (ax_mm a).1) (ws' := ax_tb) (rm := ax_rm dy mc ms) c9 hts hgood (by rw [ax_ws, ax_hd_nil hnil]) rfl rfl h0 hx9 ⟨by show dy + 6 + 1 ≤ R.frames; omega, ax_loc f6 hdy hlo⟩) ⟨ax_blind, ax_recv hX g4 g5 (show ax_cls[10]? = some hs_c10 from rfl) (hb_get hB h5), ax_pcs hX X9 hT g4 g5 g6 hmc ha2⟩ rfl ((ax_vs_len ha).trans hb) (g1.1) (by rw [List.reverse_reverse]) (lv_room (by rw [ax_vs_cat hv2]; exact hcat)) (ax_look_ok hl).1 ⟨by omega, by omega⟩) g1 g2 hv2 g5 g6 g7 hmc hms (fun v h' hq => k v h' hq D b o TC TS p e R s m args below meth c Z hX hP hXX) (fun E h' hq => absurd hq (hno E h')) T hT X9
/-- new objects -/
theorem AR.nwB (hl : ax_look i pc = some (.new ix, w, v, ws)) (hw1 : Cond.classLink (ax_mm i).1.cls ix RJ4 ∈ ax_tb) (hw2 : Cond.instantiable RJ4 4 ∈ ax_tb) (hw3 : Cond.initialized RJ4 ∈ ax_tb) (h1 : 1 ≤ bc) (h2 : 4 ≤ bs') (K : AR ax_ns l (ax_mm i) d ty_R P X (pc + 3) lv (.ref h.length :: st) (h ++ [(10, [.null, .int 0, .int 0, .int 0])]) (bc - 1) (bs' - 4)) : AR ax_ns l (ax_mm i) d ty_R P X pc lv st h bc bs' :=
  AR.new (q := hs_c10) (ax_look_ok hl).1 (show ax_cls[10]? = some hs_c10 from rfl) hw1 hw2 hw3 h1 h2 K
theorem AR.nwS (hl : ax_look i pc = some (.new ix, w, v, ws)) (hw1 : Cond.classLink (ax_mm i).1.cls ix RJ0 ∈ ax_tb) (hw2 : Cond.instantiable RJ0 4 ∈ ax_tb) (hw3 : Cond.initialized RJ0 ∈ ax_tb) (h1 : 1 ≤ bc) (h2 : 4 ≤ bs') (K : AR ax_ns l (ax_mm i) d ty_R P X (pc + 3) lv (.ref h.length :: st) (h ++ [(11, [.null, .int 0, .int 0, .int 0])]) (bc - 1) (bs' - 4)) : AR ax_ns l (ax_mm i) d ty_R P X pc lv st h bc bs' :=
  AR.new (q := hs_c11) (ax_look_ok hl).1 (show ax_cls[11]? = some hs_c11 from rfl) hw1 hw2 hw3 h1 h2 K
theorem sA.S {ts : List Int32} (S : sA h a ts) : sS h a (sI ts) := by
  obtain ⟨S1, S2, ⟨q1, q2⟩ | ⟨q, q1, q2, q3⟩⟩ := S
  · exact Or.inl ⟨[], q1, by rw [List.append_nil]; exact q2⟩
  · exact Or.inr ⟨q, q1, q2, by rw [q3]⟩
/-- a byte cut out of an int -/
theorem AR.i2bX {x : Int32} (hl : ax_look i pc = some (.i2b, w, v, ws)) (h1 : -128 ≤ x.toInt) (h2 : x.toInt ≤ 127) (k : AR ax_ns l (ax_mm i) d ty_R P X (pc + 1) lv (.int x :: st) h bc bs') : AR ax_ns l (ax_mm i) d ty_R P X pc lv (.int x :: st) h bc bs' := by
  refine AR.s (pc' := pc + 1) (lv' := lv) (st' := .int x.toInt8.toInt32 :: st) (h' := h) _ rfl hl rfl ?_
  rw [show x.toInt8.toInt32 = x from Int32.toInt_inj.mp (by
    rw [Int8.toInt_toInt32, Int32.toInt_toInt8]
    exact Int.bmod_eq_of_le (by omega) (by omega))]
  exact k
/-- a letter of few values, as a char -/
theorem AR.i2cX {x : Int32} (hl : ax_look i pc = some (.i2c, w, v, ws)) (h1 : 0 ≤ x.toInt) (h2 : x.toInt ≤ 127) (k : AR ax_ns l (ax_mm i) d ty_R P X (pc + 1) lv (.int x :: st) h bc bs') : AR ax_ns l (ax_mm i) d ty_R P X pc lv (.int x :: st) h bc bs' := by
  refine AR.s (pc' := pc + 1) (lv' := lv) (st' := .int (x.toUInt32 % 65536).toInt32 :: st) (h' := h) _ rfl hl rfl ?_
  obtain ⟨n, hn, rfl⟩ : ∃ n : Nat, n < 128 ∧ x = Int32.ofNat n := ⟨x.toInt.toNat, by omega, Int32.toInt_inj.mp (by rw [Int32.toInt_ofNat_of_lt (by omega)]; omega)⟩
  have e : ∀ n, n < 128 → ((Int32.ofNat n).toUInt32 % 65536).toInt32 = Int32.ofNat n := by decide +kernel
  rw [e n hn]
  exact k
end HSB
