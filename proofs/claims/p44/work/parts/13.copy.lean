/-! System.arraycopy, all of an array -/
theorem ax_acw : Cond.native arraycopyName ∈ ax_tb ∧ Cond.static arraycopyName ∈ ax_tb ∧ Cond.initialized "java/lang/System" ∈ ax_tb := ⟨ax_wk_mem (ix := 4068) (by decide +kernel), ax_wk_mem (ix := 4067) (by decide +kernel), ax_wk_mem (ix := 1017) (by decide +kernel)⟩
section AXY
variable {ns : ax_NS} {l : Launch} {k : ax_M} {d : Nat} {r : ax_H} {P : ax_P} {X : ax_PX} {pc : Nat} {lv : List (Nat × Value)} {st : List Value} {h : ax_H} {bc bs : Nat}
/-- all of an array into another of its length -/
theorem AR.arraycopy {t i a0 a : Nat} {ty : FieldType} {vs us : List Value} {n : Int32} (hd : decode k.2.1 pc = .ok (.invokestatic i, 3)) (hw : Cond.methodLink k.1.cls i arraycopyName ∈ ax_tb) (ht : ax_tys[t]? = some ty) (hprim : refKind ty = false) (hg0 : ax_get r h a0 = some (100 + t, vs)) (ha : a < 1000000000) (hg1 : h[a]? = some (100 + t, us)) (hn : ¬ n < 0) (h1 : n.toNatClampNeg = vs.length) (h2 : us.length = vs.length) (hf : ∀ x ∈ vs, ax_fit ty x = true) (hcat : (st.map fun v => v.category).sum ≤ 100) (K : AR ns l k d r P X (pc + 3) lv st (h.set a (100 + t, vs)) bc bs) : AR ns l k d r P X pc lv (.int n :: .int 0 :: .ref a :: .int 0 :: .ref a0 :: st) h bc bs := by
  intro D b o TC TS p e R s m args below meth c Z hX hP hXX lvc ls stc H locs cells slots hG T hT9 X9
  obtain ⟨hx, hb, hml, hown, hts, hT, hfr, hlo, -⟩ := id hX
  obtain ⟨g1, g2, g3, g4, g5, g6, g7⟩ := hG
  obtain ⟨v1, t1, rfl, hv1, hs1⟩ := g3
  obtain ⟨v2, t2, rfl, hv2, hs2⟩ := hs1
  obtain ⟨v3, t3, rfl, hv3, hs3⟩ := hs2
  obtain ⟨v4, t4, rfl, hv4, hs4⟩ := hs3
  obtain ⟨v5, t5, rfl, hv5, hs5⟩ := hs4
  cases hv1; cases hv2; cases hv3; cases hv4; cases hv5
  rw [ax_ad_lt ha]
  obtain ⟨cs, e0, ⟨s1, ks, hks, sComp, hsk⟩, s2, s3, s4, s5⟩ := ax_gota hT g4 g5 ht hg0
  obtain ⟨cd, f0, f1⟩ := g4.2.1 a _ hg1
  obtain ⟨⟨d1, kd, hkd, dComp, hdk⟩, d2, d3, d4, d5⟩ := ax_arr hT ht f1
  have nn : n.toInt = (n.toNatClampNeg : Int) := by
    have hz0 : (0 : Int) ≤ n.toInt := by
      have := Int32.not_lt.mp hn
      simpa using Int32.le_iff_toInt_le.mp this
    show n.toInt = ((n.toInt.toNat : Nat) : Int)
    omega
  have z0 : (0 : Int32).toNatClampNeg = 0 := by decide
  have zi : (0 : Int32).toInt = 0 := by decide
  have hel : ∀ i, i < vs.length → ∃ v, cs.slots[i]? = some v ∧ ax_v b o (vs.getD i .null) v := fun i hi => by
    obtain ⟨v, q1, q2⟩ := s5 i _ (List.getElem?_eq_getElem hi)
    exact ⟨v, q1, by rw [List.getD_eq_getElem?_getD, List.getElem?_eq_getElem hi]; exact q2⟩
  have hnl : nativeFrameWords "java/lang/System" "arraycopy" 5 + 11 ≤ 20 := by decide
  obtain ⟨vm', X', step⟩ := X9.arraycopy hx hown (hts _ hw) (hts _ ax_acw.1) (hts _ ax_acw.2.1) (hts _ ax_acw.2.2) (src := ax_ad b o a0) (dst := b + ax_of o a) (cs := cs) (cd := cd) (srcPos := 0) (destPos := 0) (n := n) (by rw [hT9]; exact e0) (by rw [hT9]; exact f0) s1 d1 s2 (by rw [d2]; exact fun q => by cases q) hks hkd hsk hdk (by simp [hprim]) (by decide) (by decide) hn (by rw [zi, nn]; omega) (by rw [zi, nn]; omega)
    (fun vm₁ _ i hi => by
      rw [h1] at hi
      obtain ⟨v, q1, q2⟩ := hel i hi
      have e : cs.slots.getD ((0 : Int32).toNatClampNeg + i) .null = v := by rw [z0, Nat.zero_add, Array.getD_eq_getD_getElem?, q1]; rfl
      have hm : vs.getD i .null ∈ vs := by
        rw [List.getD_eq_getElem?_getD, List.getElem?_eq_getElem hi]
        exact List.getElem_mem hi
      have hfi := (ax_fit_spec (hf _ hm) q2).2
      refine ⟨by rw [e]; exact hfi, ?_⟩
      rw [e]
      cases v <;> first | trivial | (cases ty <;> simp [fits, refKind] at hfi hprim))
    (g := F0 m pc ls (.int n :: .int 0 :: .ref (b + ax_of o a) :: .int 0 :: .ref (ax_ad b o a0) :: t5)) rfl (g1.1.trans hml.symm) (rest := t5) rfl (by rw [hb]; exact hd) (by omega) (by show 2 * 0 + _ + _ ≤ _; rw [ax_vs_cat hs5]; omega)
  have hl : b + ax_of o a < H.size := (Array.getElem?_eq_some_iff.mp f0).1
  obtain ⟨c1, c2, c3, -⟩ : (copied cs cd 0 0 n).cls = cd.cls ∧ (copied cs cd 0 0 n).vm = cd.vm ∧ (copied cs cd 0 0 n).slots.size = cd.slots.size ∧ True := by
    obtain ⟨c1, c2, c3, -⟩ := Cell.storeRun_facts cd (0 : Int32).toNatClampNeg (cs.stretch (0 : Int32).toNatClampNeg n.toNatClampNeg)
    exact ⟨c1, c2, c3, trivial⟩
  have hlen : (cs.stretch 0 n.toNatClampNeg).length = vs.length := by simp [Cell.stretch, h1]
  have hslots : ∀ (j : Nat) (x : Value), vs[j]? = some x → ∃ v, (copied cs cd 0 0 n).slots[j]? = some v ∧ ax_v b o x v := by
    intro j x hj
    have hjl := (List.getElem?_eq_some_iff.mp hj).1
    obtain ⟨v, q1, q2⟩ := s5 j x hj
    refine ⟨v, ?_, q2⟩
    show (cd.storePairs _ ((cs.stretch _ _).zipIdx)).slots[j]? = _
    rw [z0]
    have := Cell.storePairs_get cd 0 (cs.stretch 0 n.toNatClampNeg) 0 j (by rw [hlen]; omega)
    rw [this, if_pos ⟨by omega, by rw [hlen]; omega⟩]
    simp only [Cell.stretch, Nat.zero_add, Nat.sub_zero, List.getElem?_map]
    rw [List.getElem?_range (by omega)]
    simp [Array.getD_eq_getD_getElem?, q1]
  generalize copied cs cd 0 0 n = cN at X' step hslots c1 c2 c3
  have hheap : ((T.setVm vm').setCell (b + ax_of o a) cN).heap = H.setIfInBounds (b + ax_of o a) cN := by rw [← hT9]; rfl
  have oq : ∀ q : Nat, q ≠ b + ax_of o a → (H.setIfInBounds (b + ax_of o a) cN)[q]? = H[q]? := fun q hq => by simp [Array.getElem?_setIfInBounds, Ne.symm hq]
  have hR1 : ax_R D b o (h.set a (100 + t, vs)) (H.setIfInBounds (b + ax_of o a) cN) := by
    refine g4.set (cell := cN) (by simp [Array.getElem?_setIfInBounds, hl]) (by simp) oq (Or.inr ⟨c2.trans d2, c1.trans d4, fun _ => by rw [c3, d3]; exact h2, fun j x hj => ?_⟩)
    rw [(hT.2.1 t _ ht).2.2]
    exact hslots j x hj
  obtain ⟨t', a1, b1⟩ := K D b o TC TS p e R s m args below meth c Z hX hP hXX lvc ls t5 (H.setIfInBounds (b + ax_of o a) cN) (locs ++ (cs.stretch (0 : Int32).toNatClampNeg n.toNatClampNeg).zipIdx.map fun q => ⟨b + ax_of o a, (0 : Int32).toNatClampNeg + q.2⟩) cells slots ⟨g1, g2, hs5, hR1, ⟨by simp; exact g5.1, fun q q1 q2 => by rw [oq q (fun e => q2 (by rw [e]; exact g4.rg hg1))]; exact g5.2.1 q q1 q2, fun q hq => by
      rcases List.mem_append.mp hq with h | h
      · exact g5.2.2 q h
      · obtain ⟨z, -, hz⟩ := List.mem_map.mp h
        rw [← hz]
        exact g4.rg hg1⟩, g6, g7⟩ _ hheap X'
  exact ⟨t', step t' a1, b1⟩
end AXY
