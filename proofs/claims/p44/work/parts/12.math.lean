/-! Math -/
section AXS
variable {ns : ax_NS} {l : Launch} {k : ax_M} {d : Nat} {r : ax_H} {P : ax_P} {X : ax_PX} {pc : Nat} {lv : List (Nat × Value)} {st : List Value} {h : ax_H} {bc bs : Nat}
theorem AR.mminL {i : Nat} {x y z : Value} (hd : decode k.2.1 pc = .ok (.invokestatic i, 3)) (hw : Cond.methodLink k.1.cls i Lib.MathLoose.min_long.x ∈ ax_tb) (hz : ax_l2 (fun i j => if j < i then j else i) x y = some z) (hc : (st.map fun v => v.category).sum ≤ 100) (K : AR ns l k d r P X (pc + 3) lv (z :: st) h bc bs) : AR ns l k d r P X pc lv (y :: x :: st) h bc bs := by
  intro D b o TC TS p e R s m args below meth c Z hX hP hXX lvc ls stc H locs cells slots hG
  have hx := hX.1
  have hb := hX.2.1
  obtain ⟨g1, g2, g3, g4, g5, g6, g7⟩ := hG
  obtain ⟨-, -, hml, hown, hts, hT, hfr, hlo, hTC, hTS, -⟩ := id hX
  obtain ⟨v2, t2, rfl, hv2, hs2⟩ := g3
  obtain ⟨v1, t1, rfl, hv1, hs1⟩ := hs2
  obtain ⟨i, j, rfl, rfl, hv⟩ := ax_l2_spec hz hv1 hv2
  refine va_mmin_long hx hb (hml.trans g1.1.symm) hown (hts _ hw) (hts _ ax_math.2.1) (hts _ ax_math.1) (hts _ ax_mathc.1) (by omega) (by rw [ax_vs_cat hs1]; omega) (by omega) (by omega) hd ?_
  exact K D b o TC TS p e R s m args below meth c Z hX hP hXX _ _ _ _ _ _ _ ⟨g1, g2, ⟨_, _, rfl, hv, hs1⟩, g4, g5, g6, g7⟩
theorem AR.mmaxL {i : Nat} {x y z : Value} (hd : decode k.2.1 pc = .ok (.invokestatic i, 3)) (hw : Cond.methodLink k.1.cls i Lib.MathLoose.max_long.x ∈ ax_tb) (hz : ax_l2 (fun i j => if j < i then i else j) x y = some z) (hc : (st.map fun v => v.category).sum ≤ 100) (K : AR ns l k d r P X (pc + 3) lv (z :: st) h bc bs) : AR ns l k d r P X pc lv (y :: x :: st) h bc bs := by
  intro D b o TC TS p e R s m args below meth c Z hX hP hXX lvc ls stc H locs cells slots hG
  have hx := hX.1
  have hb := hX.2.1
  obtain ⟨g1, g2, g3, g4, g5, g6, g7⟩ := hG
  obtain ⟨-, -, hml, hown, hts, hT, hfr, hlo, hTC, hTS, -⟩ := id hX
  obtain ⟨v2, t2, rfl, hv2, hs2⟩ := g3
  obtain ⟨v1, t1, rfl, hv1, hs1⟩ := hs2
  obtain ⟨i, j, rfl, rfl, hv⟩ := ax_l2_spec hz hv1 hv2
  refine va_mmax_long hx hb (hml.trans g1.1.symm) hown (hts _ hw) (hts _ ax_math.2.2.1) (hts _ ax_math.1) (hts _ ax_mathc.2.1) (by omega) (by rw [ax_vs_cat hs1]; omega) (by omega) (by omega) hd ?_
  exact K D b o TC TS p e R s m args below meth c Z hX hP hXX _ _ _ _ _ _ _ ⟨g1, g2, ⟨_, _, rfl, hv, hs1⟩, g4, g5, g6, g7⟩
theorem AR.mmaxI {i : Nat} {x y z : Value} (hd : decode k.2.1 pc = .ok (.invokestatic i, 3)) (hw : Cond.methodLink k.1.cls i Lib.Math.max.name ∈ ax_tb) (hz : ax_b2 (fun i j => if i < j then j else i) x y = some z) (hc : (st.map fun v => v.category).sum ≤ 100) (K : AR ns l k d r P X (pc + 3) lv (z :: st) h bc bs) : AR ns l k d r P X pc lv (y :: x :: st) h bc bs := by
  intro D b o TC TS p e R s m args below meth c Z hX hP hXX lvc ls stc H locs cells slots hG
  have hx := hX.1
  have hb := hX.2.1
  obtain ⟨g1, g2, g3, g4, g5, g6, g7⟩ := hG
  obtain ⟨-, -, hml, hown, hts, hT, hfr, hlo, hTC, hTS, -⟩ := id hX
  obtain ⟨v2, t2, rfl, hv2, hs2⟩ := g3
  obtain ⟨v1, t1, rfl, hv1, hs1⟩ := hs2
  obtain ⟨i, j, rfl, rfl, hv⟩ := ax_b2_spec hz hv1 hv2
  refine va_mmax hx hb (hml.trans g1.1.symm) hown (hts _ hw) (hts _ ax_math.2.2.2) (hts _ ax_math.1) (hts _ ax_mathc.2.2) (by omega) (by rw [ax_vs_cat hs1]; omega) (by omega) (by omega) hd ?_
  exact K D b o TC TS p e R s m args below meth c Z hX hP hXX _ _ _ _ _ _ _ ⟨g1, g2, ⟨_, _, rfl, hv, hs1⟩, g4, g5, g6, g7⟩
end AXS
