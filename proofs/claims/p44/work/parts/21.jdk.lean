/-! BY HAND, 8: rules for the JDK's own code -/
section HJ
variable {ns : ax_NS} {l : Launch} {k y : ax_M} {d dy : Nat} {r : ax_H} {P : ax_P} {X : ax_PX} {pc : Nat} {lv : List (Nat × Value)} {st stk as : List Value} {h : ax_H} {bc bs mc ms : Nat} {Q : ax_Q}
theorem AR.dup_x1 {x z : Value} (hd : decode k.2.1 pc = .ok (.dup_x1, 1)) (hx : x.category = 1) (hz : z.category = 1) (K : AR ns l k d r P X (pc + 1) lv (x :: z :: x :: st) h bc bs) : AR ns l k d r P X pc lv (x :: z :: st) h bc bs := by
  intro D b o TC TS p e R s m args below meth c Z hX hP hXX lvc ls stc H locs cells slots hG
  have hx' := hX.1
  have hb := hX.2.1
  obtain ⟨g1, g2, g3, g4, g5, g6, g7⟩ := hG
  obtain ⟨v1, t1, rfl, hv1, hs1⟩ := g3
  obtain ⟨v2, t2, rfl, hv2, hs2⟩ := hs1
  exact lv_dup_x1 hx' hb hd (by rw [ax_v_cat hv1]; exact hx) (by rw [ax_v_cat hv2]; exact hz) (K D b o TC TS p e R s m args below meth c Z hX hP hXX _ _ _ _ _ _ _ ⟨g1, g2, ⟨_, _, rfl, hv1, _, _, rfl, hv2, _, _, rfl, hv1, hs2⟩, g4, g5, g6, g7⟩)
theorem AR.ifnonnull {a : Nat} {off : Int} {tgt : Nat} (hd : decode k.2.1 pc = .ok (.ifnonnull off, 3)) (ht : (pc : Int) + off = (tgt : Int)) (K : AR ns l k d r P X tgt lv st h bc bs) : AR ns l k d r P X pc lv (.ref a :: st) h bc bs := by
  intro D b o TC TS p e R s m args below meth c Z hX hP hXX lvc ls stc H locs cells slots hG
  have hx := hX.1
  have hb := hX.2.1
  obtain ⟨g1, g2, g3, g4, g5, g6, g7⟩ := hG
  obtain ⟨v1, t1, rfl, hv1, hs1⟩ := g3
  cases hv1
  exact lv_ifnonnull hx hb hd ht (K D b o TC TS p e R s m args below meth c Z hX hP hXX _ _ _ _ _ _ _ ⟨g1, g2, hs1, g4, g5, g6, g7⟩)
theorem ax_ad_j {b : Nat} {o : Nat → Nat} {j : Nat} (hj : j < 1000) : ax_ad b o (1000000000 + j) = o j := by
  unfold ax_ad
  rw [if_neg (by omega), Nat.add_sub_cancel_left, Nat.mod_eq_of_lt hj]
theorem AR.ldcS {i j : Nat} {tx : String} (hd : decode k.2.1 pc = .ok (.ldc i, 2)) (hj : j < 1000) (hZ : ∀ (b : Nat) (o : Nat → Nat) (U : State), ax_J b o U → vk_R k.1.cls i tx (o j) U) (K : AR ns l k d r P X (pc + 2) lv (.ref (1000000000 + j) :: st) h bc bs) : AR ns l k d r P X pc lv st h bc bs := by
  intro D b o TC TS p e R s m args below meth c Z hX hP hXX lvc ls stc H locs cells slots hG
  have hx := hX.1
  have hb := hX.2.1
  obtain ⟨g1, g2, g3, g4, g5, g6, g7⟩ := hG
  obtain ⟨-, -, -, hown, hts, hT, -⟩ := id hX
  obtain ⟨-, -, -, -, -, -, -, -, -, -, hJ⟩ := hT
  exact va_ldcS hx hb hown (hZ b o s hJ) hd (K D b o TC TS p e R s m args below meth c Z hX hP hXX _ _ _ _ _ _ _ ⟨g1, g2, ⟨_, _, rfl, by rw [ax_v, ax_ad_j hj], g3⟩, g4, g5, g6, g7⟩)
/-- a field of an object from before -/
theorem AR.strG {i j : Nat} {C nm ds : String} {x : Value} (hd : decode k.2.1 pc = .ok (.getfield i, 3)) (hj : j < 1000) (hw : Cond.fieldLink k.1.cls i C nm ds ∈ ax_tb) (hE : ∀ (b : Nat) (o : Nat → Nat) (U : State), ax_J b o U → ∃ v, ax_v b o x v ∧ va_OF C nm ds v (o j) (fun q => b ≤ q) U U.heap) (K : AR ns l k d r P X (pc + 3) lv (x :: st) h bc bs) : AR ns l k d r P X pc lv (.ref (1000000000 + j) :: st) h bc bs := by
  intro D b o TC TS p e R s m args below meth c Z hX hP hXX lvc ls stc H locs cells slots hG
  have hx := hX.1
  have hb := hX.2.1
  obtain ⟨g1, g2, g3, g4, g5, g6, g7⟩ := hG
  obtain ⟨-, -, -, hown, hts, hT, -⟩ := id hX
  obtain ⟨-, -, -, -, -, -, -, -, -, -, hJ⟩ := hT
  obtain ⟨v1, t1, rfl, hv1, hs1⟩ := g3
  cases hv1
  obtain ⟨v, hv, hF⟩ := hE b o s hJ
  rw [ax_ad_j hj]
  exact vk_getf hx hb (hF.narrow (fun q z => z.1)) g5 hown (hts _ hw) (fun _ h => h) hd (K D b o TC TS p e R s m args below meth c Z hX hP hXX _ _ _ _ _ _ _ ⟨g1, g2, ⟨_, _, rfl, hv, hs1⟩, g4, g5, g6, g7⟩)
theorem AR.strL {j n : Nat} {f : Nat → Value} (hd : decode k.2.1 pc = .ok (.arraylength, 1)) (hj : j < 1000) (hE : ∀ (b : Nat) (o : Nat → Nat) (U : State), ax_J b o U → va_T .byte (o j) n f (fun q => b ≤ q) U U.heap) (K : AR ns l k d r P X (pc + 1) lv (.int (Int32.ofNat n) :: st) h bc bs) : AR ns l k d r P X pc lv (.ref (1000000000 + j) :: st) h bc bs := by
  intro D b o TC TS p e R s m args below meth c Z hX hP hXX lvc ls stc H locs cells slots hG
  have hx := hX.1
  have hb := hX.2.1
  obtain ⟨g1, g2, g3, g4, g5, g6, g7⟩ := hG
  obtain ⟨-, -, -, hown, hts, hT, -⟩ := id hX
  obtain ⟨-, -, -, -, -, -, -, -, -, -, hJ⟩ := hT
  obtain ⟨v1, t1, rfl, hv1, hs1⟩ := g3
  cases hv1
  rw [ax_ad_j hj]
  exact va_tlen hx hb ((hE b o s hJ).narrow (fun q z => z.1)) g5 rfl hd (K D b o TC TS p e R s m args below meth c Z hX hP hXX _ _ _ _ _ _ _ ⟨g1, g2, ⟨_, _, rfl, rfl, hs1⟩, g4, g5, g6, g7⟩)
theorem AR.gets {i : Nat} {C nm ds : String} {x : Value} (hd : decode k.2.1 pc = .ok (.getstatic i, 3)) (hw : Cond.fieldLink k.1.cls i C nm ds ∈ ax_tb) (hE : ∀ (b : Nat) (o : Nat → Nat) (U : State), ax_J b o U → ∃ v, ax_v b o x v ∧ va_Z C nm ds v (fun q => b ≤ q) U U.heap) (K : AR ns l k d r P X (pc + 3) lv (x :: st) h bc bs) : AR ns l k d r P X pc lv st h bc bs := by
  intro D b o TC TS p e R s m args below meth c Z hX hP hXX lvc ls stc H locs cells slots hG
  have hx := hX.1
  have hb := hX.2.1
  obtain ⟨g1, g2, g3, g4, g5, g6, g7⟩ := hG
  obtain ⟨-, -, -, hown, hts, hT, -⟩ := id hX
  obtain ⟨-, -, -, -, -, -, -, -, -, -, hJ⟩ := hT
  obtain ⟨v, hv, hF⟩ := hE b o s hJ
  exact va_gets hx hb (hF.narrow (fun q z => z.1)) g5 hown (hts _ hw) (fun _ h => h) hd (K D b o TC TS p e R s m args below meth c Z hX hP hXX _ _ _ _ _ _ _ ⟨g1, g2, ⟨_, _, rfl, hv, g3⟩, g4, g5, g6, g7⟩)
/-- the static of Preconditions: null or a reference -/
theorem AR.getq {i : Nat} (hd : decode k.2.1 pc = .ok (.getstatic i, 3)) (hw : Cond.fieldLink k.1.cls i ax_jn "SIOOBE_FORMATTER" "Ljava/util/function/BiFunction;" ∈ ax_tb) (K : ∀ x, (x = .null ∨ x = .retAddr 0) → AR ns l k d r P X (pc + 3) lv (x :: st) h bc bs) : AR ns l k d r P X pc lv st h bc bs := by
  intro D b o TC TS p e R s m args below meth c Z hX hP hXX lvc ls stc H locs cells slots hG
  have hx := hX.1
  have hb := hX.2.1
  obtain ⟨g1, g2, g3, g4, g5, g6, g7⟩ := hG
  obtain ⟨-, -, -, hown, hts, hT, -⟩ := id hX
  obtain ⟨-, -, -, -, -, -, -, -, -, -, -, -, hJ, -⟩ := hT
  rcases hJ with hF | ⟨t, hF⟩
  · exact va_gets hx hb (hF.narrow (fun q z => z.1)) g5 hown (hts _ hw) (fun _ h => h) hd (K .null (Or.inl rfl) D b o TC TS p e R s m args below meth c Z hX hP hXX _ _ _ _ _ _ _ ⟨g1, g2, ⟨_, _, rfl, rfl, g3⟩, g4, g5, g6, g7⟩)
  · exact va_gets hx hb (hF.narrow (fun q z => z.1)) g5 hown (hts _ hw) (fun _ h => h) hd (K (.retAddr 0) (Or.inr rfl) D b o TC TS p e R s m args below meth c Z hX hP hXX _ _ _ _ _ _ _ ⟨g1, g2, ⟨_, _, rfl, ⟨t, rfl, ax_ga0 _ _ _⟩, g3⟩, g4, g5, g6, g7⟩)
/-- a byte of an array from before -/
theorem AR.jald {j n : Nat} {f : Nat → Int32} {i : Int32} (hd : decode k.2.1 pc = .ok (.baload, 1)) (hj : j < 1000) (hE : ∀ (b : Nat) (o : Nat → Nat) (U : State), ax_J b o U → va_T .byte (o j) n (fun q => .int (f q)) (fun q => b ≤ q) U U.heap) (hi : ¬ i < 0) (hn : i.toNatClampNeg < n) (K : AR ns l k d r P X (pc + 1) lv (.int (f i.toNatClampNeg) :: st) h bc bs) : AR ns l k d r P X pc lv (.int i :: .ref (1000000000 + j) :: st) h bc bs := by
  intro D b o TC TS p e R s m args below meth c Z hX hP hXX lvc ls stc H locs cells slots hG
  have hx := hX.1
  have hb := hX.2.1
  obtain ⟨g1, g2, g3, g4, g5, g6, g7⟩ := hG
  obtain ⟨-, -, -, hown, hts, hT, -⟩ := id hX
  obtain ⟨-, -, -, -, -, -, -, -, -, -, hJ⟩ := hT
  obtain ⟨v1, t1, rfl, hv1, hs1⟩ := g3
  obtain ⟨v2, t2, rfl, hv2, hs2⟩ := hs1
  cases hv1
  cases hv2
  rw [ax_ad_j hj]
  obtain ⟨cell, e1, e2, e3, e4, e5, e6, e7⟩ := ((hE b o s hJ).narrow (B := ax_RG b o) (fun q z => z.1)).kept g5.2.1
  refine W.bald hx hb e1 e2 e3 (fun q => q.elim hi (fun z => by omega)) (e6 _ hn) rfl rfl hd ?_
  exact K D b o TC TS p e R s m args below meth c Z hX hP hXX _ _ _ _ _ _ _ ⟨g1, g2, ⟨_, _, rfl, rfl, hs2⟩, g4, g5, g6, g7⟩
theorem AR.mminI {i : Nat} {x z : Int32} (hd : decode k.2.1 pc = .ok (.invokestatic i, 3)) (hw : Cond.methodLink k.1.cls i Lib.Math.min.name ∈ ax_tb) (hw2 : Cond.static Lib.Math.min.name ∈ ax_tb) (hw3 : Cond.code Lib.Math.min.name Lib.Math.min.code 2 (some .int) ∈ ax_tb) (hc : (st.map fun v => v.category).sum ≤ 100) (K : AR ns l k d r P X (pc + 3) lv (.int (if z < x then z else x) :: st) h bc bs) : AR ns l k d r P X pc lv (.int z :: .int x :: st) h bc bs := by
  intro D b o TC TS p e R s m args below meth c Z hX hP hXX lvc ls stc H locs cells slots hG
  have hx := hX.1
  have hb := hX.2.1
  obtain ⟨g1, g2, g3, g4, g5, g6, g7⟩ := hG
  obtain ⟨-, -, hml, hown, hts, hT, hfr, hlo, hTC, hTS, -⟩ := id hX
  obtain ⟨v2, t2, rfl, hv2, hs2⟩ := g3
  obtain ⟨v1, t1, rfl, hv1, hs1⟩ := hs2
  cases hv1
  cases hv2
  refine va_mmin hx hb (hml.trans g1.1.symm) hown (hts _ hw) (hts _ hw2) (hts _ ax_math.1) (hts _ hw3) (by omega) (by rw [ax_vs_cat hs1]; omega) (by omega) (by omega) hd ?_
  exact K D b o TC TS p e R s m args below meth c Z hX hP hXX _ _ _ _ _ _ _ ⟨g1, g2, ⟨_, _, rfl, rfl, hs1⟩, g4, g5, g6, g7⟩
/-- a private method is selected whatever the class -/
theorem hj_sel {C : String} {n : Nat} {y : MethodName} {s : State} {args : Array Value} (hy : y.cls ≠ "java/lang/invoke/MethodHandle" ∧ y.cls ≠ "java/lang/invoke/VarHandle") (hins : (Cond.instantiable C n).before args s = true) (hpriv : (Cond.privateMethod y).before args s = true) (hinst : (Cond.instanceMethod y).before args s = true) (hsm : (Cond.sameMethod y.cls y.cls y.name y.desc).before args s = true) : (Cond.selects C y y).before args s = true := by
  obtain ⟨c, k, hc, hk, -, hniab, -, -⟩ := Cond.instantiable_spec hins
  have hni : k.isInterface = false := (Bool.or_eq_false_iff.mp hniab).1
  obtain ⟨mk, methM, hnamed, hmethM, -, -⟩ := Cond.instanceMethod_spec hinst
  have hfound : s.methodFound? y.cls y.name y.desc = some mk := State.methodFound?_of_named hnamed hy
  have hsel : selectMethod {} s.vm c mk = .method mk := selectMethod_private hmethM (Cond.privateMethod_at hpriv mk methM hnamed hmethM)
  obtain ⟨-, k2, hk2, hi2⟩ := Cond.sameMethod_spec (findClass_of_methodNamed hnamed) hfound hsm
  simp only [Cond.before, Cond.holds, Cond.value, hc, hfound, hnamed, hsel, hk]
  simp [hk2, hi2]
theorem AR.invokepriv {i n a ci : Nat} {q : ax_Cl} {vs : List Value} (hnil : y.2.2.2.2 = []) (hd : decode k.2.1 pc = .ok (.invokevirtual i, 3)) (hs : ax_site k y i n) (hin : Cond.instanceMethod y.1 ∈ ax_tb) (hpr : Cond.privateMethod y.1 ∈ ax_tb) (hsm : Cond.sameMethod y.1.cls y.1.cls y.1.name y.1.desc ∈ ax_tb) (hins : Cond.instantiable q.1 q.2.2.1 ∈ ax_tb) (hq : ax_cls[ci]? = some q) (hg : ax_get r h a = some (ci, vs)) (hst : stk = as.reverse ++ .ref a :: st) (hn : as.length = n) (hM : AM ns l y dy r mc ms (.ref a :: as) h Q) (hdy : dy + 1 ≤ d) (hmc : mc ≤ bc) (hms : ms ≤ bs) (hcat : (st.map fun v => v.category).sum ≤ 8)
    (K : ∀ v h', Q (.inl v) h' → AR ns l k d r P X (pc + 3) lv (v.toList ++ st) h' (bc - mc) (bs - ms)) (KX : ∀ E h', Q (.inr E) h' → AX ns l k d r P X pc lv E h' (bc - mc) (bs - ms)) : AR ns l k d r P X pc lv stk h bc bs := by
  intro D b o TC TS p e R s m args below meth c Z hX hP hXX lvc ls stc H locs cells slots hG T hT X9
  subst hst
  obtain ⟨g1, g2, g3, g4, g5, g6, g7⟩ := hG
  obtain ⟨v1, v2, rfl, hv1, w0, t0, rfl, hw0, hv2⟩ := ax_vs_split g3
  cases hw0
  have ha := ax_vs_rev hv1
  rw [List.reverse_reverse] at ha
  have ha2 : ax_vs b o (.ref a :: as) (.ref (ax_ad b o a) :: v1.reverse) := ⟨_, _, rfl, rfl, ha⟩
  obtain ⟨-, -, -, -, hts, -, -, -, hTC, hTS, -⟩ := id hX
  refine ax_behind (vx_runV (ax_fix hX) (hM D b o) ⟨ax_cb hnil hX hs hdy, hts _ hin, hj_sel ⟨hs.2.2.2.1.1, hs.2.2.2.1.2.1⟩ (hts _ hins) (hts _ hpr) (hts _ hin) (hts _ hsm)⟩ ⟨ax_blind, ax_recv hX g4 g5 hq hg, ax_pcs hX X9 hT g4 g5 g6 hmc ha2⟩ rfl ((ax_vs_len ha).trans hn) (g1.1) (by rw [List.reverse_reverse]) (lv_room (by rw [ax_vs_cat hv2]; exact hcat)) hd ⟨by omega, by omega⟩) g1 g2 hv2 g5 g6 g7 hmc hms (fun v h' hq => K v h' hq D b o TC TS p e R s m args below meth c Z hX hP hXX) (fun E h' hq => KX E h' hq D b o TC TS p e R s m args below meth c Z hX hP hXX) T hT X9
/-- a method of a String from before -/
theorem AR.invokestr {i n j : Nat} (hnil : y.2.2.2.2 = []) (hd : decode k.2.1 pc = .ok (.invokevirtual i, 3)) (hs : ax_site k y i n) (hin : Cond.instanceMethod y.1 ∈ ax_tb) (hse : Cond.selects "java/lang/String" y.1 y.1 ∈ ax_tb) (hj : j < 1000) (hE : ∀ (b : Nat) (o : Nat → Nat) (U : State), ax_J b o U → va_O "java/lang/String" (o j) (fun q => b ≤ q) U U.heap) (hst : stk = as.reverse ++ .ref (1000000000 + j) :: st) (hn : as.length = n) (hM : AM ns l y dy r mc ms (.ref (1000000000 + j) :: as) h Q) (hdy : dy + 1 ≤ d) (hmc : mc ≤ bc) (hms : ms ≤ bs) (hcat : (st.map fun v => v.category).sum ≤ 8)
    (K : ∀ v h', Q (.inl v) h' → AR ns l k d r P X (pc + 3) lv (v.toList ++ st) h' (bc - mc) (bs - ms)) (KX : ∀ E h', Q (.inr E) h' → AX ns l k d r P X pc lv E h' (bc - mc) (bs - ms)) : AR ns l k d r P X pc lv stk h bc bs := by
  intro D b o TC TS p e R s m args below meth c Z hX hP hXX lvc ls stc H locs cells slots hG T hT X9
  subst hst
  obtain ⟨g1, g2, g3, g4, g5, g6, g7⟩ := hG
  obtain ⟨v1, v2, rfl, hv1, w0, t0, rfl, hw0, hv2⟩ := ax_vs_split g3
  cases hw0
  have ha := ax_vs_rev hv1
  rw [List.reverse_reverse] at ha
  have ha2 : ax_vs b o (.ref (1000000000 + j) :: as) (.ref (ax_ad b o (1000000000 + j)) :: v1.reverse) := ⟨_, _, rfl, rfl, ha⟩
  obtain ⟨-, -, -, -, hts, hT9, -, -, hTC, hTS, -⟩ := id hX
  obtain ⟨-, -, -, -, -, -, -, -, -, -, hJ⟩ := hT9
  have hrec : ∃ cell : Cell, H[ax_ad b o (1000000000 + j)]? = some cell ∧ cell.vm.isStatics = false ∧ s.vm.findClass "java/lang/String" = some cell.cls := by
    rw [ax_ad_j hj]
    exact va_Orecv ((hE b o s hJ).narrow (fun q z => z.1)) g5
  refine ax_behind (vx_runV (ax_fix hX) (hM D b o) ⟨ax_cb hnil hX hs hdy, hts _ hin, hts _ hse⟩ ⟨ax_blind, hrec, ax_pcs hX X9 hT g4 g5 g6 hmc ha2⟩ rfl ((ax_vs_len ha).trans hn) (g1.1) (by rw [List.reverse_reverse]) (lv_room (by rw [ax_vs_cat hv2]; exact hcat)) hd ⟨by omega, by omega⟩) g1 g2 hv2 g5 g6 g7 hmc hms (fun v h' hq => K v h' hq D b o TC TS p e R s m args below meth c Z hX hP hXX) (fun E h' hq => KX E h' hq D b o TC TS p e R s m args below meth c Z hX hP hXX) T hT X9
/-- bytes -/
def hj_by (x : Value) : Prop := ∃ z : Int32, x = .int z ∧ -128 ≤ z.toInt ∧ z.toInt ≤ 127
theorem hj_fit {x : Value} (h : hj_by x) : ax_fit .byte x = true := by
  obtain ⟨z, rfl, h1, h2⟩ := h
  have e1 : (-128 : Int32).toInt = -128 := rfl
  have e2 : (127 : Int32).toInt = 127 := rfl
  have a1 : (-128 : Int32) ≤ z := Int32.le_iff_toInt_le.mpr (by rw [e1]; exact h1)
  have a2 : z ≤ 127 := Int32.le_iff_toInt_le.mpr (by rw [e2]; exact h2)
  have a3 : z.toInt8.toInt32 = z := Int32.toInt_inj.mp (by
    rw [Int8.toInt_toInt32, Int32.toInt_toInt8]
    exact Int.bmod_eq_of_le (by omega) (by omega))
  simp only [ax_fit, a1, a2, a3]
  simp
theorem hj_nn {j : Int32} (hj : 0 ≤ j.toInt) : ¬ j < 0 ∧ (j.toNatClampNeg : Int) = j.toInt := by
  refine ⟨fun e => ?_, ?_⟩
  · rw [Int32.lt_iff_toInt_lt] at e
    have : (0 : Int32).toInt = 0 := rfl
    omega
  · show ((j.toInt.toNat : Nat) : Int) = j.toInt
    omega
def hj_from (h : ax_H) (a0 n0 : Nat) : Prop := (∃ vs, a0 < 1000000000 ∧ h[a0]? = some (103, vs) ∧ vs.length = n0 ∧ ∀ x ∈ vs, hj_by x) ∨ ∃ (j : Nat) (f : Nat → Int32), a0 = 1000000000 + j ∧ j < 1000 ∧ (∀ (b : Nat) (o : Nat → Nat) (U : State), ax_J b o U → va_T .byte (o j) n0 (fun q => .int (f q)) (fun q => b ≤ q) U U.heap) ∧ ∀ q, q < n0 → hj_by (.int (f q))
theorem AR.bcopy {i a0 a n0 : Nat} {us : List Value} {sp dp n : Int32} (hd : decode k.2.1 pc = .ok (.invokestatic i, 3)) (hw : Cond.methodLink k.1.cls i arraycopyName ∈ ax_tb) (hS : hj_from h a0 n0) (ha : a < 1000000000) (hg1 : h[a]? = some (103, us)) (hus : ∀ x ∈ us, hj_by x) (h1 : 0 ≤ sp.toInt) (h2 : 0 ≤ dp.toInt) (h3 : 0 ≤ n.toInt) (h4 : sp.toInt + n.toInt ≤ n0) (h5 : dp.toInt + n.toInt ≤ us.length) (hcat : (st.map fun v => v.category).sum ≤ 100)
    (K : ∀ us' : List Value, us'.length = us.length → (∀ x ∈ us', hj_by x) → AR ns l k d r P X (pc + 3) lv st (h.set a (103, us')) bc bs) : AR ns l k d r P X pc lv (.int n :: .int dp :: .ref a :: .int sp :: .ref a0 :: st) h bc bs := by
  intro D b o TC TS p e R s m args below meth c Z hX hP hXX lvc ls stc H locs cells slots hG T hT9 X9
  obtain ⟨hx, hb, hml, hown, hts, hT, hfr, hlo, -⟩ := id hX
  obtain ⟨g1, g2, g3, g4, g5, g6, g7⟩ := hG
  obtain ⟨v1, t1, rfl, hv1, hs1⟩ := g3
  obtain ⟨v2, t2, rfl, hv2, hs2⟩ := hs1
  obtain ⟨v3, t3, rfl, hv3, hs3⟩ := hs2
  obtain ⟨v4, t4, rfl, hv4, hs4⟩ := hs3
  obtain ⟨v5, t5, rfl, hv5, hs5⟩ := hs4
  cases hv1; cases hv2; cases hv3; cases hv4; cases hv5
  rw [ax_ad_lt ha]
  have hsrc : ∃ cs : Cell, H[ax_ad b o a0]? = some cs ∧ s.isArrayOf cs .byte ∧ cs.vm ≠ .unknown ∧ n0 ≤ cs.slots.size ∧ ∀ i, i < n0 → ∃ x, cs.slots[i]? = some x ∧ hj_by x := by
    rcases hS with ⟨vs, q1, q2, q3, q4⟩ | ⟨j, f, rfl, q2, q3, q4⟩
    · obtain ⟨cs, e0, e1⟩ := g4.2.1 a0 _ q2
      obtain ⟨d1, d2, d3, d4, d5⟩ := ax_arr (t := 3) hT rfl e1
      refine ⟨cs, by rw [ax_ad_lt q1]; exact e0, d1, (by rw [d2]; exact (fun q => by cases q)), by omega, fun i hi => ?_⟩
      have hl : i < vs.length := by omega
      obtain ⟨v, w1, w2⟩ := d5 i _ (List.getElem?_eq_getElem hl)
      obtain ⟨z, e2, e3⟩ := q4 _ (List.getElem_mem hl)
      rw [e2] at w2
      cases w2
      exact ⟨_, w1, z, rfl, e3⟩
    · obtain ⟨-, -, -, -, -, -, -, -, -, -, hJ⟩ := hT
      obtain ⟨cs, e1, e2, e3, e4, e5, e6, e7⟩ := ((q3 b o s hJ).narrow (B := ax_RG b o) (fun q z => z.1)).kept g5.2.1
      exact ⟨cs, by rw [ax_ad_j q2]; exact e1, e2, e3, e4, fun i hi => ⟨_, e6 i hi, q4 i hi⟩⟩
  obtain ⟨cs, e0, ⟨s1, ks, hks, sComp, hsk⟩, s2, s3, s5⟩ := hsrc
  obtain ⟨cd, f0, f1⟩ := g4.2.1 a _ hg1
  obtain ⟨⟨d1, kd, hkd, dComp, hdk⟩, d2, d3, d4, d5⟩ := ax_arr (t := 3) hT rfl f1
  obtain ⟨nn1, nn⟩ := hj_nn h3
  obtain ⟨ns1, nsp⟩ := hj_nn h1
  obtain ⟨nd1, ndp⟩ := hj_nn h2
  have hnl : nativeFrameWords "java/lang/System" "arraycopy" 5 + 11 ≤ 20 := by decide
  obtain ⟨vm', X', step⟩ := X9.arraycopy hx hown (hts _ hw) (hts _ ax_acw.1) (hts _ ax_acw.2.1) (hts _ ax_acw.2.2) (src := ax_ad b o a0) (dst := b + ax_of o a) (cs := cs) (cd := cd) (srcPos := sp) (destPos := dp) (n := n) (by rw [hT9]; exact e0) (by rw [hT9]; exact f0) s1 d1 s2 (by rw [d2]; exact fun q => by cases q) hks hkd hsk hdk (by decide) ns1 nd1 nn1 (by omega) (by rw [d3]; omega)
    (fun vm₁ _ i hi => by
      obtain ⟨x, q1, z, rfl, q2⟩ := s5 (sp.toNatClampNeg + i) (by omega)
      have e : cs.slots.getD (sp.toNatClampNeg + i) .null = .int z := by rw [Array.getD_eq_getD_getElem?, q1]; rfl
      rw [e]
      exact ⟨(ax_fit_spec (b := b) (o := o) (hj_fit ⟨z, rfl, q2⟩) rfl).2, trivial⟩)
    (g := F0 m pc ls (.int n :: .int dp :: .ref (b + ax_of o a) :: .int sp :: .ref (ax_ad b o a0) :: t5)) rfl (g1.1.trans hml.symm) (rest := t5) rfl (by rw [hb]; exact hd) (by omega) (by show 2 * 0 + _ + _ ≤ _; rw [ax_vs_cat hs5]; omega)
  have hl : b + ax_of o a < H.size := (Array.getElem?_eq_some_iff.mp f0).1
  obtain ⟨c1, c2, c3, -⟩ : (copied cs cd sp dp n).cls = cd.cls ∧ (copied cs cd sp dp n).vm = cd.vm ∧ (copied cs cd sp dp n).slots.size = cd.slots.size ∧ True := by
    obtain ⟨c1, c2, c3, -⟩ := Cell.storeRun_facts cd dp.toNatClampNeg (cs.stretch sp.toNatClampNeg n.toNatClampNeg)
    exact ⟨c1, c2, c3, trivial⟩
  have hlen : (cs.stretch sp.toNatClampNeg n.toNatClampNeg).length = n.toNatClampNeg := by simp [Cell.stretch]
  have hslots : ∀ j, j < us.length → ∃ x, (copied cs cd sp dp n).slots[j]? = some x ∧ hj_by x := by
    intro j hj
    show ∃ x, (cd.storePairs _ ((cs.stretch _ _).zipIdx)).slots[j]? = some x ∧ _
    rw [Cell.storePairs_get cd dp.toNatClampNeg (cs.stretch sp.toNatClampNeg n.toNatClampNeg) 0 j (by rw [hlen, d3]; omega)]
    split
    · rename_i hc
      rw [hlen] at hc
      obtain ⟨x, q1, q2⟩ := s5 (sp.toNatClampNeg + (j - (dp.toNatClampNeg + 0))) (by omega)
      refine ⟨x, ?_, q2⟩
      simp only [Nat.add_zero] at q1
      simp only [Cell.stretch, List.getElem?_map]
      rw [List.getElem?_range (by omega)]
      simp [Array.getD_eq_getD_getElem?, q1]
    · obtain ⟨v, w1, w2⟩ := d5 j _ (List.getElem?_eq_getElem hj)
      obtain ⟨z, e2, e3⟩ := hus _ (List.getElem_mem hj)
      rw [e2] at w2
      cases w2
      exact ⟨_, w1, z, rfl, e3⟩
  generalize copied cs cd sp dp n = cN at X' step hslots c1 c2 c3
  have hheap : ((T.setVm vm').setCell (b + ax_of o a) cN).heap = H.setIfInBounds (b + ax_of o a) cN := by rw [← hT9]; rfl
  have oq : ∀ q : Nat, q ≠ b + ax_of o a → (H.setIfInBounds (b + ax_of o a) cN)[q]? = H[q]? := fun q hq => by simp [Array.getElem?_setIfInBounds, Ne.symm hq]
  have hget : ∀ j, j < us.length → ((List.range us.length).map (fun j => (cN.slots[j]?).getD .null))[j]? = some ((cN.slots[j]?).getD .null) := fun j hj => by rw [List.getElem?_map, List.getElem?_range hj]; rfl
  have hu : ∀ x ∈ (List.range us.length).map (fun j => (cN.slots[j]?).getD .null), hj_by x := by
    intro x hxm
    obtain ⟨j, hj, rfl⟩ := List.mem_map.mp hxm
    obtain ⟨x, q1, q2⟩ := hslots j (List.mem_range.mp hj)
    rw [q1]
    exact q2
  have hR1 : ax_R D b o (h.set a (103, (List.range us.length).map (fun j => (cN.slots[j]?).getD .null))) (H.setIfInBounds (b + ax_of o a) cN) := by
    refine g4.set (cell := cN) (by simp [Array.getElem?_setIfInBounds, hl]) (by simp) oq (Or.inr ⟨c2.trans d2, c1.trans d4, fun _ => by rw [c3, d3]; simp, fun j x hj => ?_⟩)
    rw [show D.2 103 j = j from (hT.2.1 3 _ rfl).2.2 j]
    have hjl : j < us.length := by
      have := (List.getElem?_eq_some_iff.mp hj).1
      simpa using this
    have hj2 := hget j hjl
    have hj3 : some ((cN.slots[j]?).getD .null) = some x := hj2.symm.trans hj
    obtain ⟨y, q1, z, e, -⟩ := hslots j hjl
    refine ⟨y, q1, ?_⟩
    rw [q1] at hj3
    cases hj3
    subst e
    rfl
  obtain ⟨t', a1, b1⟩ := K _ (by simp) hu D b o TC TS p e R s m args below meth c Z hX hP hXX lvc ls t5 (H.setIfInBounds (b + ax_of o a) cN) (locs ++ (cs.stretch sp.toNatClampNeg n.toNatClampNeg).zipIdx.map fun q => ⟨b + ax_of o a, dp.toNatClampNeg + q.2⟩) cells slots ⟨g1, g2, hs5, hR1, ⟨by simp; exact g5.1, fun q q1 q2 => by rw [oq q (fun e => q2 (by rw [e]; exact g4.rg hg1))]; exact g5.2.1 q q1 q2, fun q hq => by
      rcases List.mem_append.mp hq with h | h
      · exact g5.2.2 q h
      · obtain ⟨z, -, hz⟩ := List.mem_map.mp h
        rw [← hz]
        exact g4.rg hg1⟩, g6, g7⟩ _ hheap X'
  exact ⟨t', step t' a1, b1⟩
end HJ
