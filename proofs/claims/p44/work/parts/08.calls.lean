/-! CONTRACTS, and calls by them -/
def ax_ov (b : Nat) (o : Nat → Nat) : Option Value → Option Value → Prop
  | none, v => v = none
  | some x, v => ∃ w, v = some w ∧ ax_v b o x w
theorem ax_ov_vs {b : Nat} {o : Nat → Nat} {x v : Option Value} {xs vs : List Value} (h : ax_ov b o x v) (hs : ax_vs b o xs vs) : ax_vs b o (x.toList ++ xs) (v.toList ++ vs) := by
  cases x with
  | none => cases h; exact hs
  | some x =>
    obtain ⟨w, rfl, hw⟩ := h
    exact ⟨w, vs, rfl, hw, hs⟩
abbrev ax_Q : Type := (Option Value ⊕ String) → ax_H → Prop
def ax_ws (k : ax_M) : List Cond := ax_hd k :: ax_tb
def ax_rm (d mc ms : Nat) : Room := { frames := d + 6, cells := mc, slots := ms, locals := 40 * d + 224 }
def ax_Pc (ns : ax_NS) (r : ax_H) (D : va_G) (b : Nat) (o : Nat → Nat) (mc : Nat) (as : List Value) (h : ax_H) : Array Value → State → Prop := fun a U => ∃ ac : List Value, a = ac.toArray ∧ ax_vs b o as ac ∧ ax_R D b o h U.heap ∧ ax_T ns r D b o U ∧ U.heap.size + mc < b + 1000000000
def ax_Qc (D : va_G) (b : Nat) (o : Nat → Nat) (Q : ax_Q) : Array Value → State → Outcome → State → Prop := fun _ st oc t => ∃ (v vc : Option Value) (h : ax_H), oc = .returned vc ∧ ax_ov b o v vc ∧ Q (.inl v) h ∧ ax_R D b o h t.heap ∧ va_F (ax_RG b o) st t
def ax_XC (D : va_G) (b : Nat) (o : Nat → Nat) (Q : ax_Q) : String → State → State → Prop := fun E st t => ∃ h : ax_H, Q (.inr E) h ∧ ax_R D b o h t.heap ∧ va_F (ax_RG b o) st t
/-- the method, called with as over the heap h, comes to an end with Q -/
def AM (ns : ax_NS) (l : Launch) (k : ax_M) (d : Nat) (r : ax_H) (mc ms : Nat) (as : List Value) (h : ax_H) (Q : ax_Q) : Prop :=
  ∀ (D : va_G) (b : Nat) (o : Nat → Nat), vx_Met l k.1 (ax_ws k) (ax_rm d mc ms) (ax_Pc ns r D b o mc as h) (ax_Qc D b o Q) (ax_XC D b o Q) mc ms (ax_RG b o)
theorem ax_blind {ns : ax_NS} {r : ax_H} {D : va_G} {b : Nat} {o : Nat → Nat} {mc : Nat} {as : List Value} {h : ax_H} : FrameBlind (ax_Pc ns r D b o mc as h) := by
  intro a U g mk hp
  obtain ⟨ac, h1, h2, h3, h4, h5⟩ := hp
  exact ⟨ac, h1, h2, h3, h4.warm (s := U) (U := U.calling g mk a) (State.WarmedH.refl U) (Nat.le_refl _) (fun _ _ _ => rfl), h5⟩
section AXC
variable {ns : ax_NS} {l : Launch} {k y : ax_M} {d dy : Nat} {r : ax_H} {P : ax_P} {X : ax_PX} {pc : Nat} {lv : List (Nat × Value)} {st stk as : List Value} {h : ax_H} {bc bs mc ms : Nat} {Q : ax_Q}
variable {D : va_G} {b : Nat} {o : Nat → Nat} {TC TS : Nat} {p : Program} {e : Env} {R : Room} {s : State} {m : MethodId} {args : Array Value} {below : List Frame} {meth : Method} {c : Code} {Z : State → Prop}
/-- behind a call -/
theorem ax_behind {nL : Nat} {lvc : List (Nat × Value)} {ls : Array Slot} {rest st0 : List Value} {H : Heap} {locs : List Loc} {cells slots : Nat} {a : Array Value}
    (hr : vx_Run p l e R s m args below meth c H locs cells slots mc ms (F0 m pc ls st0) rest (ax_Qc D b o Q a) (ax_XC D b o Q) (ax_RG b o))
    (g1 : lv_has ls nL lvc) (g2 : ax_ls b o lv lvc) (g3 : ax_vs b o st rest) (g5 : va_S (ax_RG b o) s.heap H locs) (g6 : cells + bc ≤ TC) (g7 : slots + bs ≤ TS) (hmc : mc ≤ bc) (hms : ms ≤ bs)
    (kk : ∀ v h', Q (.inl v) h' → AC l nL D b o TC TS p e R s m args below meth c Z (pc + 3) lv (v.toList ++ st) h' (bc - mc) (bs - ms))
    (kx : ∀ E h', Q (.inr E) h' → ACX l nL D b o TC TS p e R s m args below meth c Z pc lv E h' (bc - mc) (bs - ms)) : W p l e R s m args below meth c H locs cells slots Z (F0 m pc ls st0) := by
  intro T hT X
  rcases hr T hT X with ⟨v, st₀, t, T', L, h0, X', hL, e1, e2, ⟨va, vc, h', hvc, hov, hQ, hR, hF⟩, hst⟩ | ⟨q, st₀, t, T', L, E, ce, h0, X', hL, e1, e2, ⟨h', hQ, hR, hF⟩, hce, hcv, hcl, hst⟩
  · cases hvc
    obtain ⟨k1, k2, k3⟩ := vx_keep h0 e1 g5 (fun q _ hq => hq) (fun q hq => hq) hL hF
    obtain ⟨t2, a1, b1⟩ := kk va h' hQ lvc ls (v.toList ++ rest) T'.heap (locs ++ L) (cells + mc) (slots + ms) ⟨g1, g2, ax_ov_vs hov g3, by rw [e1]; exact hR, k3, by omega, by omega⟩ T' rfl X'
    exact ⟨t2, hst t2 a1, b1⟩
  · obtain ⟨k1, k2, k3⟩ := vx_keep h0 e1 g5 (fun q _ hq => hq) (fun q hq => hq) hL hF
    obtain ⟨t2, a1, b1⟩ := kx E h' hQ lvc ls rest T'.heap (locs ++ L) (cells + mc) (slots + ms) q ce ⟨g1, g2, rfl, by rw [e1]; exact hR, k3, by omega, by omega⟩ (by rw [e1]; exact hce) hcv hcl T' rfl X'
    exact ⟨t2, hst.trans a1, b1⟩
theorem ax_pcs (hX : ax_X ns l k d r D b o TC TS p R s m args meth c) {H : Heap} {locs : List Loc} {cells slots : Nat} {T : State} (X : Stand p l e R s m args below meth c T locs cells slots) (hT : T.heap = H) (g4 : ax_R D b o h H) (g5 : va_S (ax_RG b o) s.heap H locs) (g6 : cells + bc ≤ TC) (hmc : mc ≤ bc) {ac : List Value} (ha : ax_vs b o as ac) :
    ∀ U : State, U.heap = H → s.WarmedH U.vm → ax_Pc ns r D b o mc as h ac.toArray U := by
  intro U hU hW
  obtain ⟨-, -, -, -, -, hT9, -, -, -, -, -, -, -, -, hsz⟩ := hX
  refine ⟨ac, rfl, ha, by rw [hU]; exact g4, hT9.warm hW (by rw [hU]; exact g5.1) (fun q h1 h2 => by rw [hU]; exact g5.2.1 q h1 (fun z => h2 z.1)), ?_⟩
  have h1 := X.heapSize
  rw [hT] at h1
  rw [hU]
  omega
/-- what a call's site says of the callee, but how it is found -/
def ax_site (k y : ax_M) (i n : Nat) : Prop := ax_hd y ∈ ax_tb ∧ Cond.initialized y.1.cls ∈ ax_tb ∧ Cond.methodLink k.1.cls i y.1 ∈ ax_tb ∧ (y.1.cls ≠ "java/lang/invoke/MethodHandle" ∧ y.1.cls ≠ "java/lang/invoke/VarHandle" ∧ (parseMethodDescriptor y.1.desc).map (fun d => d.parameters.length) = some n) ∧ y.2.2.1 ≤ 21
theorem ax_ws_good (h : ax_hd y ∈ ax_tb) : GoodIn ax_tb (ax_ws y) := by
  intro w hw
  rcases List.mem_cons.mp hw with rfl | hw
  · exact ax_good _ h
  · exact ax_good w hw
theorem ax_hd_nil (h : y.2.2.2.2 = []) : ax_hd y = .code y.1 y.2.1 y.2.2.1 y.2.2.2.1 := by simp only [ax_hd, h]
set_option maxRecDepth 20000 in
theorem ax_loc {x dy d L : Nat} (h5 : x ≤ 21) (hd : dy + 1 ≤ d) (hlo : 40 * d + 224 ≤ L) : 8 + (x + 11) + (40 * dy + 224) ≤ L := by omega
theorem ax_cb {i n : Nat} (h0 : y.2.2.2.2 = []) (hX : ax_X ns l k d r D b o TC TS p R s m args meth c) (hs : ax_site k y i n) (hd : dy + 1 ≤ d) : CallB R s args k.1.cls i y.1 y.2.1 y.2.2.1 y.2.2.2.1 (ax_ws y) (ax_rm dy mc ms) mc ms n := by
  obtain ⟨h1, h2, h3, h4, h5⟩ := hs
  obtain ⟨-, -, -, -, hts, -, hfr, hlo, -⟩ := hX
  refine callB_of n hts (ax_ws_good h1) (ws' := ax_tb) (by rw [ax_ws, ax_hd_nil h0]) rfl rfl (hts _ h2) (hts _ h3) h4 ⟨?_, ?_⟩
  · show dy + 6 + 1 ≤ R.frames
    omega
  · exact ax_loc h5 hd hlo
theorem ax_fix (hX : ax_X ns l k d r D b o TC TS p R s m args meth c) : CallFix p m c k.2.1 k.2.2.1 s args ax_tb k.1.cls := ⟨hX.1, hX.2.1, hX.2.2.1, hX.2.2.2.1, hX.2.2.2.2.1⟩
theorem ax_hd_cons (h : ¬ y.2.2.2.2 = []) : ax_hd y = .codeWith y.1 y.2.1 y.2.2.1 y.2.2.2.1 y.2.2.2.2 := by
  unfold ax_hd
  split
  · exact absurd (by assumption) h
  · rfl
theorem ax_csw {i n : Nat} (h0 : ¬ y.2.2.2.2 = []) (hX : ax_X ns l k d r D b o TC TS p R s m args meth c) (hs : ax_site k y i n) (hst : Cond.static y.1 ∈ ax_tb) (hd : dy + 1 ≤ d) : vx_CSW R s args k.1.cls i y.1 y.2.1 y.2.2.1 y.2.2.2.1 y.2.2.2.2 (ax_ws y) (ax_rm dy mc ms) mc ms n := by
  obtain ⟨h1, h2, h3, h4, h5⟩ := hs
  obtain ⟨-, -, -, -, hts, -, hfr, hlo, -⟩ := hX
  refine vx_cwSW n hts (fun w hw => ?_) (ws' := ax_tb) (by rw [ax_ws, ax_hd_cons h0]) rfl rfl h4 ⟨?_, ?_⟩
  · simp only [va_wsS, List.cons_append, List.nil_append, List.mem_cons] at hw
    rcases hw with rfl | rfl | rfl | hw
    · exact ax_good _ h3
    · exact ax_good _ hst
    · exact ax_good _ h2
    · exact ax_ws_good h1 w hw
  · show dy + 6 + 1 ≤ R.frames
    omega
  · exact ax_loc h5 hd hlo
theorem AR.invokestatic {i n : Nat} (hd : decode k.2.1 pc = .ok (.invokestatic i, 3)) (hs : ax_site k y i n) (hstat : Cond.static y.1 ∈ ax_tb) (hst : stk = as.reverse ++ st) (hn : as.length = n) (hM : AM ns l y dy r mc ms as h Q) (hdy : dy + 1 ≤ d) (hmc : mc ≤ bc) (hms : ms ≤ bs) (hcat : (st.map fun v => v.category).sum ≤ 8)
    (K : ∀ v h', Q (.inl v) h' → AR ns l k d r P X (pc + 3) lv (v.toList ++ st) h' (bc - mc) (bs - ms)) (KX : ∀ E h', Q (.inr E) h' → AX ns l k d r P X pc lv E h' (bc - mc) (bs - ms)) : AR ns l k d r P X pc lv stk h bc bs := by
  intro D b o TC TS p e R s m args below meth c Z hX hP hXX lvc ls stc H locs cells slots hG T hT X9
  subst hst
  obtain ⟨g1, g2, g3, g4, g5, g6, g7⟩ := hG
  obtain ⟨v1, v2, rfl, hv1, hv2⟩ := ax_vs_split g3
  have ha := ax_vs_rev hv1
  rw [List.reverse_reverse] at ha
  obtain ⟨-, -, -, -, hts, -, -, -, hTC, hTS, -⟩ := id hX
  by_cases hnil : y.2.2.2.2 = []
  · refine ax_behind (vx_runS (ax_fix hX) (hM D b o) ⟨ax_cb hnil hX hs hdy, hts _ hstat⟩ ⟨ax_blind, ax_pcs hX X9 hT g4 g5 g6 hmc ha⟩ rfl ((ax_vs_len ha).trans hn) (g1.1) (by rw [List.reverse_reverse]) (lv_room (by rw [ax_vs_cat hv2]; exact hcat)) hd ⟨by omega, by omega⟩) g1 g2 hv2 g5 g6 g7 hmc hms (fun v h' hq => K v h' hq D b o TC TS p e R s m args below meth c Z hX hP hXX) (fun E h' hq => KX E h' hq D b o TC TS p e R s m args below meth c Z hX hP hXX) T hT X9
  · refine ax_behind (vx_runSX (hh := y.2.2.2.2) (bytes := y.2.1) (maxL := y.2.2.1) (ret := y.2.2.2.1) (ax_fix hX) (hM D b o) (ax_csw hnil hX hs hstat hdy) ⟨ax_blind, ax_pcs hX X9 hT g4 g5 g6 hmc ha⟩ rfl ((ax_vs_len ha).trans hn) (g1.1) (by rw [List.reverse_reverse]) (lv_room (by rw [ax_vs_cat hv2]; exact hcat)) hd ⟨by omega, by omega⟩) g1 g2 hv2 g5 g6 g7 hmc hms (fun v h' hq => K v h' hq D b o TC TS p e R s m args below meth c Z hX hP hXX) (fun E h' hq => KX E h' hq D b o TC TS p e R s m args below meth c Z hX hP hXX) T hT X9
/-- the receiver's class is known -/
theorem ax_recv (hX : ax_X ns l k d r D b o TC TS p R s m args meth c) {H : Heap} {locs : List Loc} (g4 : ax_R D b o h H) (g5 : va_S (ax_RG b o) s.heap H locs) {a ci : Nat} {q : ax_Cl} {vs : List Value} (hq : ax_cls[ci]? = some q) (hg : ax_get r h a = some (ci, vs)) : ∃ cell : Cell, H[ax_ad b o a]? = some cell ∧ cell.vm.isStatics = false ∧ s.vm.findClass q.1 = some cell.cls := by
  obtain ⟨-, -, -, -, -, hT, -⟩ := hX
  obtain ⟨cell, e1, e2⟩ := ax_got hT g4 g5 (ax_cls_lt hq) hg
  obtain ⟨c1, c2, c3, -⟩ := ax_obj hT hq e2
  exact ⟨cell, e1, by rw [c1]; rfl, by rw [c2]; exact c3.2.1⟩
theorem AR.invokevirtual {i n a ci : Nat} {q : ax_Cl} {vs : List Value} (hnil : y.2.2.2.2 = []) (hd : decode k.2.1 pc = .ok (.invokevirtual i, 3)) (hs : ax_site k y i n) (hin : Cond.instanceMethod y.1 ∈ ax_tb) (hse : Cond.selects q.1 y.1 y.1 ∈ ax_tb) (hq : ax_cls[ci]? = some q) (hg : ax_get r h a = some (ci, vs)) (hst : stk = as.reverse ++ .ref a :: st) (hn : as.length = n) (hM : AM ns l y dy r mc ms (.ref a :: as) h Q) (hdy : dy + 1 ≤ d) (hmc : mc ≤ bc) (hms : ms ≤ bs) (hcat : (st.map fun v => v.category).sum ≤ 8)
    (K : ∀ v h', Q (.inl v) h' → AR ns l k d r P X (pc + 3) lv (v.toList ++ st) h' (bc - mc) (bs - ms)) (KX : ∀ E h', Q (.inr E) h' → AX ns l k d r P X pc lv E h' (bc - mc) (bs - ms)) : AR ns l k d r P X pc lv stk h bc bs := by
  intro D b o TC TS p e R s m args below meth c Z hX hP hXX lvc ls stc H locs cells slots hG T hT X9
  subst hst
  obtain ⟨g1, g2, g3, g4, g5, g6, g7⟩ := hG
  obtain ⟨v1, v2, rfl, hv1, w0, t0, rfl, hw0, hv2⟩ := ax_vs_split g3
  cases hw0
  have ha := ax_vs_rev hv1
  rw [List.reverse_reverse] at ha
  have ha2 : ax_vs b o (.ref a :: as) (.ref (ax_ad b o a) :: v1.reverse) := ⟨_, _, rfl, rfl, ha⟩
  obtain ⟨-, -, -, -, hts, -, -, -, hTC, hTS, -⟩ := id hX
  refine ax_behind (vx_runV (ax_fix hX) (hM D b o) ⟨ax_cb hnil hX hs hdy, hts _ hin, hts _ hse⟩ ⟨ax_blind, ax_recv hX g4 g5 hq hg, ax_pcs hX X9 hT g4 g5 g6 hmc ha2⟩ rfl ((ax_vs_len ha).trans hn) (g1.1) (by rw [List.reverse_reverse]) (lv_room (by rw [ax_vs_cat hv2]; exact hcat)) hd ⟨by omega, by omega⟩) g1 g2 hv2 g5 g6 g7 hmc hms (fun v h' hq => K v h' hq D b o TC TS p e R s m args below meth c Z hX hP hXX) (fun E h' hq => KX E h' hq D b o TC TS p e R s m args below meth c Z hX hP hXX) T hT X9
theorem AR.invokespecial {i n a : Nat} (hnil : y.2.2.2.2 = []) (hd : decode k.2.1 pc = .ok (.invokespecial i, 3)) (hs : ax_site k y i n) (hin : Cond.instanceMethod y.1 ∈ ax_tb) (hini : y.1.name = "<init>") (hret : y.2.2.2.1 = none) (hst : stk = as.reverse ++ .ref a :: st) (hn : as.length = n) (hM : AM ns l y dy r mc ms (.ref a :: as) h Q) (hdy : dy + 1 ≤ d) (hmc : mc ≤ bc) (hms : ms ≤ bs) (hcat : (st.map fun v => v.category).sum ≤ 8)
    (K : ∀ v h', Q (.inl v) h' → AR ns l k d r P X (pc + 3) lv (v.toList ++ st) h' (bc - mc) (bs - ms)) (KX : ∀ E h', Q (.inr E) h' → AX ns l k d r P X pc lv E h' (bc - mc) (bs - ms)) : AR ns l k d r P X pc lv stk h bc bs := by
  intro D b o TC TS p e R s m args below meth c Z hX hP hXX lvc ls stc H locs cells slots hG T hT X9
  subst hst
  obtain ⟨g1, g2, g3, g4, g5, g6, g7⟩ := hG
  obtain ⟨v1, v2, rfl, hv1, w0, t0, rfl, hw0, hv2⟩ := ax_vs_split g3
  cases hw0
  have ha := ax_vs_rev hv1
  rw [List.reverse_reverse] at ha
  have ha2 : ax_vs b o (.ref a :: as) (.ref (ax_ad b o a) :: v1.reverse) := ⟨_, _, rfl, rfl, ha⟩
  obtain ⟨-, -, -, -, hts, -, -, -, hTC, hTS, -⟩ := id hX
  have hcb := ax_cb (mc := mc) (ms := ms) hnil hX hs hdy
  rw [hret] at hcb
  refine ax_behind (vx_runI (ax_fix hX) (hM D b o) ⟨hcb, hini, hts _ hin⟩ ⟨ax_blind, ax_pcs hX X9 hT g4 g5 g6 hmc ha2⟩ rfl ((ax_vs_len ha).trans hn) (g1.1) (by rw [List.reverse_reverse]) (lv_room (by rw [ax_vs_cat hv2]; exact hcat)) hd ⟨by omega, by omega⟩) g1 g2 hv2 g5 g6 g7 hmc hms (fun v h' hq => K v h' hq D b o TC TS p e R s m args below meth c Z hX hP hXX) (fun E h' hq => KX E h' hq D b o TC TS p e R s m args below meth c Z hX hP hXX) T hT X9
/-- a private constructor of a nest mate -/
theorem AR.invokenest {i n a : Nat} {host : String} (hd : decode k.2.1 pc = .ok (.invokespecial i, 3)) (hs0 : y.2.2.2.2 = []) (hs1 : ax_hd y ∈ ax_tb) (hs2 : Cond.initialized y.1.cls ∈ ax_tb) (hs3 : Cond.methodLinkNest k.1.cls i y.1 host ∈ ns.1) (hs4 : y.1.cls ≠ "java/lang/invoke/MethodHandle" ∧ y.1.cls ≠ "java/lang/invoke/VarHandle" ∧ (parseMethodDescriptor y.1.desc).map (fun d => d.parameters.length) = some n) (hs5 : y.2.2.1 ≤ 21) (hin : Cond.instanceMethod y.1 ∈ ax_tb) (hini : y.1.name = "<init>") (hret : y.2.2.2.1 = none) (hst : stk = as.reverse ++ .ref a :: st) (hn : as.length = n) (hM : AM ns l y dy r mc ms (.ref a :: as) h Q) (hdy : dy + 1 ≤ d) (hmc : mc ≤ bc) (hms : ms ≤ bs) (hcat : (st.map fun v => v.category).sum ≤ 8)
    (K : ∀ v h', Q (.inl v) h' → AR ns l k d r P X (pc + 3) lv (v.toList ++ st) h' (bc - mc) (bs - ms)) (KX : ∀ E h', Q (.inr E) h' → AX ns l k d r P X pc lv E h' (bc - mc) (bs - ms)) : AR ns l k d r P X pc lv stk h bc bs := by
  intro D b o TC TS p e R s m args below meth c Z hX hP hXX lvc ls stc H locs cells slots hG T hT X9
  subst hst
  obtain ⟨g1, g2, g3, g4, g5, g6, g7⟩ := hG
  obtain ⟨v1, v2, rfl, hv1, w0, t0, rfl, hw0, hv2⟩ := ax_vs_split g3
  cases hw0
  have ha := ax_vs_rev hv1
  rw [List.reverse_reverse] at ha
  have ha2 : ax_vs b o (.ref a :: as) (.ref (ax_ad b o a) :: v1.reverse) := ⟨_, _, rfl, rfl, ha⟩
  obtain ⟨-, -, -, -, hts, hT9, hfr, hlo, hTC, hTS, -⟩ := id hX
  have hcb : va_CN R s args k.1.cls i y.1 host y.2.1 y.2.2.1 y.2.2.2.1 (ax_ws y) (ax_rm dy mc ms) mc ms n := by
    refine va_cnB n hts (ax_ws_good hs1) (ws' := ax_tb) (by rw [ax_ws, ax_hd_nil hs0]) rfl rfl (hT9.2.2.1 _ hs3).2 (hts _ hs2) hs4 ⟨?_, ?_⟩
    · show dy + 6 + 1 ≤ R.frames
      omega
    · exact ax_loc hs5 hdy hlo
  rw [hret] at hcb
  refine ax_behind (vx_runIN (ax_fix hX) (hM D b o) ⟨hcb, hini, hts _ hin⟩ ⟨ax_blind, ax_pcs hX X9 hT g4 g5 g6 hmc ha2⟩ rfl ((ax_vs_len ha).trans hn) (g1.1) (by rw [List.reverse_reverse]) (lv_room (by rw [ax_vs_cat hv2]; exact hcat)) hd ⟨by omega, by omega⟩) g1 g2 hv2 g5 g6 g7 hmc hms (fun v h' hq => K v h' hq D b o TC TS p e R s m args below meth c Z hX hP hXX) (fun E h' hq => KX E h' hq D b o TC TS p e R s m args below meth c Z hX hP hXX) T hT X9
/-- a method of the superclass, of an object whose class is known -/
theorem AR.invokeup {i n a ci : Nat} {q : ax_Cl} {vs : List Value} (hnil : y.2.2.2.2 = []) (hd : decode k.2.1 pc = .ok (.invokespecial i, 3)) (hs : ax_site k y i n) (hin : Cond.instanceMethod y.1 ∈ ax_tb) (hsm : Cond.sameMethod y.1.cls y.1.cls y.1.name y.1.desc ∈ ax_tb) (hsu : Cond.superclass k.1.cls y.1.cls ∈ ax_tb) (hno : y.1.name ≠ "<init>") (hq : ax_cls[ci]? = some q) (hg : ax_get r h a = some (ci, vs)) (hst : stk = as.reverse ++ .ref a :: st) (hn : as.length = n) (hM : AM ns l y dy r mc ms (.ref a :: as) h Q) (hdy : dy + 1 ≤ d) (hmc : mc ≤ bc) (hms : ms ≤ bs) (hcat : (st.map fun v => v.category).sum ≤ 8)
    (K : ∀ v h', Q (.inl v) h' → AR ns l k d r P X (pc + 3) lv (v.toList ++ st) h' (bc - mc) (bs - ms)) (KX : ∀ E h', Q (.inr E) h' → AX ns l k d r P X pc lv E h' (bc - mc) (bs - ms)) : AR ns l k d r P X pc lv stk h bc bs := by
  intro D b o TC TS p e R s m args below meth c Z hX hP hXX lvc ls stc H locs cells slots hG T hT X9
  subst hst
  obtain ⟨g1, g2, g3, g4, g5, g6, g7⟩ := hG
  obtain ⟨v1, v2, rfl, hv1, w0, t0, rfl, hw0, hv2⟩ := ax_vs_split g3
  cases hw0
  have ha := ax_vs_rev hv1
  rw [List.reverse_reverse] at ha
  have ha2 : ax_vs b o (.ref a :: as) (.ref (ax_ad b o a) :: v1.reverse) := ⟨_, _, rfl, rfl, ha⟩
  obtain ⟨-, -, -, -, hts, hT9, hfr, hlo, hTC, hTS, -⟩ := id hX
  obtain ⟨h1, h2, h3, h4, h5⟩ := hs
  have hcs : va_CS R s args k.1.cls i y.1 y.2.1 y.2.2.1 y.2.2.2.1 (ax_ws y) (ax_rm dy mc ms) mc ms n := by
    refine va_cwSU n hts (fun w hw => ?_) (ws' := ax_tb) (by rw [ax_ws, ax_hd_nil hnil]) rfl rfl ⟨hno, h4.2.2⟩ ⟨?_, ?_⟩
    · simp only [va_wsSU, List.cons_append, List.nil_append, List.mem_cons] at hw
      rcases hw with rfl | rfl | rfl | rfl | rfl | hw
      · exact ax_good _ h3
      · exact ax_good _ hsm
      · exact ax_good _ hsu
      · exact ax_good _ hin
      · exact ax_good _ h2
      · exact ax_ws_good h1 w hw
    · show dy + 6 + 1 ≤ R.frames
      omega
    · exact ax_loc h5 hdy hlo
  exact ax_behind (vx_runSU (hT9.1 ci q hq).2 (ax_fix hX) (hM D b o) hcs ⟨ax_blind, ax_recv hX g4 g5 hq hg, ax_pcs hX X9 hT g4 g5 g6 hmc ha2⟩ rfl ((ax_vs_len ha).trans hn) (g1.1) (by rw [List.reverse_reverse]) (lv_room (by rw [ax_vs_cat hv2]; exact hcat)) hd ⟨by omega, by omega⟩) g1 g2 hv2 g5 g6 g7 hmc hms (fun v h' hq => K v h' hq D b o TC TS p e R s m args below meth c Z hX hP hXX) (fun E h' hq => KX E h' hq D b o TC TS p e R s m args below meth c Z hX hP hXX) T hT X9
end AXC
